/-! heat, on a new object, piece 5: laid by wip/am/p1g.py. -/
set_option maxRecDepth 100000 in
def p5y5_1921 : ck_Sum := ((0, 0, 0), 245, [.inr (.inr (.inl 1)), .inl (ck_one 254)], ([], [], []), ([], []), [(.inr none, 245, ([], [], []))])
set_option maxRecDepth 100000 in
theorem p5y5_1921_e : ck_ok p1_O none [] [] 129 [] 82 p5y5_1921 = true := by decide +kernel
theorem p5y5_1921_s {X : Int → Int} {LX : Nat} : ck_Ok p1_O X LX 129 p5y5_1921 := ck_ok_s (ck_E0) ck_X0 ck_l0 p5y5_1921_e
set_option maxRecDepth 100000 in
def p5y5_1922 : ck_Sum := ((0, 0, 0), 245, [.inr (.inr (.inl 200)), .inl (ck_one 254)], ([], [], [(201, 254, 254, ck_one 1)]), ([], []), [(.inr (some (.inl (ck_one 1))), 245, ([], [], []))])
set_option maxRecDepth 100000 in
theorem p5y5_1922_e : ck_ok p1_O none [] [] 34 [] 92 p5y5_1922 = true := by decide +kernel
theorem p5y5_1922_s {X : Int → Int} {LX : Nat} : ck_Ok p1_O X LX 34 p5y5_1922 := ck_ok_s (ck_E0) ck_X0 ck_l0 p5y5_1922_e
set_option maxRecDepth 100000 in
def p5y5_1923 : ck_Sum := ((1, 0, 0), 245, [.inr (.inr (.inl 1)), .inl (ck_one 254)], ([], [], [(201, 254, 254, ck_one 1)]), ([], []), [(.inr (some (.inl (ck_one 1))), 245, ([], [], []))])
set_option maxRecDepth 100000 in
theorem p5y5_1923_e : ck_ok p1_O none [] [(129, [p5y5_1921]), (34, [p5y5_1922])] 128 [] 86 p5y5_1923 = true := by decide +kernel
theorem p5y5_1923_s {X : Int → Int} {LX : Nat} : ck_Ok p1_O X LX 128 p5y5_1923 := ck_ok_s (ck_E1 (ck_S1 p5y5_1921_s ck_S0) (ck_E1 (ck_S1 p5y5_1922_s ck_S0) ck_E0)) ck_X0 ck_l0 p5y5_1923_e
set_option maxRecDepth 100000 in
def p5y5_1924 : ck_Sum := ((2, 0, 0), 245, [.inr (.inr (.inl 1)), .inl (ck_one 254), .inr (.inr (.inl 245))], ([], [], [(201, 254, 254, ck_one 1)]), ([(245, 0, 0)], []), [(.inr (some (.inl (ck_one 0))), 245, ([], [], [(245, 0, 0, ck_one 1)]))])
set_option maxRecDepth 100000 in
theorem p5y5_1924_e : ck_ok p1_O none [] [(128, [p5y5_1923])] 127 [] 90 p5y5_1924 = true := by decide +kernel
theorem p5y5_1924_s {X : Int → Int} {LX : Nat} : ck_Ok p1_O X LX 127 p5y5_1924 := ck_ok_s (ck_E1 (ck_S1 p5y5_1923_s ck_S0) ck_E0) ck_X0 ck_l0 p5y5_1924_e
set_option maxRecDepth 100000 in
def p5y5_1928 : ck_Sum := ((0, 0, 0), 245, [.inr (.inr (.inl 1)), .inl (ck_one 255)], ([], [], []), ([], []), [(.inr none, 245, ([], [], []))])
set_option maxRecDepth 100000 in
theorem p5y5_1928_e : ck_ok p1_O none [] [] 129 [] 82 p5y5_1928 = true := by decide +kernel
theorem p5y5_1928_s {X : Int → Int} {LX : Nat} : ck_Ok p1_O X LX 129 p5y5_1928 := ck_ok_s (ck_E0) ck_X0 ck_l0 p5y5_1928_e
set_option maxRecDepth 100000 in
def p5y5_1929 : ck_Sum := ((0, 0, 0), 245, [.inr (.inr (.inl 200)), .inl (ck_one 255)], ([], [], [(201, 255, 255, ck_one 2)]), ([], []), [(.inr (some (.inl (ck_one 2))), 245, ([], [], []))])
set_option maxRecDepth 100000 in
theorem p5y5_1929_e : ck_ok p1_O none [] [] 34 [] 92 p5y5_1929 = true := by decide +kernel
theorem p5y5_1929_s {X : Int → Int} {LX : Nat} : ck_Ok p1_O X LX 34 p5y5_1929 := ck_ok_s (ck_E0) ck_X0 ck_l0 p5y5_1929_e
set_option maxRecDepth 100000 in
def p5y5_1930 : ck_Sum := ((1, 0, 0), 245, [.inr (.inr (.inl 1)), .inl (ck_one 255)], ([], [], [(201, 255, 255, ck_one 2)]), ([], []), [(.inr (some (.inl (ck_one 2))), 245, ([], [], []))])
set_option maxRecDepth 100000 in
theorem p5y5_1930_e : ck_ok p1_O none [] [(129, [p5y5_1928]), (34, [p5y5_1929])] 128 [] 86 p5y5_1930 = true := by decide +kernel
theorem p5y5_1930_s {X : Int → Int} {LX : Nat} : ck_Ok p1_O X LX 128 p5y5_1930 := ck_ok_s (ck_E1 (ck_S1 p5y5_1928_s ck_S0) (ck_E1 (ck_S1 p5y5_1929_s ck_S0) ck_E0)) ck_X0 ck_l0 p5y5_1930_e
set_option maxRecDepth 100000 in
def p5y5_1931 : ck_Sum := ((2, 0, 0), 245, [.inr (.inr (.inl 1)), .inl (ck_one 255), .inr (.inr (.inl 245))], ([], [], [(201, 255, 255, ck_one 2)]), ([(245, 0, 0)], []), [(.inr (some (.inl (ck_one 0))), 245, ([], [], [(245, 0, 0, ck_one 2)]))])
set_option maxRecDepth 100000 in
theorem p5y5_1931_e : ck_ok p1_O none [] [(128, [p5y5_1930])] 127 [] 90 p5y5_1931 = true := by decide +kernel
theorem p5y5_1931_s {X : Int → Int} {LX : Nat} : ck_Ok p1_O X LX 127 p5y5_1931 := ck_ok_s (ck_E1 (ck_S1 p5y5_1930_s ck_S0) ck_E0) ck_X0 ck_l0 p5y5_1931_e
set_option maxRecDepth 100000 in
def p5y5_1935 : ck_Sum := ((0, 0, 0), 245, [.inr (.inr (.inl 1)), .inl (ck_one 256)], ([], [], []), ([], []), [(.inr none, 245, ([], [], []))])
set_option maxRecDepth 100000 in
theorem p5y5_1935_e : ck_ok p1_O none [] [] 129 [] 82 p5y5_1935 = true := by decide +kernel
theorem p5y5_1935_s {X : Int → Int} {LX : Nat} : ck_Ok p1_O X LX 129 p5y5_1935 := ck_ok_s (ck_E0) ck_X0 ck_l0 p5y5_1935_e
set_option maxRecDepth 100000 in
def p5y5_1936 : ck_Sum := ((0, 0, 0), 245, [.inr (.inr (.inl 200)), .inl (ck_one 256)], ([], [], [(201, 256, 256, ck_one 0)]), ([], []), [(.inr (some (.inl (ck_one 0))), 245, ([], [], []))])
set_option maxRecDepth 100000 in
theorem p5y5_1936_e : ck_ok p1_O none [] [] 34 [] 92 p5y5_1936 = true := by decide +kernel
theorem p5y5_1936_s {X : Int → Int} {LX : Nat} : ck_Ok p1_O X LX 34 p5y5_1936 := ck_ok_s (ck_E0) ck_X0 ck_l0 p5y5_1936_e
set_option maxRecDepth 100000 in
def p5y5_1937 : ck_Sum := ((1, 0, 0), 245, [.inr (.inr (.inl 1)), .inl (ck_one 256)], ([], [], [(201, 256, 256, ck_one 0)]), ([], []), [(.inr (some (.inl (ck_one 0))), 245, ([], [], []))])
set_option maxRecDepth 100000 in
theorem p5y5_1937_e : ck_ok p1_O none [] [(129, [p5y5_1935]), (34, [p5y5_1936])] 128 [] 86 p5y5_1937 = true := by decide +kernel
theorem p5y5_1937_s {X : Int → Int} {LX : Nat} : ck_Ok p1_O X LX 128 p5y5_1937 := ck_ok_s (ck_E1 (ck_S1 p5y5_1935_s ck_S0) (ck_E1 (ck_S1 p5y5_1936_s ck_S0) ck_E0)) ck_X0 ck_l0 p5y5_1937_e
set_option maxRecDepth 100000 in
def p5y5_1938 : ck_Sum := ((2, 0, 0), 245, [.inr (.inr (.inl 1)), .inl (ck_one 256), .inr (.inr (.inl 245))], ([], [], [(201, 256, 256, ck_one 0)]), ([(245, 0, 0)], []), [(.inr (some (.inl (ck_one 0))), 245, ([], [], [(245, 0, 0, ck_one 0)]))])
set_option maxRecDepth 100000 in
theorem p5y5_1938_e : ck_ok p1_O none [] [(128, [p5y5_1937])] 127 [] 90 p5y5_1938 = true := by decide +kernel
theorem p5y5_1938_s {X : Int → Int} {LX : Nat} : ck_Ok p1_O X LX 127 p5y5_1938 := ck_ok_s (ck_E1 (ck_S1 p5y5_1937_s ck_S0) ck_E0) ck_X0 ck_l0 p5y5_1938_e
set_option maxRecDepth 100000 in
def p5y5_1942 : ck_Sum := ((0, 0, 0), 245, [.inr (.inr (.inl 1)), .inl (ck_one 257)], ([], [], []), ([], []), [(.inr none, 245, ([], [], []))])
set_option maxRecDepth 100000 in
theorem p5y5_1942_e : ck_ok p1_O none [] [] 129 [] 82 p5y5_1942 = true := by decide +kernel
theorem p5y5_1942_s {X : Int → Int} {LX : Nat} : ck_Ok p1_O X LX 129 p5y5_1942 := ck_ok_s (ck_E0) ck_X0 ck_l0 p5y5_1942_e
set_option maxRecDepth 100000 in
def p5y5_1943 : ck_Sum := ((0, 0, 0), 245, [.inr (.inr (.inl 200)), .inl (ck_one 257)], ([], [], [(201, 257, 257, ck_one 6)]), ([], []), [(.inr (some (.inl (ck_one 6))), 245, ([], [], []))])
set_option maxRecDepth 100000 in
theorem p5y5_1943_e : ck_ok p1_O none [] [] 34 [] 92 p5y5_1943 = true := by decide +kernel
theorem p5y5_1943_s {X : Int → Int} {LX : Nat} : ck_Ok p1_O X LX 34 p5y5_1943 := ck_ok_s (ck_E0) ck_X0 ck_l0 p5y5_1943_e
set_option maxRecDepth 100000 in
def p5y5_1944 : ck_Sum := ((1, 0, 0), 245, [.inr (.inr (.inl 1)), .inl (ck_one 257)], ([], [], [(201, 257, 257, ck_one 6)]), ([], []), [(.inr (some (.inl (ck_one 6))), 245, ([], [], []))])
set_option maxRecDepth 100000 in
theorem p5y5_1944_e : ck_ok p1_O none [] [(129, [p5y5_1942]), (34, [p5y5_1943])] 128 [] 86 p5y5_1944 = true := by decide +kernel
theorem p5y5_1944_s {X : Int → Int} {LX : Nat} : ck_Ok p1_O X LX 128 p5y5_1944 := ck_ok_s (ck_E1 (ck_S1 p5y5_1942_s ck_S0) (ck_E1 (ck_S1 p5y5_1943_s ck_S0) ck_E0)) ck_X0 ck_l0 p5y5_1944_e
set_option maxRecDepth 100000 in
def p5y5_1945 : ck_Sum := ((2, 0, 0), 245, [.inr (.inr (.inl 1)), .inl (ck_one 257), .inr (.inr (.inl 245))], ([], [], [(201, 257, 257, ck_one 6)]), ([(245, 0, 0)], []), [(.inr (some (.inl (ck_one 0))), 245, ([], [], [(245, 0, 0, ck_one 6)]))])
set_option maxRecDepth 100000 in
theorem p5y5_1945_e : ck_ok p1_O none [] [(128, [p5y5_1944])] 127 [] 90 p5y5_1945 = true := by decide +kernel
theorem p5y5_1945_s {X : Int → Int} {LX : Nat} : ck_Ok p1_O X LX 127 p5y5_1945 := ck_ok_s (ck_E1 (ck_S1 p5y5_1944_s ck_S0) ck_E0) ck_X0 ck_l0 p5y5_1945_e
set_option maxRecDepth 100000 in
def p5y5_1949 : ck_Sum := ((0, 0, 0), 245, [.inr (.inr (.inl 1)), .inl (ck_one 258)], ([], [], []), ([], []), [(.inr none, 245, ([], [], []))])
set_option maxRecDepth 100000 in
theorem p5y5_1949_e : ck_ok p1_O none [] [] 129 [] 82 p5y5_1949 = true := by decide +kernel
theorem p5y5_1949_s {X : Int → Int} {LX : Nat} : ck_Ok p1_O X LX 129 p5y5_1949 := ck_ok_s (ck_E0) ck_X0 ck_l0 p5y5_1949_e
set_option maxRecDepth 100000 in
def p5y5_1950 : ck_Sum := ((0, 0, 0), 245, [.inr (.inr (.inl 200)), .inl (ck_one 258)], ([], [], [(201, 258, 258, ck_one 1)]), ([], []), [(.inr (some (.inl (ck_one 1))), 245, ([], [], []))])
set_option maxRecDepth 100000 in
theorem p5y5_1950_e : ck_ok p1_O none [] [] 34 [] 92 p5y5_1950 = true := by decide +kernel
theorem p5y5_1950_s {X : Int → Int} {LX : Nat} : ck_Ok p1_O X LX 34 p5y5_1950 := ck_ok_s (ck_E0) ck_X0 ck_l0 p5y5_1950_e
set_option maxRecDepth 100000 in
def p5y5_1951 : ck_Sum := ((1, 0, 0), 245, [.inr (.inr (.inl 1)), .inl (ck_one 258)], ([], [], [(201, 258, 258, ck_one 1)]), ([], []), [(.inr (some (.inl (ck_one 1))), 245, ([], [], []))])
set_option maxRecDepth 100000 in
theorem p5y5_1951_e : ck_ok p1_O none [] [(129, [p5y5_1949]), (34, [p5y5_1950])] 128 [] 86 p5y5_1951 = true := by decide +kernel
theorem p5y5_1951_s {X : Int → Int} {LX : Nat} : ck_Ok p1_O X LX 128 p5y5_1951 := ck_ok_s (ck_E1 (ck_S1 p5y5_1949_s ck_S0) (ck_E1 (ck_S1 p5y5_1950_s ck_S0) ck_E0)) ck_X0 ck_l0 p5y5_1951_e
set_option maxRecDepth 100000 in
def p5y5_1952 : ck_Sum := ((2, 0, 0), 245, [.inr (.inr (.inl 1)), .inl (ck_one 258), .inr (.inr (.inl 245))], ([], [], [(201, 258, 258, ck_one 1)]), ([(245, 0, 0)], []), [(.inr (some (.inl (ck_one 0))), 245, ([], [], [(245, 0, 0, ck_one 1)]))])
set_option maxRecDepth 100000 in
theorem p5y5_1952_e : ck_ok p1_O none [] [(128, [p5y5_1951])] 127 [] 90 p5y5_1952 = true := by decide +kernel
theorem p5y5_1952_s {X : Int → Int} {LX : Nat} : ck_Ok p1_O X LX 127 p5y5_1952 := ck_ok_s (ck_E1 (ck_S1 p5y5_1951_s ck_S0) ck_E0) ck_X0 ck_l0 p5y5_1952_e
set_option maxRecDepth 100000 in
def p5y5_1956 : ck_Sum := ((0, 0, 0), 245, [.inr (.inr (.inl 1)), .inl (ck_one 259)], ([], [], []), ([], []), [(.inr none, 245, ([], [], []))])
set_option maxRecDepth 100000 in
theorem p5y5_1956_e : ck_ok p1_O none [] [] 129 [] 82 p5y5_1956 = true := by decide +kernel
theorem p5y5_1956_s {X : Int → Int} {LX : Nat} : ck_Ok p1_O X LX 129 p5y5_1956 := ck_ok_s (ck_E0) ck_X0 ck_l0 p5y5_1956_e
set_option maxRecDepth 100000 in
def p5y5_1957 : ck_Sum := ((0, 0, 0), 245, [.inr (.inr (.inl 200)), .inl (ck_one 259)], ([], [], [(201, 259, 259, ck_one 0)]), ([], []), [(.inr (some (.inl (ck_one 0))), 245, ([], [], []))])
set_option maxRecDepth 100000 in
theorem p5y5_1957_e : ck_ok p1_O none [] [] 34 [] 92 p5y5_1957 = true := by decide +kernel
theorem p5y5_1957_s {X : Int → Int} {LX : Nat} : ck_Ok p1_O X LX 34 p5y5_1957 := ck_ok_s (ck_E0) ck_X0 ck_l0 p5y5_1957_e
set_option maxRecDepth 100000 in
def p5y5_1958 : ck_Sum := ((1, 0, 0), 245, [.inr (.inr (.inl 1)), .inl (ck_one 259)], ([], [], [(201, 259, 259, ck_one 0)]), ([], []), [(.inr (some (.inl (ck_one 0))), 245, ([], [], []))])
set_option maxRecDepth 100000 in
theorem p5y5_1958_e : ck_ok p1_O none [] [(129, [p5y5_1956]), (34, [p5y5_1957])] 128 [] 86 p5y5_1958 = true := by decide +kernel
theorem p5y5_1958_s {X : Int → Int} {LX : Nat} : ck_Ok p1_O X LX 128 p5y5_1958 := ck_ok_s (ck_E1 (ck_S1 p5y5_1956_s ck_S0) (ck_E1 (ck_S1 p5y5_1957_s ck_S0) ck_E0)) ck_X0 ck_l0 p5y5_1958_e
set_option maxRecDepth 100000 in
def p5y5_1959 : ck_Sum := ((2, 0, 0), 245, [.inr (.inr (.inl 1)), .inl (ck_one 259), .inr (.inr (.inl 245))], ([], [], [(201, 259, 259, ck_one 0)]), ([(245, 0, 0)], []), [(.inr (some (.inl (ck_one 0))), 245, ([], [], [(245, 0, 0, ck_one 0)]))])
set_option maxRecDepth 100000 in
theorem p5y5_1959_e : ck_ok p1_O none [] [(128, [p5y5_1958])] 127 [] 90 p5y5_1959 = true := by decide +kernel
theorem p5y5_1959_s {X : Int → Int} {LX : Nat} : ck_Ok p1_O X LX 127 p5y5_1959 := ck_ok_s (ck_E1 (ck_S1 p5y5_1958_s ck_S0) ck_E0) ck_X0 ck_l0 p5y5_1959_e
set_option maxRecDepth 100000 in
def p5y5_1963 : ck_Sum := ((0, 0, 0), 245, [.inr (.inr (.inl 1)), .inl (ck_one 260)], ([], [], []), ([], []), [(.inr none, 245, ([], [], []))])
set_option maxRecDepth 100000 in
theorem p5y5_1963_e : ck_ok p1_O none [] [] 129 [] 82 p5y5_1963 = true := by decide +kernel
theorem p5y5_1963_s {X : Int → Int} {LX : Nat} : ck_Ok p1_O X LX 129 p5y5_1963 := ck_ok_s (ck_E0) ck_X0 ck_l0 p5y5_1963_e
set_option maxRecDepth 100000 in
def p5y5_1964 : ck_Sum := ((0, 0, 0), 245, [.inr (.inr (.inl 200)), .inl (ck_one 260)], ([], [], [(201, 260, 260, ck_one 1)]), ([], []), [(.inr (some (.inl (ck_one 1))), 245, ([], [], []))])
set_option maxRecDepth 100000 in
theorem p5y5_1964_e : ck_ok p1_O none [] [] 34 [] 92 p5y5_1964 = true := by decide +kernel
theorem p5y5_1964_s {X : Int → Int} {LX : Nat} : ck_Ok p1_O X LX 34 p5y5_1964 := ck_ok_s (ck_E0) ck_X0 ck_l0 p5y5_1964_e
set_option maxRecDepth 100000 in
def p5y5_1965 : ck_Sum := ((1, 0, 0), 245, [.inr (.inr (.inl 1)), .inl (ck_one 260)], ([], [], [(201, 260, 260, ck_one 1)]), ([], []), [(.inr (some (.inl (ck_one 1))), 245, ([], [], []))])
set_option maxRecDepth 100000 in
theorem p5y5_1965_e : ck_ok p1_O none [] [(129, [p5y5_1963]), (34, [p5y5_1964])] 128 [] 86 p5y5_1965 = true := by decide +kernel
theorem p5y5_1965_s {X : Int → Int} {LX : Nat} : ck_Ok p1_O X LX 128 p5y5_1965 := ck_ok_s (ck_E1 (ck_S1 p5y5_1963_s ck_S0) (ck_E1 (ck_S1 p5y5_1964_s ck_S0) ck_E0)) ck_X0 ck_l0 p5y5_1965_e
set_option maxRecDepth 100000 in
def p5y5_1966 : ck_Sum := ((2, 0, 0), 245, [.inr (.inr (.inl 1)), .inl (ck_one 260), .inr (.inr (.inl 245))], ([], [], [(201, 260, 260, ck_one 1)]), ([(245, 0, 0)], []), [(.inr (some (.inl (ck_one 0))), 245, ([], [], [(245, 0, 0, ck_one 1)]))])
set_option maxRecDepth 100000 in
theorem p5y5_1966_e : ck_ok p1_O none [] [(128, [p5y5_1965])] 127 [] 90 p5y5_1966 = true := by decide +kernel
theorem p5y5_1966_s {X : Int → Int} {LX : Nat} : ck_Ok p1_O X LX 127 p5y5_1966 := ck_ok_s (ck_E1 (ck_S1 p5y5_1965_s ck_S0) ck_E0) ck_X0 ck_l0 p5y5_1966_e
set_option maxRecDepth 100000 in
def p5y5_1970 : ck_Sum := ((0, 0, 0), 245, [.inr (.inr (.inl 1)), .inl (ck_one 261)], ([], [], []), ([], []), [(.inr none, 245, ([], [], []))])
set_option maxRecDepth 100000 in
theorem p5y5_1970_e : ck_ok p1_O none [] [] 129 [] 82 p5y5_1970 = true := by decide +kernel
theorem p5y5_1970_s {X : Int → Int} {LX : Nat} : ck_Ok p1_O X LX 129 p5y5_1970 := ck_ok_s (ck_E0) ck_X0 ck_l0 p5y5_1970_e
set_option maxRecDepth 100000 in
def p5y5_1971 : ck_Sum := ((0, 0, 0), 245, [.inr (.inr (.inl 200)), .inl (ck_one 261)], ([], [], [(201, 261, 261, ck_one 7)]), ([], []), [(.inr (some (.inl (ck_one 7))), 245, ([], [], []))])
set_option maxRecDepth 100000 in
theorem p5y5_1971_e : ck_ok p1_O none [] [] 34 [] 92 p5y5_1971 = true := by decide +kernel
theorem p5y5_1971_s {X : Int → Int} {LX : Nat} : ck_Ok p1_O X LX 34 p5y5_1971 := ck_ok_s (ck_E0) ck_X0 ck_l0 p5y5_1971_e
set_option maxRecDepth 100000 in
def p5y5_1972 : ck_Sum := ((1, 0, 0), 245, [.inr (.inr (.inl 1)), .inl (ck_one 261)], ([], [], [(201, 261, 261, ck_one 7)]), ([], []), [(.inr (some (.inl (ck_one 7))), 245, ([], [], []))])
set_option maxRecDepth 100000 in
theorem p5y5_1972_e : ck_ok p1_O none [] [(129, [p5y5_1970]), (34, [p5y5_1971])] 128 [] 86 p5y5_1972 = true := by decide +kernel
theorem p5y5_1972_s {X : Int → Int} {LX : Nat} : ck_Ok p1_O X LX 128 p5y5_1972 := ck_ok_s (ck_E1 (ck_S1 p5y5_1970_s ck_S0) (ck_E1 (ck_S1 p5y5_1971_s ck_S0) ck_E0)) ck_X0 ck_l0 p5y5_1972_e
set_option maxRecDepth 100000 in
def p5y5_1973 : ck_Sum := ((2, 0, 0), 245, [.inr (.inr (.inl 1)), .inl (ck_one 261), .inr (.inr (.inl 245))], ([], [], [(201, 261, 261, ck_one 7)]), ([(245, 0, 0)], []), [(.inr (some (.inl (ck_one 0))), 245, ([], [], [(245, 0, 0, ck_one 7)]))])
set_option maxRecDepth 100000 in
theorem p5y5_1973_e : ck_ok p1_O none [] [(128, [p5y5_1972])] 127 [] 90 p5y5_1973 = true := by decide +kernel
theorem p5y5_1973_s {X : Int → Int} {LX : Nat} : ck_Ok p1_O X LX 127 p5y5_1973 := ck_ok_s (ck_E1 (ck_S1 p5y5_1972_s ck_S0) ck_E0) ck_X0 ck_l0 p5y5_1973_e
set_option maxRecDepth 100000 in
def p5y5_1977 : ck_Sum := ((0, 0, 0), 245, [.inr (.inr (.inl 1)), .inl (ck_one 262)], ([], [], []), ([], []), [(.inr none, 245, ([], [], []))])
set_option maxRecDepth 100000 in
theorem p5y5_1977_e : ck_ok p1_O none [] [] 129 [] 82 p5y5_1977 = true := by decide +kernel
theorem p5y5_1977_s {X : Int → Int} {LX : Nat} : ck_Ok p1_O X LX 129 p5y5_1977 := ck_ok_s (ck_E0) ck_X0 ck_l0 p5y5_1977_e
set_option maxRecDepth 100000 in
def p5y5_1978 : ck_Sum := ((0, 0, 0), 245, [.inr (.inr (.inl 200)), .inl (ck_one 262)], ([], [], [(201, 262, 262, ck_one 9)]), ([], []), [(.inr (some (.inl (ck_one 9))), 245, ([], [], []))])
set_option maxRecDepth 100000 in
theorem p5y5_1978_e : ck_ok p1_O none [] [] 34 [] 92 p5y5_1978 = true := by decide +kernel
theorem p5y5_1978_s {X : Int → Int} {LX : Nat} : ck_Ok p1_O X LX 34 p5y5_1978 := ck_ok_s (ck_E0) ck_X0 ck_l0 p5y5_1978_e
set_option maxRecDepth 100000 in
def p5y5_1979 : ck_Sum := ((1, 0, 0), 245, [.inr (.inr (.inl 1)), .inl (ck_one 262)], ([], [], [(201, 262, 262, ck_one 9)]), ([], []), [(.inr (some (.inl (ck_one 9))), 245, ([], [], []))])
set_option maxRecDepth 100000 in
theorem p5y5_1979_e : ck_ok p1_O none [] [(129, [p5y5_1977]), (34, [p5y5_1978])] 128 [] 86 p5y5_1979 = true := by decide +kernel
theorem p5y5_1979_s {X : Int → Int} {LX : Nat} : ck_Ok p1_O X LX 128 p5y5_1979 := ck_ok_s (ck_E1 (ck_S1 p5y5_1977_s ck_S0) (ck_E1 (ck_S1 p5y5_1978_s ck_S0) ck_E0)) ck_X0 ck_l0 p5y5_1979_e
set_option maxRecDepth 100000 in
def p5y5_1980 : ck_Sum := ((2, 0, 0), 245, [.inr (.inr (.inl 1)), .inl (ck_one 262), .inr (.inr (.inl 245))], ([], [], [(201, 262, 262, ck_one 9)]), ([(245, 0, 0)], []), [(.inr (some (.inl (ck_one 0))), 245, ([], [], [(245, 0, 0, ck_one 9)]))])
set_option maxRecDepth 100000 in
theorem p5y5_1980_e : ck_ok p1_O none [] [(128, [p5y5_1979])] 127 [] 90 p5y5_1980 = true := by decide +kernel
theorem p5y5_1980_s {X : Int → Int} {LX : Nat} : ck_Ok p1_O X LX 127 p5y5_1980 := ck_ok_s (ck_E1 (ck_S1 p5y5_1979_s ck_S0) ck_E0) ck_X0 ck_l0 p5y5_1980_e
set_option maxRecDepth 100000 in
def p5y5_1984 : ck_Sum := ((0, 0, 0), 245, [.inr (.inr (.inl 1)), .inl (ck_one 263)], ([], [], []), ([], []), [(.inr none, 245, ([], [], []))])
set_option maxRecDepth 100000 in
theorem p5y5_1984_e : ck_ok p1_O none [] [] 129 [] 82 p5y5_1984 = true := by decide +kernel
theorem p5y5_1984_s {X : Int → Int} {LX : Nat} : ck_Ok p1_O X LX 129 p5y5_1984 := ck_ok_s (ck_E0) ck_X0 ck_l0 p5y5_1984_e
set_option maxRecDepth 100000 in
def p5y5_1985 : ck_Sum := ((0, 0, 0), 245, [.inr (.inr (.inl 200)), .inl (ck_one 263)], ([], [], [(201, 263, 263, ck_one 0)]), ([], []), [(.inr (some (.inl (ck_one 0))), 245, ([], [], []))])
set_option maxRecDepth 100000 in
theorem p5y5_1985_e : ck_ok p1_O none [] [] 34 [] 92 p5y5_1985 = true := by decide +kernel
theorem p5y5_1985_s {X : Int → Int} {LX : Nat} : ck_Ok p1_O X LX 34 p5y5_1985 := ck_ok_s (ck_E0) ck_X0 ck_l0 p5y5_1985_e
set_option maxRecDepth 100000 in
def p5y5_1986 : ck_Sum := ((1, 0, 0), 245, [.inr (.inr (.inl 1)), .inl (ck_one 263)], ([], [], [(201, 263, 263, ck_one 0)]), ([], []), [(.inr (some (.inl (ck_one 0))), 245, ([], [], []))])
set_option maxRecDepth 100000 in
theorem p5y5_1986_e : ck_ok p1_O none [] [(129, [p5y5_1984]), (34, [p5y5_1985])] 128 [] 86 p5y5_1986 = true := by decide +kernel
theorem p5y5_1986_s {X : Int → Int} {LX : Nat} : ck_Ok p1_O X LX 128 p5y5_1986 := ck_ok_s (ck_E1 (ck_S1 p5y5_1984_s ck_S0) (ck_E1 (ck_S1 p5y5_1985_s ck_S0) ck_E0)) ck_X0 ck_l0 p5y5_1986_e
set_option maxRecDepth 100000 in
def p5y5_1987 : ck_Sum := ((2, 0, 0), 245, [.inr (.inr (.inl 1)), .inl (ck_one 263), .inr (.inr (.inl 245))], ([], [], [(201, 263, 263, ck_one 0)]), ([(245, 0, 0)], []), [(.inr (some (.inl (ck_one 0))), 245, ([], [], [(245, 0, 0, ck_one 0)]))])
set_option maxRecDepth 100000 in
theorem p5y5_1987_e : ck_ok p1_O none [] [(128, [p5y5_1986])] 127 [] 90 p5y5_1987 = true := by decide +kernel
theorem p5y5_1987_s {X : Int → Int} {LX : Nat} : ck_Ok p1_O X LX 127 p5y5_1987 := ck_ok_s (ck_E1 (ck_S1 p5y5_1986_s ck_S0) ck_E0) ck_X0 ck_l0 p5y5_1987_e
set_option maxRecDepth 100000 in
def p5y5_1991 : ck_Sum := ((0, 0, 0), 245, [.inr (.inr (.inl 1)), .inl (ck_one 264)], ([], [], []), ([], []), [(.inr none, 245, ([], [], []))])
set_option maxRecDepth 100000 in
theorem p5y5_1991_e : ck_ok p1_O none [] [] 129 [] 82 p5y5_1991 = true := by decide +kernel
theorem p5y5_1991_s {X : Int → Int} {LX : Nat} : ck_Ok p1_O X LX 129 p5y5_1991 := ck_ok_s (ck_E0) ck_X0 ck_l0 p5y5_1991_e
set_option maxRecDepth 100000 in
def p5y5_1992 : ck_Sum := ((0, 0, 0), 245, [.inr (.inr (.inl 200)), .inl (ck_one 264)], ([], [], [(201, 264, 264, ck_one 6)]), ([], []), [(.inr (some (.inl (ck_one 6))), 245, ([], [], []))])
set_option maxRecDepth 100000 in
theorem p5y5_1992_e : ck_ok p1_O none [] [] 34 [] 92 p5y5_1992 = true := by decide +kernel
theorem p5y5_1992_s {X : Int → Int} {LX : Nat} : ck_Ok p1_O X LX 34 p5y5_1992 := ck_ok_s (ck_E0) ck_X0 ck_l0 p5y5_1992_e
set_option maxRecDepth 100000 in
def p5y5_1993 : ck_Sum := ((1, 0, 0), 245, [.inr (.inr (.inl 1)), .inl (ck_one 264)], ([], [], [(201, 264, 264, ck_one 6)]), ([], []), [(.inr (some (.inl (ck_one 6))), 245, ([], [], []))])
set_option maxRecDepth 100000 in
theorem p5y5_1993_e : ck_ok p1_O none [] [(129, [p5y5_1991]), (34, [p5y5_1992])] 128 [] 86 p5y5_1993 = true := by decide +kernel
theorem p5y5_1993_s {X : Int → Int} {LX : Nat} : ck_Ok p1_O X LX 128 p5y5_1993 := ck_ok_s (ck_E1 (ck_S1 p5y5_1991_s ck_S0) (ck_E1 (ck_S1 p5y5_1992_s ck_S0) ck_E0)) ck_X0 ck_l0 p5y5_1993_e
set_option maxRecDepth 100000 in
def p5y5_1994 : ck_Sum := ((2, 0, 0), 245, [.inr (.inr (.inl 1)), .inl (ck_one 264), .inr (.inr (.inl 245))], ([], [], [(201, 264, 264, ck_one 6)]), ([(245, 0, 0)], []), [(.inr (some (.inl (ck_one 0))), 245, ([], [], [(245, 0, 0, ck_one 6)]))])
set_option maxRecDepth 100000 in
theorem p5y5_1994_e : ck_ok p1_O none [] [(128, [p5y5_1993])] 127 [] 90 p5y5_1994 = true := by decide +kernel
theorem p5y5_1994_s {X : Int → Int} {LX : Nat} : ck_Ok p1_O X LX 127 p5y5_1994 := ck_ok_s (ck_E1 (ck_S1 p5y5_1993_s ck_S0) ck_E0) ck_X0 ck_l0 p5y5_1994_e
set_option maxRecDepth 100000 in
def p5y5_1998 : ck_Sum := ((0, 0, 0), 245, [.inr (.inr (.inl 1)), .inl (ck_one 265)], ([], [], []), ([], []), [(.inr none, 245, ([], [], []))])
set_option maxRecDepth 100000 in
theorem p5y5_1998_e : ck_ok p1_O none [] [] 129 [] 82 p5y5_1998 = true := by decide +kernel
theorem p5y5_1998_s {X : Int → Int} {LX : Nat} : ck_Ok p1_O X LX 129 p5y5_1998 := ck_ok_s (ck_E0) ck_X0 ck_l0 p5y5_1998_e
set_option maxRecDepth 100000 in
def p5y5_1999 : ck_Sum := ((0, 0, 0), 245, [.inr (.inr (.inl 200)), .inl (ck_one 265)], ([], [], [(201, 265, 265, ck_one 3)]), ([], []), [(.inr (some (.inl (ck_one 3))), 245, ([], [], []))])
set_option maxRecDepth 100000 in
theorem p5y5_1999_e : ck_ok p1_O none [] [] 34 [] 92 p5y5_1999 = true := by decide +kernel
theorem p5y5_1999_s {X : Int → Int} {LX : Nat} : ck_Ok p1_O X LX 34 p5y5_1999 := ck_ok_s (ck_E0) ck_X0 ck_l0 p5y5_1999_e
set_option maxRecDepth 100000 in
def p5y5_2000 : ck_Sum := ((1, 0, 0), 245, [.inr (.inr (.inl 1)), .inl (ck_one 265)], ([], [], [(201, 265, 265, ck_one 3)]), ([], []), [(.inr (some (.inl (ck_one 3))), 245, ([], [], []))])
set_option maxRecDepth 100000 in
theorem p5y5_2000_e : ck_ok p1_O none [] [(129, [p5y5_1998]), (34, [p5y5_1999])] 128 [] 86 p5y5_2000 = true := by decide +kernel
theorem p5y5_2000_s {X : Int → Int} {LX : Nat} : ck_Ok p1_O X LX 128 p5y5_2000 := ck_ok_s (ck_E1 (ck_S1 p5y5_1998_s ck_S0) (ck_E1 (ck_S1 p5y5_1999_s ck_S0) ck_E0)) ck_X0 ck_l0 p5y5_2000_e
set_option maxRecDepth 100000 in
def p5y5_2001 : ck_Sum := ((2, 0, 0), 245, [.inr (.inr (.inl 1)), .inl (ck_one 265), .inr (.inr (.inl 245))], ([], [], [(201, 265, 265, ck_one 3)]), ([(245, 0, 0)], []), [(.inr (some (.inl (ck_one 0))), 245, ([], [], [(245, 0, 0, ck_one 3)]))])
set_option maxRecDepth 100000 in
theorem p5y5_2001_e : ck_ok p1_O none [] [(128, [p5y5_2000])] 127 [] 90 p5y5_2001 = true := by decide +kernel
theorem p5y5_2001_s {X : Int → Int} {LX : Nat} : ck_Ok p1_O X LX 127 p5y5_2001 := ck_ok_s (ck_E1 (ck_S1 p5y5_2000_s ck_S0) ck_E0) ck_X0 ck_l0 p5y5_2001_e
set_option maxRecDepth 100000 in
def p5y5_2005 : ck_Sum := ((0, 0, 0), 245, [.inr (.inr (.inl 1)), .inl (ck_one 266)], ([], [], []), ([], []), [(.inr none, 245, ([], [], []))])
set_option maxRecDepth 100000 in
theorem p5y5_2005_e : ck_ok p1_O none [] [] 129 [] 82 p5y5_2005 = true := by decide +kernel
theorem p5y5_2005_s {X : Int → Int} {LX : Nat} : ck_Ok p1_O X LX 129 p5y5_2005 := ck_ok_s (ck_E0) ck_X0 ck_l0 p5y5_2005_e
set_option maxRecDepth 100000 in
def p5y5_2006 : ck_Sum := ((0, 0, 0), 245, [.inr (.inr (.inl 200)), .inl (ck_one 266)], ([], [], [(201, 266, 266, ck_one 8)]), ([], []), [(.inr (some (.inl (ck_one 8))), 245, ([], [], []))])
set_option maxRecDepth 100000 in
theorem p5y5_2006_e : ck_ok p1_O none [] [] 34 [] 92 p5y5_2006 = true := by decide +kernel
theorem p5y5_2006_s {X : Int → Int} {LX : Nat} : ck_Ok p1_O X LX 34 p5y5_2006 := ck_ok_s (ck_E0) ck_X0 ck_l0 p5y5_2006_e
set_option maxRecDepth 100000 in
def p5y5_2007 : ck_Sum := ((1, 0, 0), 245, [.inr (.inr (.inl 1)), .inl (ck_one 266)], ([], [], [(201, 266, 266, ck_one 8)]), ([], []), [(.inr (some (.inl (ck_one 8))), 245, ([], [], []))])
set_option maxRecDepth 100000 in
theorem p5y5_2007_e : ck_ok p1_O none [] [(129, [p5y5_2005]), (34, [p5y5_2006])] 128 [] 86 p5y5_2007 = true := by decide +kernel
theorem p5y5_2007_s {X : Int → Int} {LX : Nat} : ck_Ok p1_O X LX 128 p5y5_2007 := ck_ok_s (ck_E1 (ck_S1 p5y5_2005_s ck_S0) (ck_E1 (ck_S1 p5y5_2006_s ck_S0) ck_E0)) ck_X0 ck_l0 p5y5_2007_e
set_option maxRecDepth 100000 in
def p5y5_2008 : ck_Sum := ((2, 0, 0), 245, [.inr (.inr (.inl 1)), .inl (ck_one 266), .inr (.inr (.inl 245))], ([], [], [(201, 266, 266, ck_one 8)]), ([(245, 0, 0)], []), [(.inr (some (.inl (ck_one 0))), 245, ([], [], [(245, 0, 0, ck_one 8)]))])
set_option maxRecDepth 100000 in
theorem p5y5_2008_e : ck_ok p1_O none [] [(128, [p5y5_2007])] 127 [] 90 p5y5_2008 = true := by decide +kernel
theorem p5y5_2008_s {X : Int → Int} {LX : Nat} : ck_Ok p1_O X LX 127 p5y5_2008 := ck_ok_s (ck_E1 (ck_S1 p5y5_2007_s ck_S0) ck_E0) ck_X0 ck_l0 p5y5_2008_e
set_option maxRecDepth 100000 in
def p5y5_2012 : ck_Sum := ((0, 0, 0), 245, [.inr (.inr (.inl 1)), .inl (ck_one 267)], ([], [], []), ([], []), [(.inr none, 245, ([], [], []))])
set_option maxRecDepth 100000 in
theorem p5y5_2012_e : ck_ok p1_O none [] [] 129 [] 82 p5y5_2012 = true := by decide +kernel
theorem p5y5_2012_s {X : Int → Int} {LX : Nat} : ck_Ok p1_O X LX 129 p5y5_2012 := ck_ok_s (ck_E0) ck_X0 ck_l0 p5y5_2012_e
set_option maxRecDepth 100000 in
def p5y5_2013 : ck_Sum := ((0, 0, 0), 245, [.inr (.inr (.inl 200)), .inl (ck_one 267)], ([], [], [(201, 267, 267, ck_one 3)]), ([], []), [(.inr (some (.inl (ck_one 3))), 245, ([], [], []))])
set_option maxRecDepth 100000 in
theorem p5y5_2013_e : ck_ok p1_O none [] [] 34 [] 92 p5y5_2013 = true := by decide +kernel
theorem p5y5_2013_s {X : Int → Int} {LX : Nat} : ck_Ok p1_O X LX 34 p5y5_2013 := ck_ok_s (ck_E0) ck_X0 ck_l0 p5y5_2013_e
set_option maxRecDepth 100000 in
def p5y5_2014 : ck_Sum := ((1, 0, 0), 245, [.inr (.inr (.inl 1)), .inl (ck_one 267)], ([], [], [(201, 267, 267, ck_one 3)]), ([], []), [(.inr (some (.inl (ck_one 3))), 245, ([], [], []))])
set_option maxRecDepth 100000 in
theorem p5y5_2014_e : ck_ok p1_O none [] [(129, [p5y5_2012]), (34, [p5y5_2013])] 128 [] 86 p5y5_2014 = true := by decide +kernel
theorem p5y5_2014_s {X : Int → Int} {LX : Nat} : ck_Ok p1_O X LX 128 p5y5_2014 := ck_ok_s (ck_E1 (ck_S1 p5y5_2012_s ck_S0) (ck_E1 (ck_S1 p5y5_2013_s ck_S0) ck_E0)) ck_X0 ck_l0 p5y5_2014_e
set_option maxRecDepth 100000 in
def p5y5_2015 : ck_Sum := ((2, 0, 0), 245, [.inr (.inr (.inl 1)), .inl (ck_one 267), .inr (.inr (.inl 245))], ([], [], [(201, 267, 267, ck_one 3)]), ([(245, 0, 0)], []), [(.inr (some (.inl (ck_one 0))), 245, ([], [], [(245, 0, 0, ck_one 3)]))])
set_option maxRecDepth 100000 in
theorem p5y5_2015_e : ck_ok p1_O none [] [(128, [p5y5_2014])] 127 [] 90 p5y5_2015 = true := by decide +kernel
theorem p5y5_2015_s {X : Int → Int} {LX : Nat} : ck_Ok p1_O X LX 127 p5y5_2015 := ck_ok_s (ck_E1 (ck_S1 p5y5_2014_s ck_S0) ck_E0) ck_X0 ck_l0 p5y5_2015_e
set_option maxRecDepth 100000 in
def p5y5_2019 : ck_Sum := ((0, 0, 0), 245, [.inr (.inr (.inl 1)), .inl (ck_one 268)], ([], [], []), ([], []), [(.inr none, 245, ([], [], []))])
set_option maxRecDepth 100000 in
theorem p5y5_2019_e : ck_ok p1_O none [] [] 129 [] 82 p5y5_2019 = true := by decide +kernel
theorem p5y5_2019_s {X : Int → Int} {LX : Nat} : ck_Ok p1_O X LX 129 p5y5_2019 := ck_ok_s (ck_E0) ck_X0 ck_l0 p5y5_2019_e
set_option maxRecDepth 100000 in
def p5y5_2020 : ck_Sum := ((0, 0, 0), 245, [.inr (.inr (.inl 200)), .inl (ck_one 268)], ([], [], [(201, 268, 268, ck_one 1)]), ([], []), [(.inr (some (.inl (ck_one 1))), 245, ([], [], []))])
set_option maxRecDepth 100000 in
theorem p5y5_2020_e : ck_ok p1_O none [] [] 34 [] 92 p5y5_2020 = true := by decide +kernel
theorem p5y5_2020_s {X : Int → Int} {LX : Nat} : ck_Ok p1_O X LX 34 p5y5_2020 := ck_ok_s (ck_E0) ck_X0 ck_l0 p5y5_2020_e
set_option maxRecDepth 100000 in
def p5y5_2021 : ck_Sum := ((1, 0, 0), 245, [.inr (.inr (.inl 1)), .inl (ck_one 268)], ([], [], [(201, 268, 268, ck_one 1)]), ([], []), [(.inr (some (.inl (ck_one 1))), 245, ([], [], []))])
set_option maxRecDepth 100000 in
theorem p5y5_2021_e : ck_ok p1_O none [] [(129, [p5y5_2019]), (34, [p5y5_2020])] 128 [] 86 p5y5_2021 = true := by decide +kernel
theorem p5y5_2021_s {X : Int → Int} {LX : Nat} : ck_Ok p1_O X LX 128 p5y5_2021 := ck_ok_s (ck_E1 (ck_S1 p5y5_2019_s ck_S0) (ck_E1 (ck_S1 p5y5_2020_s ck_S0) ck_E0)) ck_X0 ck_l0 p5y5_2021_e
set_option maxRecDepth 100000 in
def p5y5_2022 : ck_Sum := ((2, 0, 0), 245, [.inr (.inr (.inl 1)), .inl (ck_one 268), .inr (.inr (.inl 245))], ([], [], [(201, 268, 268, ck_one 1)]), ([(245, 0, 0)], []), [(.inr (some (.inl (ck_one 0))), 245, ([], [], [(245, 0, 0, ck_one 1)]))])
set_option maxRecDepth 100000 in
theorem p5y5_2022_e : ck_ok p1_O none [] [(128, [p5y5_2021])] 127 [] 90 p5y5_2022 = true := by decide +kernel
theorem p5y5_2022_s {X : Int → Int} {LX : Nat} : ck_Ok p1_O X LX 127 p5y5_2022 := ck_ok_s (ck_E1 (ck_S1 p5y5_2021_s ck_S0) ck_E0) ck_X0 ck_l0 p5y5_2022_e
set_option maxRecDepth 100000 in
def p5y5_2026 : ck_Sum := ((0, 0, 0), 245, [.inr (.inr (.inl 1)), .inl (ck_one 269)], ([], [], []), ([], []), [(.inr none, 245, ([], [], []))])
set_option maxRecDepth 100000 in
theorem p5y5_2026_e : ck_ok p1_O none [] [] 129 [] 82 p5y5_2026 = true := by decide +kernel
theorem p5y5_2026_s {X : Int → Int} {LX : Nat} : ck_Ok p1_O X LX 129 p5y5_2026 := ck_ok_s (ck_E0) ck_X0 ck_l0 p5y5_2026_e
set_option maxRecDepth 100000 in
def p5y5_2027 : ck_Sum := ((0, 0, 0), 245, [.inr (.inr (.inl 200)), .inl (ck_one 269)], ([], [], [(201, 269, 269, ck_one 1)]), ([], []), [(.inr (some (.inl (ck_one 1))), 245, ([], [], []))])
set_option maxRecDepth 100000 in
theorem p5y5_2027_e : ck_ok p1_O none [] [] 34 [] 92 p5y5_2027 = true := by decide +kernel
theorem p5y5_2027_s {X : Int → Int} {LX : Nat} : ck_Ok p1_O X LX 34 p5y5_2027 := ck_ok_s (ck_E0) ck_X0 ck_l0 p5y5_2027_e
set_option maxRecDepth 100000 in
def p5y5_2028 : ck_Sum := ((1, 0, 0), 245, [.inr (.inr (.inl 1)), .inl (ck_one 269)], ([], [], [(201, 269, 269, ck_one 1)]), ([], []), [(.inr (some (.inl (ck_one 1))), 245, ([], [], []))])
set_option maxRecDepth 100000 in
theorem p5y5_2028_e : ck_ok p1_O none [] [(129, [p5y5_2026]), (34, [p5y5_2027])] 128 [] 86 p5y5_2028 = true := by decide +kernel
theorem p5y5_2028_s {X : Int → Int} {LX : Nat} : ck_Ok p1_O X LX 128 p5y5_2028 := ck_ok_s (ck_E1 (ck_S1 p5y5_2026_s ck_S0) (ck_E1 (ck_S1 p5y5_2027_s ck_S0) ck_E0)) ck_X0 ck_l0 p5y5_2028_e
set_option maxRecDepth 100000 in
def p5y5_2029 : ck_Sum := ((2, 0, 0), 245, [.inr (.inr (.inl 1)), .inl (ck_one 269), .inr (.inr (.inl 245))], ([], [], [(201, 269, 269, ck_one 1)]), ([(245, 0, 0)], []), [(.inr (some (.inl (ck_one 0))), 245, ([], [], [(245, 0, 0, ck_one 1)]))])
set_option maxRecDepth 100000 in
theorem p5y5_2029_e : ck_ok p1_O none [] [(128, [p5y5_2028])] 127 [] 90 p5y5_2029 = true := by decide +kernel
theorem p5y5_2029_s {X : Int → Int} {LX : Nat} : ck_Ok p1_O X LX 127 p5y5_2029 := ck_ok_s (ck_E1 (ck_S1 p5y5_2028_s ck_S0) ck_E0) ck_X0 ck_l0 p5y5_2029_e
set_option maxRecDepth 100000 in
def p5y5_2033 : ck_Sum := ((0, 0, 0), 245, [.inr (.inr (.inl 1)), .inl (ck_one 270)], ([], [], []), ([], []), [(.inr none, 245, ([], [], []))])
set_option maxRecDepth 100000 in
theorem p5y5_2033_e : ck_ok p1_O none [] [] 129 [] 82 p5y5_2033 = true := by decide +kernel
theorem p5y5_2033_s {X : Int → Int} {LX : Nat} : ck_Ok p1_O X LX 129 p5y5_2033 := ck_ok_s (ck_E0) ck_X0 ck_l0 p5y5_2033_e
set_option maxRecDepth 100000 in
def p5y5_2034 : ck_Sum := ((0, 0, 0), 245, [.inr (.inr (.inl 200)), .inl (ck_one 270)], ([], [], [(201, 270, 270, ck_one 9)]), ([], []), [(.inr (some (.inl (ck_one 9))), 245, ([], [], []))])
set_option maxRecDepth 100000 in
theorem p5y5_2034_e : ck_ok p1_O none [] [] 34 [] 92 p5y5_2034 = true := by decide +kernel
theorem p5y5_2034_s {X : Int → Int} {LX : Nat} : ck_Ok p1_O X LX 34 p5y5_2034 := ck_ok_s (ck_E0) ck_X0 ck_l0 p5y5_2034_e
set_option maxRecDepth 100000 in
def p5y5_2035 : ck_Sum := ((1, 0, 0), 245, [.inr (.inr (.inl 1)), .inl (ck_one 270)], ([], [], [(201, 270, 270, ck_one 9)]), ([], []), [(.inr (some (.inl (ck_one 9))), 245, ([], [], []))])
set_option maxRecDepth 100000 in
theorem p5y5_2035_e : ck_ok p1_O none [] [(129, [p5y5_2033]), (34, [p5y5_2034])] 128 [] 86 p5y5_2035 = true := by decide +kernel
theorem p5y5_2035_s {X : Int → Int} {LX : Nat} : ck_Ok p1_O X LX 128 p5y5_2035 := ck_ok_s (ck_E1 (ck_S1 p5y5_2033_s ck_S0) (ck_E1 (ck_S1 p5y5_2034_s ck_S0) ck_E0)) ck_X0 ck_l0 p5y5_2035_e
set_option maxRecDepth 100000 in
def p5y5_2036 : ck_Sum := ((2, 0, 0), 245, [.inr (.inr (.inl 1)), .inl (ck_one 270), .inr (.inr (.inl 245))], ([], [], [(201, 270, 270, ck_one 9)]), ([(245, 0, 0)], []), [(.inr (some (.inl (ck_one 0))), 245, ([], [], [(245, 0, 0, ck_one 9)]))])
set_option maxRecDepth 100000 in
theorem p5y5_2036_e : ck_ok p1_O none [] [(128, [p5y5_2035])] 127 [] 90 p5y5_2036 = true := by decide +kernel
theorem p5y5_2036_s {X : Int → Int} {LX : Nat} : ck_Ok p1_O X LX 127 p5y5_2036 := ck_ok_s (ck_E1 (ck_S1 p5y5_2035_s ck_S0) ck_E0) ck_X0 ck_l0 p5y5_2036_e
set_option maxRecDepth 100000 in
def p5y5_2040 : ck_Sum := ((0, 0, 0), 245, [.inr (.inr (.inl 1)), .inl (ck_one 271)], ([], [], []), ([], []), [(.inr none, 245, ([], [], []))])
set_option maxRecDepth 100000 in
theorem p5y5_2040_e : ck_ok p1_O none [] [] 129 [] 82 p5y5_2040 = true := by decide +kernel
theorem p5y5_2040_s {X : Int → Int} {LX : Nat} : ck_Ok p1_O X LX 129 p5y5_2040 := ck_ok_s (ck_E0) ck_X0 ck_l0 p5y5_2040_e
set_option maxRecDepth 100000 in
def p5y5_2041 : ck_Sum := ((0, 0, 0), 245, [.inr (.inr (.inl 200)), .inl (ck_one 271)], ([], [], [(201, 271, 271, ck_one 6)]), ([], []), [(.inr (some (.inl (ck_one 6))), 245, ([], [], []))])
set_option maxRecDepth 100000 in
theorem p5y5_2041_e : ck_ok p1_O none [] [] 34 [] 92 p5y5_2041 = true := by decide +kernel
theorem p5y5_2041_s {X : Int → Int} {LX : Nat} : ck_Ok p1_O X LX 34 p5y5_2041 := ck_ok_s (ck_E0) ck_X0 ck_l0 p5y5_2041_e
set_option maxRecDepth 100000 in
def p5y5_2042 : ck_Sum := ((1, 0, 0), 245, [.inr (.inr (.inl 1)), .inl (ck_one 271)], ([], [], [(201, 271, 271, ck_one 6)]), ([], []), [(.inr (some (.inl (ck_one 6))), 245, ([], [], []))])
set_option maxRecDepth 100000 in
theorem p5y5_2042_e : ck_ok p1_O none [] [(129, [p5y5_2040]), (34, [p5y5_2041])] 128 [] 86 p5y5_2042 = true := by decide +kernel
theorem p5y5_2042_s {X : Int → Int} {LX : Nat} : ck_Ok p1_O X LX 128 p5y5_2042 := ck_ok_s (ck_E1 (ck_S1 p5y5_2040_s ck_S0) (ck_E1 (ck_S1 p5y5_2041_s ck_S0) ck_E0)) ck_X0 ck_l0 p5y5_2042_e
set_option maxRecDepth 100000 in
def p5y5_2043 : ck_Sum := ((2, 0, 0), 245, [.inr (.inr (.inl 1)), .inl (ck_one 271), .inr (.inr (.inl 245))], ([], [], [(201, 271, 271, ck_one 6)]), ([(245, 0, 0)], []), [(.inr (some (.inl (ck_one 0))), 245, ([], [], [(245, 0, 0, ck_one 6)]))])
set_option maxRecDepth 100000 in
theorem p5y5_2043_e : ck_ok p1_O none [] [(128, [p5y5_2042])] 127 [] 90 p5y5_2043 = true := by decide +kernel
theorem p5y5_2043_s {X : Int → Int} {LX : Nat} : ck_Ok p1_O X LX 127 p5y5_2043 := ck_ok_s (ck_E1 (ck_S1 p5y5_2042_s ck_S0) ck_E0) ck_X0 ck_l0 p5y5_2043_e
set_option maxRecDepth 100000 in
def p5y5_2047 : ck_Sum := ((0, 0, 0), 245, [.inr (.inr (.inl 1)), .inl (ck_one 272)], ([], [], []), ([], []), [(.inr none, 245, ([], [], []))])
set_option maxRecDepth 100000 in
theorem p5y5_2047_e : ck_ok p1_O none [] [] 129 [] 82 p5y5_2047 = true := by decide +kernel
theorem p5y5_2047_s {X : Int → Int} {LX : Nat} : ck_Ok p1_O X LX 129 p5y5_2047 := ck_ok_s (ck_E0) ck_X0 ck_l0 p5y5_2047_e
set_option maxRecDepth 100000 in
def p5y5_2048 : ck_Sum := ((0, 0, 0), 245, [.inr (.inr (.inl 200)), .inl (ck_one 272)], ([], [], [(201, 272, 272, ck_one 4)]), ([], []), [(.inr (some (.inl (ck_one 4))), 245, ([], [], []))])
set_option maxRecDepth 100000 in
theorem p5y5_2048_e : ck_ok p1_O none [] [] 34 [] 92 p5y5_2048 = true := by decide +kernel
theorem p5y5_2048_s {X : Int → Int} {LX : Nat} : ck_Ok p1_O X LX 34 p5y5_2048 := ck_ok_s (ck_E0) ck_X0 ck_l0 p5y5_2048_e
set_option maxRecDepth 100000 in
def p5y5_2049 : ck_Sum := ((1, 0, 0), 245, [.inr (.inr (.inl 1)), .inl (ck_one 272)], ([], [], [(201, 272, 272, ck_one 4)]), ([], []), [(.inr (some (.inl (ck_one 4))), 245, ([], [], []))])
set_option maxRecDepth 100000 in
theorem p5y5_2049_e : ck_ok p1_O none [] [(129, [p5y5_2047]), (34, [p5y5_2048])] 128 [] 86 p5y5_2049 = true := by decide +kernel
theorem p5y5_2049_s {X : Int → Int} {LX : Nat} : ck_Ok p1_O X LX 128 p5y5_2049 := ck_ok_s (ck_E1 (ck_S1 p5y5_2047_s ck_S0) (ck_E1 (ck_S1 p5y5_2048_s ck_S0) ck_E0)) ck_X0 ck_l0 p5y5_2049_e
set_option maxRecDepth 100000 in
def p5y5_2050 : ck_Sum := ((2, 0, 0), 245, [.inr (.inr (.inl 1)), .inl (ck_one 272), .inr (.inr (.inl 245))], ([], [], [(201, 272, 272, ck_one 4)]), ([(245, 0, 0)], []), [(.inr (some (.inl (ck_one 0))), 245, ([], [], [(245, 0, 0, ck_one 4)]))])
set_option maxRecDepth 100000 in
theorem p5y5_2050_e : ck_ok p1_O none [] [(128, [p5y5_2049])] 127 [] 90 p5y5_2050 = true := by decide +kernel
theorem p5y5_2050_s {X : Int → Int} {LX : Nat} : ck_Ok p1_O X LX 127 p5y5_2050 := ck_ok_s (ck_E1 (ck_S1 p5y5_2049_s ck_S0) ck_E0) ck_X0 ck_l0 p5y5_2050_e
set_option maxRecDepth 100000 in
def p5y5_2054 : ck_Sum := ((0, 0, 0), 245, [.inr (.inr (.inl 1)), .inl (ck_one 273)], ([], [], []), ([], []), [(.inr none, 245, ([], [], []))])
set_option maxRecDepth 100000 in
theorem p5y5_2054_e : ck_ok p1_O none [] [] 129 [] 82 p5y5_2054 = true := by decide +kernel
theorem p5y5_2054_s {X : Int → Int} {LX : Nat} : ck_Ok p1_O X LX 129 p5y5_2054 := ck_ok_s (ck_E0) ck_X0 ck_l0 p5y5_2054_e
set_option maxRecDepth 100000 in
def p5y5_2055 : ck_Sum := ((0, 0, 0), 245, [.inr (.inr (.inl 200)), .inl (ck_one 273)], ([], [], [(201, 273, 273, ck_one 9)]), ([], []), [(.inr (some (.inl (ck_one 9))), 245, ([], [], []))])
set_option maxRecDepth 100000 in
theorem p5y5_2055_e : ck_ok p1_O none [] [] 34 [] 92 p5y5_2055 = true := by decide +kernel
theorem p5y5_2055_s {X : Int → Int} {LX : Nat} : ck_Ok p1_O X LX 34 p5y5_2055 := ck_ok_s (ck_E0) ck_X0 ck_l0 p5y5_2055_e
set_option maxRecDepth 100000 in
def p5y5_2056 : ck_Sum := ((1, 0, 0), 245, [.inr (.inr (.inl 1)), .inl (ck_one 273)], ([], [], [(201, 273, 273, ck_one 9)]), ([], []), [(.inr (some (.inl (ck_one 9))), 245, ([], [], []))])
set_option maxRecDepth 100000 in
theorem p5y5_2056_e : ck_ok p1_O none [] [(129, [p5y5_2054]), (34, [p5y5_2055])] 128 [] 86 p5y5_2056 = true := by decide +kernel
theorem p5y5_2056_s {X : Int → Int} {LX : Nat} : ck_Ok p1_O X LX 128 p5y5_2056 := ck_ok_s (ck_E1 (ck_S1 p5y5_2054_s ck_S0) (ck_E1 (ck_S1 p5y5_2055_s ck_S0) ck_E0)) ck_X0 ck_l0 p5y5_2056_e
set_option maxRecDepth 100000 in
def p5y5_2057 : ck_Sum := ((2, 0, 0), 245, [.inr (.inr (.inl 1)), .inl (ck_one 273), .inr (.inr (.inl 245))], ([], [], [(201, 273, 273, ck_one 9)]), ([(245, 0, 0)], []), [(.inr (some (.inl (ck_one 0))), 245, ([], [], [(245, 0, 0, ck_one 9)]))])
set_option maxRecDepth 100000 in
theorem p5y5_2057_e : ck_ok p1_O none [] [(128, [p5y5_2056])] 127 [] 90 p5y5_2057 = true := by decide +kernel
theorem p5y5_2057_s {X : Int → Int} {LX : Nat} : ck_Ok p1_O X LX 127 p5y5_2057 := ck_ok_s (ck_E1 (ck_S1 p5y5_2056_s ck_S0) ck_E0) ck_X0 ck_l0 p5y5_2057_e
set_option maxRecDepth 100000 in
def p5y5_2061 : ck_Sum := ((0, 0, 0), 245, [.inr (.inr (.inl 1)), .inl (ck_one 274)], ([], [], []), ([], []), [(.inr none, 245, ([], [], []))])
set_option maxRecDepth 100000 in
theorem p5y5_2061_e : ck_ok p1_O none [] [] 129 [] 82 p5y5_2061 = true := by decide +kernel
theorem p5y5_2061_s {X : Int → Int} {LX : Nat} : ck_Ok p1_O X LX 129 p5y5_2061 := ck_ok_s (ck_E0) ck_X0 ck_l0 p5y5_2061_e
set_option maxRecDepth 100000 in
def p5y5_2062 : ck_Sum := ((0, 0, 0), 245, [.inr (.inr (.inl 200)), .inl (ck_one 274)], ([], [], [(201, 274, 274, ck_one 2)]), ([], []), [(.inr (some (.inl (ck_one 2))), 245, ([], [], []))])
set_option maxRecDepth 100000 in
theorem p5y5_2062_e : ck_ok p1_O none [] [] 34 [] 92 p5y5_2062 = true := by decide +kernel
theorem p5y5_2062_s {X : Int → Int} {LX : Nat} : ck_Ok p1_O X LX 34 p5y5_2062 := ck_ok_s (ck_E0) ck_X0 ck_l0 p5y5_2062_e
set_option maxRecDepth 100000 in
def p5y5_2063 : ck_Sum := ((1, 0, 0), 245, [.inr (.inr (.inl 1)), .inl (ck_one 274)], ([], [], [(201, 274, 274, ck_one 2)]), ([], []), [(.inr (some (.inl (ck_one 2))), 245, ([], [], []))])
set_option maxRecDepth 100000 in
theorem p5y5_2063_e : ck_ok p1_O none [] [(129, [p5y5_2061]), (34, [p5y5_2062])] 128 [] 86 p5y5_2063 = true := by decide +kernel
theorem p5y5_2063_s {X : Int → Int} {LX : Nat} : ck_Ok p1_O X LX 128 p5y5_2063 := ck_ok_s (ck_E1 (ck_S1 p5y5_2061_s ck_S0) (ck_E1 (ck_S1 p5y5_2062_s ck_S0) ck_E0)) ck_X0 ck_l0 p5y5_2063_e
set_option maxRecDepth 100000 in
def p5y5_2064 : ck_Sum := ((2, 0, 0), 245, [.inr (.inr (.inl 1)), .inl (ck_one 274), .inr (.inr (.inl 245))], ([], [], [(201, 274, 274, ck_one 2)]), ([(245, 0, 0)], []), [(.inr (some (.inl (ck_one 0))), 245, ([], [], [(245, 0, 0, ck_one 2)]))])
set_option maxRecDepth 100000 in
theorem p5y5_2064_e : ck_ok p1_O none [] [(128, [p5y5_2063])] 127 [] 90 p5y5_2064 = true := by decide +kernel
theorem p5y5_2064_s {X : Int → Int} {LX : Nat} : ck_Ok p1_O X LX 127 p5y5_2064 := ck_ok_s (ck_E1 (ck_S1 p5y5_2063_s ck_S0) ck_E0) ck_X0 ck_l0 p5y5_2064_e
set_option maxRecDepth 100000 in
def p5y5_2068 : ck_Sum := ((0, 0, 0), 245, [.inr (.inr (.inl 1)), .inl (ck_one 275)], ([], [], []), ([], []), [(.inr none, 245, ([], [], []))])
set_option maxRecDepth 100000 in
theorem p5y5_2068_e : ck_ok p1_O none [] [] 129 [] 82 p5y5_2068 = true := by decide +kernel
theorem p5y5_2068_s {X : Int → Int} {LX : Nat} : ck_Ok p1_O X LX 129 p5y5_2068 := ck_ok_s (ck_E0) ck_X0 ck_l0 p5y5_2068_e
set_option maxRecDepth 100000 in
def p5y5_2069 : ck_Sum := ((0, 0, 0), 245, [.inr (.inr (.inl 200)), .inl (ck_one 275)], ([], [], [(201, 275, 275, ck_one 7)]), ([], []), [(.inr (some (.inl (ck_one 7))), 245, ([], [], []))])
set_option maxRecDepth 100000 in
theorem p5y5_2069_e : ck_ok p1_O none [] [] 34 [] 92 p5y5_2069 = true := by decide +kernel
theorem p5y5_2069_s {X : Int → Int} {LX : Nat} : ck_Ok p1_O X LX 34 p5y5_2069 := ck_ok_s (ck_E0) ck_X0 ck_l0 p5y5_2069_e
set_option maxRecDepth 100000 in
def p5y5_2070 : ck_Sum := ((1, 0, 0), 245, [.inr (.inr (.inl 1)), .inl (ck_one 275)], ([], [], [(201, 275, 275, ck_one 7)]), ([], []), [(.inr (some (.inl (ck_one 7))), 245, ([], [], []))])
set_option maxRecDepth 100000 in
theorem p5y5_2070_e : ck_ok p1_O none [] [(129, [p5y5_2068]), (34, [p5y5_2069])] 128 [] 86 p5y5_2070 = true := by decide +kernel
theorem p5y5_2070_s {X : Int → Int} {LX : Nat} : ck_Ok p1_O X LX 128 p5y5_2070 := ck_ok_s (ck_E1 (ck_S1 p5y5_2068_s ck_S0) (ck_E1 (ck_S1 p5y5_2069_s ck_S0) ck_E0)) ck_X0 ck_l0 p5y5_2070_e
set_option maxRecDepth 100000 in
def p5y5_2071 : ck_Sum := ((2, 0, 0), 245, [.inr (.inr (.inl 1)), .inl (ck_one 275), .inr (.inr (.inl 245))], ([], [], [(201, 275, 275, ck_one 7)]), ([(245, 0, 0)], []), [(.inr (some (.inl (ck_one 0))), 245, ([], [], [(245, 0, 0, ck_one 7)]))])
set_option maxRecDepth 100000 in
theorem p5y5_2071_e : ck_ok p1_O none [] [(128, [p5y5_2070])] 127 [] 90 p5y5_2071 = true := by decide +kernel
theorem p5y5_2071_s {X : Int → Int} {LX : Nat} : ck_Ok p1_O X LX 127 p5y5_2071 := ck_ok_s (ck_E1 (ck_S1 p5y5_2070_s ck_S0) ck_E0) ck_X0 ck_l0 p5y5_2071_e
set_option maxRecDepth 100000 in
def p5y5_2075 : ck_Sum := ((0, 0, 0), 245, [.inr (.inr (.inl 1)), .inl (ck_one 276)], ([], [], []), ([], []), [(.inr none, 245, ([], [], []))])
set_option maxRecDepth 100000 in
theorem p5y5_2075_e : ck_ok p1_O none [] [] 129 [] 82 p5y5_2075 = true := by decide +kernel
theorem p5y5_2075_s {X : Int → Int} {LX : Nat} : ck_Ok p1_O X LX 129 p5y5_2075 := ck_ok_s (ck_E0) ck_X0 ck_l0 p5y5_2075_e
set_option maxRecDepth 100000 in
def p5y5_2076 : ck_Sum := ((0, 0, 0), 245, [.inr (.inr (.inl 200)), .inl (ck_one 276)], ([], [], [(201, 276, 276, ck_one 8)]), ([], []), [(.inr (some (.inl (ck_one 8))), 245, ([], [], []))])
set_option maxRecDepth 100000 in
theorem p5y5_2076_e : ck_ok p1_O none [] [] 34 [] 92 p5y5_2076 = true := by decide +kernel
theorem p5y5_2076_s {X : Int → Int} {LX : Nat} : ck_Ok p1_O X LX 34 p5y5_2076 := ck_ok_s (ck_E0) ck_X0 ck_l0 p5y5_2076_e
set_option maxRecDepth 100000 in
def p5y5_2077 : ck_Sum := ((1, 0, 0), 245, [.inr (.inr (.inl 1)), .inl (ck_one 276)], ([], [], [(201, 276, 276, ck_one 8)]), ([], []), [(.inr (some (.inl (ck_one 8))), 245, ([], [], []))])
set_option maxRecDepth 100000 in
theorem p5y5_2077_e : ck_ok p1_O none [] [(129, [p5y5_2075]), (34, [p5y5_2076])] 128 [] 86 p5y5_2077 = true := by decide +kernel
theorem p5y5_2077_s {X : Int → Int} {LX : Nat} : ck_Ok p1_O X LX 128 p5y5_2077 := ck_ok_s (ck_E1 (ck_S1 p5y5_2075_s ck_S0) (ck_E1 (ck_S1 p5y5_2076_s ck_S0) ck_E0)) ck_X0 ck_l0 p5y5_2077_e
set_option maxRecDepth 100000 in
def p5y5_2078 : ck_Sum := ((2, 0, 0), 245, [.inr (.inr (.inl 1)), .inl (ck_one 276), .inr (.inr (.inl 245))], ([], [], [(201, 276, 276, ck_one 8)]), ([(245, 0, 0)], []), [(.inr (some (.inl (ck_one 0))), 245, ([], [], [(245, 0, 0, ck_one 8)]))])
set_option maxRecDepth 100000 in
theorem p5y5_2078_e : ck_ok p1_O none [] [(128, [p5y5_2077])] 127 [] 90 p5y5_2078 = true := by decide +kernel
theorem p5y5_2078_s {X : Int → Int} {LX : Nat} : ck_Ok p1_O X LX 127 p5y5_2078 := ck_ok_s (ck_E1 (ck_S1 p5y5_2077_s ck_S0) ck_E0) ck_X0 ck_l0 p5y5_2078_e
set_option maxRecDepth 100000 in
def p5y5_2082 : ck_Sum := ((0, 0, 0), 245, [.inr (.inr (.inl 1)), .inl (ck_one 277)], ([], [], []), ([], []), [(.inr none, 245, ([], [], []))])
set_option maxRecDepth 100000 in
theorem p5y5_2082_e : ck_ok p1_O none [] [] 129 [] 82 p5y5_2082 = true := by decide +kernel
theorem p5y5_2082_s {X : Int → Int} {LX : Nat} : ck_Ok p1_O X LX 129 p5y5_2082 := ck_ok_s (ck_E0) ck_X0 ck_l0 p5y5_2082_e
set_option maxRecDepth 100000 in
def p5y5_2083 : ck_Sum := ((0, 0, 0), 245, [.inr (.inr (.inl 200)), .inl (ck_one 277)], ([], [], [(201, 277, 277, ck_one 2)]), ([], []), [(.inr (some (.inl (ck_one 2))), 245, ([], [], []))])
set_option maxRecDepth 100000 in
theorem p5y5_2083_e : ck_ok p1_O none [] [] 34 [] 92 p5y5_2083 = true := by decide +kernel
theorem p5y5_2083_s {X : Int → Int} {LX : Nat} : ck_Ok p1_O X LX 34 p5y5_2083 := ck_ok_s (ck_E0) ck_X0 ck_l0 p5y5_2083_e
set_option maxRecDepth 100000 in
def p5y5_2084 : ck_Sum := ((1, 0, 0), 245, [.inr (.inr (.inl 1)), .inl (ck_one 277)], ([], [], [(201, 277, 277, ck_one 2)]), ([], []), [(.inr (some (.inl (ck_one 2))), 245, ([], [], []))])
set_option maxRecDepth 100000 in
theorem p5y5_2084_e : ck_ok p1_O none [] [(129, [p5y5_2082]), (34, [p5y5_2083])] 128 [] 86 p5y5_2084 = true := by decide +kernel
theorem p5y5_2084_s {X : Int → Int} {LX : Nat} : ck_Ok p1_O X LX 128 p5y5_2084 := ck_ok_s (ck_E1 (ck_S1 p5y5_2082_s ck_S0) (ck_E1 (ck_S1 p5y5_2083_s ck_S0) ck_E0)) ck_X0 ck_l0 p5y5_2084_e
set_option maxRecDepth 100000 in
def p5y5_2085 : ck_Sum := ((2, 0, 0), 245, [.inr (.inr (.inl 1)), .inl (ck_one 277), .inr (.inr (.inl 245))], ([], [], [(201, 277, 277, ck_one 2)]), ([(245, 0, 0)], []), [(.inr (some (.inl (ck_one 0))), 245, ([], [], [(245, 0, 0, ck_one 2)]))])
set_option maxRecDepth 100000 in
theorem p5y5_2085_e : ck_ok p1_O none [] [(128, [p5y5_2084])] 127 [] 90 p5y5_2085 = true := by decide +kernel
theorem p5y5_2085_s {X : Int → Int} {LX : Nat} : ck_Ok p1_O X LX 127 p5y5_2085 := ck_ok_s (ck_E1 (ck_S1 p5y5_2084_s ck_S0) ck_E0) ck_X0 ck_l0 p5y5_2085_e
set_option maxRecDepth 100000 in
def p5y5_2089 : ck_Sum := ((0, 0, 0), 245, [.inr (.inr (.inl 1)), .inl (ck_one 278)], ([], [], []), ([], []), [(.inr none, 245, ([], [], []))])
set_option maxRecDepth 100000 in
theorem p5y5_2089_e : ck_ok p1_O none [] [] 129 [] 82 p5y5_2089 = true := by decide +kernel
theorem p5y5_2089_s {X : Int → Int} {LX : Nat} : ck_Ok p1_O X LX 129 p5y5_2089 := ck_ok_s (ck_E0) ck_X0 ck_l0 p5y5_2089_e
set_option maxRecDepth 100000 in
def p5y5_2090 : ck_Sum := ((0, 0, 0), 245, [.inr (.inr (.inl 200)), .inl (ck_one 278)], ([], [], [(201, 278, 278, ck_one 5)]), ([], []), [(.inr (some (.inl (ck_one 5))), 245, ([], [], []))])
set_option maxRecDepth 100000 in
theorem p5y5_2090_e : ck_ok p1_O none [] [] 34 [] 92 p5y5_2090 = true := by decide +kernel
theorem p5y5_2090_s {X : Int → Int} {LX : Nat} : ck_Ok p1_O X LX 34 p5y5_2090 := ck_ok_s (ck_E0) ck_X0 ck_l0 p5y5_2090_e
set_option maxRecDepth 100000 in
def p5y5_2091 : ck_Sum := ((1, 0, 0), 245, [.inr (.inr (.inl 1)), .inl (ck_one 278)], ([], [], [(201, 278, 278, ck_one 5)]), ([], []), [(.inr (some (.inl (ck_one 5))), 245, ([], [], []))])
set_option maxRecDepth 100000 in
theorem p5y5_2091_e : ck_ok p1_O none [] [(129, [p5y5_2089]), (34, [p5y5_2090])] 128 [] 86 p5y5_2091 = true := by decide +kernel
theorem p5y5_2091_s {X : Int → Int} {LX : Nat} : ck_Ok p1_O X LX 128 p5y5_2091 := ck_ok_s (ck_E1 (ck_S1 p5y5_2089_s ck_S0) (ck_E1 (ck_S1 p5y5_2090_s ck_S0) ck_E0)) ck_X0 ck_l0 p5y5_2091_e
set_option maxRecDepth 100000 in
def p5y5_2092 : ck_Sum := ((2, 0, 0), 245, [.inr (.inr (.inl 1)), .inl (ck_one 278), .inr (.inr (.inl 245))], ([], [], [(201, 278, 278, ck_one 5)]), ([(245, 0, 0)], []), [(.inr (some (.inl (ck_one 0))), 245, ([], [], [(245, 0, 0, ck_one 5)]))])
set_option maxRecDepth 100000 in
theorem p5y5_2092_e : ck_ok p1_O none [] [(128, [p5y5_2091])] 127 [] 90 p5y5_2092 = true := by decide +kernel
theorem p5y5_2092_s {X : Int → Int} {LX : Nat} : ck_Ok p1_O X LX 127 p5y5_2092 := ck_ok_s (ck_E1 (ck_S1 p5y5_2091_s ck_S0) ck_E0) ck_X0 ck_l0 p5y5_2092_e
set_option maxRecDepth 100000 in
def p5y5_2096 : ck_Sum := ((0, 0, 0), 245, [.inr (.inr (.inl 1)), .inl (ck_one 279)], ([], [], []), ([], []), [(.inr none, 245, ([], [], []))])
set_option maxRecDepth 100000 in
theorem p5y5_2096_e : ck_ok p1_O none [] [] 129 [] 82 p5y5_2096 = true := by decide +kernel
theorem p5y5_2096_s {X : Int → Int} {LX : Nat} : ck_Ok p1_O X LX 129 p5y5_2096 := ck_ok_s (ck_E0) ck_X0 ck_l0 p5y5_2096_e
set_option maxRecDepth 100000 in
def p5y5_2097 : ck_Sum := ((0, 0, 0), 245, [.inr (.inr (.inl 200)), .inl (ck_one 279)], ([], [], [(201, 279, 279, ck_one 0)]), ([], []), [(.inr (some (.inl (ck_one 0))), 245, ([], [], []))])
set_option maxRecDepth 100000 in
theorem p5y5_2097_e : ck_ok p1_O none [] [] 34 [] 92 p5y5_2097 = true := by decide +kernel
theorem p5y5_2097_s {X : Int → Int} {LX : Nat} : ck_Ok p1_O X LX 34 p5y5_2097 := ck_ok_s (ck_E0) ck_X0 ck_l0 p5y5_2097_e
set_option maxRecDepth 100000 in
def p5y5_2098 : ck_Sum := ((1, 0, 0), 245, [.inr (.inr (.inl 1)), .inl (ck_one 279)], ([], [], [(201, 279, 279, ck_one 0)]), ([], []), [(.inr (some (.inl (ck_one 0))), 245, ([], [], []))])
set_option maxRecDepth 100000 in
theorem p5y5_2098_e : ck_ok p1_O none [] [(129, [p5y5_2096]), (34, [p5y5_2097])] 128 [] 86 p5y5_2098 = true := by decide +kernel
theorem p5y5_2098_s {X : Int → Int} {LX : Nat} : ck_Ok p1_O X LX 128 p5y5_2098 := ck_ok_s (ck_E1 (ck_S1 p5y5_2096_s ck_S0) (ck_E1 (ck_S1 p5y5_2097_s ck_S0) ck_E0)) ck_X0 ck_l0 p5y5_2098_e
set_option maxRecDepth 100000 in
def p5y5_2099 : ck_Sum := ((2, 0, 0), 245, [.inr (.inr (.inl 1)), .inl (ck_one 279), .inr (.inr (.inl 245))], ([], [], [(201, 279, 279, ck_one 0)]), ([(245, 0, 0)], []), [(.inr (some (.inl (ck_one 0))), 245, ([], [], [(245, 0, 0, ck_one 0)]))])
set_option maxRecDepth 100000 in
theorem p5y5_2099_e : ck_ok p1_O none [] [(128, [p5y5_2098])] 127 [] 90 p5y5_2099 = true := by decide +kernel
theorem p5y5_2099_s {X : Int → Int} {LX : Nat} : ck_Ok p1_O X LX 127 p5y5_2099 := ck_ok_s (ck_E1 (ck_S1 p5y5_2098_s ck_S0) ck_E0) ck_X0 ck_l0 p5y5_2099_e
set_option maxRecDepth 100000 in
def p5y5_2103 : ck_Sum := ((0, 0, 0), 245, [.inr (.inr (.inl 1)), .inl (ck_one 280)], ([], [], []), ([], []), [(.inr none, 245, ([], [], []))])
set_option maxRecDepth 100000 in
theorem p5y5_2103_e : ck_ok p1_O none [] [] 129 [] 82 p5y5_2103 = true := by decide +kernel
theorem p5y5_2103_s {X : Int → Int} {LX : Nat} : ck_Ok p1_O X LX 129 p5y5_2103 := ck_ok_s (ck_E0) ck_X0 ck_l0 p5y5_2103_e
set_option maxRecDepth 100000 in
def p5y5_2104 : ck_Sum := ((0, 0, 0), 245, [.inr (.inr (.inl 200)), .inl (ck_one 280)], ([], [], [(201, 280, 280, ck_one 9)]), ([], []), [(.inr (some (.inl (ck_one 9))), 245, ([], [], []))])
set_option maxRecDepth 100000 in
theorem p5y5_2104_e : ck_ok p1_O none [] [] 34 [] 92 p5y5_2104 = true := by decide +kernel
theorem p5y5_2104_s {X : Int → Int} {LX : Nat} : ck_Ok p1_O X LX 34 p5y5_2104 := ck_ok_s (ck_E0) ck_X0 ck_l0 p5y5_2104_e
set_option maxRecDepth 100000 in
def p5y5_2105 : ck_Sum := ((1, 0, 0), 245, [.inr (.inr (.inl 1)), .inl (ck_one 280)], ([], [], [(201, 280, 280, ck_one 9)]), ([], []), [(.inr (some (.inl (ck_one 9))), 245, ([], [], []))])
set_option maxRecDepth 100000 in
theorem p5y5_2105_e : ck_ok p1_O none [] [(129, [p5y5_2103]), (34, [p5y5_2104])] 128 [] 86 p5y5_2105 = true := by decide +kernel
theorem p5y5_2105_s {X : Int → Int} {LX : Nat} : ck_Ok p1_O X LX 128 p5y5_2105 := ck_ok_s (ck_E1 (ck_S1 p5y5_2103_s ck_S0) (ck_E1 (ck_S1 p5y5_2104_s ck_S0) ck_E0)) ck_X0 ck_l0 p5y5_2105_e
set_option maxRecDepth 100000 in
def p5y5_2106 : ck_Sum := ((2, 0, 0), 245, [.inr (.inr (.inl 1)), .inl (ck_one 280), .inr (.inr (.inl 245))], ([], [], [(201, 280, 280, ck_one 9)]), ([(245, 0, 0)], []), [(.inr (some (.inl (ck_one 0))), 245, ([], [], [(245, 0, 0, ck_one 9)]))])
set_option maxRecDepth 100000 in
theorem p5y5_2106_e : ck_ok p1_O none [] [(128, [p5y5_2105])] 127 [] 90 p5y5_2106 = true := by decide +kernel
theorem p5y5_2106_s {X : Int → Int} {LX : Nat} : ck_Ok p1_O X LX 127 p5y5_2106 := ck_ok_s (ck_E1 (ck_S1 p5y5_2105_s ck_S0) ck_E0) ck_X0 ck_l0 p5y5_2106_e
set_option maxRecDepth 100000 in
def p5y5_2110 : ck_Sum := ((0, 0, 0), 245, [.inr (.inr (.inl 1)), .inl (ck_one 281)], ([], [], []), ([], []), [(.inr none, 245, ([], [], []))])
set_option maxRecDepth 100000 in
theorem p5y5_2110_e : ck_ok p1_O none [] [] 129 [] 82 p5y5_2110 = true := by decide +kernel
theorem p5y5_2110_s {X : Int → Int} {LX : Nat} : ck_Ok p1_O X LX 129 p5y5_2110 := ck_ok_s (ck_E0) ck_X0 ck_l0 p5y5_2110_e
set_option maxRecDepth 100000 in
def p5y5_2111 : ck_Sum := ((0, 0, 0), 245, [.inr (.inr (.inl 200)), .inl (ck_one 281)], ([], [], [(201, 281, 281, ck_one 5)]), ([], []), [(.inr (some (.inl (ck_one 5))), 245, ([], [], []))])
set_option maxRecDepth 100000 in
theorem p5y5_2111_e : ck_ok p1_O none [] [] 34 [] 92 p5y5_2111 = true := by decide +kernel
theorem p5y5_2111_s {X : Int → Int} {LX : Nat} : ck_Ok p1_O X LX 34 p5y5_2111 := ck_ok_s (ck_E0) ck_X0 ck_l0 p5y5_2111_e
set_option maxRecDepth 100000 in
def p5y5_2112 : ck_Sum := ((1, 0, 0), 245, [.inr (.inr (.inl 1)), .inl (ck_one 281)], ([], [], [(201, 281, 281, ck_one 5)]), ([], []), [(.inr (some (.inl (ck_one 5))), 245, ([], [], []))])
set_option maxRecDepth 100000 in
theorem p5y5_2112_e : ck_ok p1_O none [] [(129, [p5y5_2110]), (34, [p5y5_2111])] 128 [] 86 p5y5_2112 = true := by decide +kernel
theorem p5y5_2112_s {X : Int → Int} {LX : Nat} : ck_Ok p1_O X LX 128 p5y5_2112 := ck_ok_s (ck_E1 (ck_S1 p5y5_2110_s ck_S0) (ck_E1 (ck_S1 p5y5_2111_s ck_S0) ck_E0)) ck_X0 ck_l0 p5y5_2112_e
set_option maxRecDepth 100000 in
def p5y5_2113 : ck_Sum := ((2, 0, 0), 245, [.inr (.inr (.inl 1)), .inl (ck_one 281), .inr (.inr (.inl 245))], ([], [], [(201, 281, 281, ck_one 5)]), ([(245, 0, 0)], []), [(.inr (some (.inl (ck_one 0))), 245, ([], [], [(245, 0, 0, ck_one 5)]))])
set_option maxRecDepth 100000 in
theorem p5y5_2113_e : ck_ok p1_O none [] [(128, [p5y5_2112])] 127 [] 90 p5y5_2113 = true := by decide +kernel
theorem p5y5_2113_s {X : Int → Int} {LX : Nat} : ck_Ok p1_O X LX 127 p5y5_2113 := ck_ok_s (ck_E1 (ck_S1 p5y5_2112_s ck_S0) ck_E0) ck_X0 ck_l0 p5y5_2113_e
set_option maxRecDepth 100000 in
def p5y5_2117 : ck_Sum := ((0, 0, 0), 245, [.inr (.inr (.inl 1)), .inl (ck_one 282)], ([], [], []), ([], []), [(.inr none, 245, ([], [], []))])
set_option maxRecDepth 100000 in
theorem p5y5_2117_e : ck_ok p1_O none [] [] 129 [] 82 p5y5_2117 = true := by decide +kernel
theorem p5y5_2117_s {X : Int → Int} {LX : Nat} : ck_Ok p1_O X LX 129 p5y5_2117 := ck_ok_s (ck_E0) ck_X0 ck_l0 p5y5_2117_e
set_option maxRecDepth 100000 in
def p5y5_2118 : ck_Sum := ((0, 0, 0), 245, [.inr (.inr (.inl 200)), .inl (ck_one 282)], ([], [], [(201, 282, 282, ck_one 9)]), ([], []), [(.inr (some (.inl (ck_one 9))), 245, ([], [], []))])
set_option maxRecDepth 100000 in
theorem p5y5_2118_e : ck_ok p1_O none [] [] 34 [] 92 p5y5_2118 = true := by decide +kernel
theorem p5y5_2118_s {X : Int → Int} {LX : Nat} : ck_Ok p1_O X LX 34 p5y5_2118 := ck_ok_s (ck_E0) ck_X0 ck_l0 p5y5_2118_e
set_option maxRecDepth 100000 in
def p5y5_2119 : ck_Sum := ((1, 0, 0), 245, [.inr (.inr (.inl 1)), .inl (ck_one 282)], ([], [], [(201, 282, 282, ck_one 9)]), ([], []), [(.inr (some (.inl (ck_one 9))), 245, ([], [], []))])
set_option maxRecDepth 100000 in
theorem p5y5_2119_e : ck_ok p1_O none [] [(129, [p5y5_2117]), (34, [p5y5_2118])] 128 [] 86 p5y5_2119 = true := by decide +kernel
theorem p5y5_2119_s {X : Int → Int} {LX : Nat} : ck_Ok p1_O X LX 128 p5y5_2119 := ck_ok_s (ck_E1 (ck_S1 p5y5_2117_s ck_S0) (ck_E1 (ck_S1 p5y5_2118_s ck_S0) ck_E0)) ck_X0 ck_l0 p5y5_2119_e
set_option maxRecDepth 100000 in
def p5y5_2120 : ck_Sum := ((2, 0, 0), 245, [.inr (.inr (.inl 1)), .inl (ck_one 282), .inr (.inr (.inl 245))], ([], [], [(201, 282, 282, ck_one 9)]), ([(245, 0, 0)], []), [(.inr (some (.inl (ck_one 0))), 245, ([], [], [(245, 0, 0, ck_one 9)]))])
set_option maxRecDepth 100000 in
theorem p5y5_2120_e : ck_ok p1_O none [] [(128, [p5y5_2119])] 127 [] 90 p5y5_2120 = true := by decide +kernel
theorem p5y5_2120_s {X : Int → Int} {LX : Nat} : ck_Ok p1_O X LX 127 p5y5_2120 := ck_ok_s (ck_E1 (ck_S1 p5y5_2119_s ck_S0) ck_E0) ck_X0 ck_l0 p5y5_2120_e
set_option maxRecDepth 100000 in
def p5y5_2124 : ck_Sum := ((0, 0, 0), 245, [.inr (.inr (.inl 1)), .inl (ck_one 283)], ([], [], []), ([], []), [(.inr none, 245, ([], [], []))])
set_option maxRecDepth 100000 in
theorem p5y5_2124_e : ck_ok p1_O none [] [] 129 [] 82 p5y5_2124 = true := by decide +kernel
theorem p5y5_2124_s {X : Int → Int} {LX : Nat} : ck_Ok p1_O X LX 129 p5y5_2124 := ck_ok_s (ck_E0) ck_X0 ck_l0 p5y5_2124_e
set_option maxRecDepth 100000 in
def p5y5_2125 : ck_Sum := ((0, 0, 0), 245, [.inr (.inr (.inl 200)), .inl (ck_one 283)], ([], [], [(201, 283, 283, ck_one 1)]), ([], []), [(.inr (some (.inl (ck_one 1))), 245, ([], [], []))])
set_option maxRecDepth 100000 in
theorem p5y5_2125_e : ck_ok p1_O none [] [] 34 [] 92 p5y5_2125 = true := by decide +kernel
theorem p5y5_2125_s {X : Int → Int} {LX : Nat} : ck_Ok p1_O X LX 34 p5y5_2125 := ck_ok_s (ck_E0) ck_X0 ck_l0 p5y5_2125_e
set_option maxRecDepth 100000 in
def p5y5_2126 : ck_Sum := ((1, 0, 0), 245, [.inr (.inr (.inl 1)), .inl (ck_one 283)], ([], [], [(201, 283, 283, ck_one 1)]), ([], []), [(.inr (some (.inl (ck_one 1))), 245, ([], [], []))])
set_option maxRecDepth 100000 in
theorem p5y5_2126_e : ck_ok p1_O none [] [(129, [p5y5_2124]), (34, [p5y5_2125])] 128 [] 86 p5y5_2126 = true := by decide +kernel
theorem p5y5_2126_s {X : Int → Int} {LX : Nat} : ck_Ok p1_O X LX 128 p5y5_2126 := ck_ok_s (ck_E1 (ck_S1 p5y5_2124_s ck_S0) (ck_E1 (ck_S1 p5y5_2125_s ck_S0) ck_E0)) ck_X0 ck_l0 p5y5_2126_e
set_option maxRecDepth 100000 in
def p5y5_2127 : ck_Sum := ((2, 0, 0), 245, [.inr (.inr (.inl 1)), .inl (ck_one 283), .inr (.inr (.inl 245))], ([], [], [(201, 283, 283, ck_one 1)]), ([(245, 0, 0)], []), [(.inr (some (.inl (ck_one 0))), 245, ([], [], [(245, 0, 0, ck_one 1)]))])
set_option maxRecDepth 100000 in
theorem p5y5_2127_e : ck_ok p1_O none [] [(128, [p5y5_2126])] 127 [] 90 p5y5_2127 = true := by decide +kernel
theorem p5y5_2127_s {X : Int → Int} {LX : Nat} : ck_Ok p1_O X LX 127 p5y5_2127 := ck_ok_s (ck_E1 (ck_S1 p5y5_2126_s ck_S0) ck_E0) ck_X0 ck_l0 p5y5_2127_e
set_option maxRecDepth 100000 in
def p5y5_2131 : ck_Sum := ((0, 0, 0), 245, [.inr (.inr (.inl 1)), .inl (ck_one 284)], ([], [], []), ([], []), [(.inr none, 245, ([], [], []))])
set_option maxRecDepth 100000 in
theorem p5y5_2131_e : ck_ok p1_O none [] [] 129 [] 82 p5y5_2131 = true := by decide +kernel
theorem p5y5_2131_s {X : Int → Int} {LX : Nat} : ck_Ok p1_O X LX 129 p5y5_2131 := ck_ok_s (ck_E0) ck_X0 ck_l0 p5y5_2131_e
set_option maxRecDepth 100000 in
def p5y5_2132 : ck_Sum := ((0, 0, 0), 245, [.inr (.inr (.inl 200)), .inl (ck_one 284)], ([], [], [(201, 284, 284, ck_one 8)]), ([], []), [(.inr (some (.inl (ck_one 8))), 245, ([], [], []))])
set_option maxRecDepth 100000 in
theorem p5y5_2132_e : ck_ok p1_O none [] [] 34 [] 92 p5y5_2132 = true := by decide +kernel
theorem p5y5_2132_s {X : Int → Int} {LX : Nat} : ck_Ok p1_O X LX 34 p5y5_2132 := ck_ok_s (ck_E0) ck_X0 ck_l0 p5y5_2132_e
set_option maxRecDepth 100000 in
def p5y5_2133 : ck_Sum := ((1, 0, 0), 245, [.inr (.inr (.inl 1)), .inl (ck_one 284)], ([], [], [(201, 284, 284, ck_one 8)]), ([], []), [(.inr (some (.inl (ck_one 8))), 245, ([], [], []))])
set_option maxRecDepth 100000 in
theorem p5y5_2133_e : ck_ok p1_O none [] [(129, [p5y5_2131]), (34, [p5y5_2132])] 128 [] 86 p5y5_2133 = true := by decide +kernel
theorem p5y5_2133_s {X : Int → Int} {LX : Nat} : ck_Ok p1_O X LX 128 p5y5_2133 := ck_ok_s (ck_E1 (ck_S1 p5y5_2131_s ck_S0) (ck_E1 (ck_S1 p5y5_2132_s ck_S0) ck_E0)) ck_X0 ck_l0 p5y5_2133_e
set_option maxRecDepth 100000 in
def p5y5_2134 : ck_Sum := ((2, 0, 0), 245, [.inr (.inr (.inl 1)), .inl (ck_one 284), .inr (.inr (.inl 245))], ([], [], [(201, 284, 284, ck_one 8)]), ([(245, 0, 0)], []), [(.inr (some (.inl (ck_one 0))), 245, ([], [], [(245, 0, 0, ck_one 8)]))])
set_option maxRecDepth 100000 in
theorem p5y5_2134_e : ck_ok p1_O none [] [(128, [p5y5_2133])] 127 [] 90 p5y5_2134 = true := by decide +kernel
theorem p5y5_2134_s {X : Int → Int} {LX : Nat} : ck_Ok p1_O X LX 127 p5y5_2134 := ck_ok_s (ck_E1 (ck_S1 p5y5_2133_s ck_S0) ck_E0) ck_X0 ck_l0 p5y5_2134_e
set_option maxRecDepth 100000 in
def p5y5_2138 : ck_Sum := ((0, 0, 0), 245, [.inr (.inr (.inl 1)), .inl (ck_one 285)], ([], [], []), ([], []), [(.inr none, 245, ([], [], []))])
set_option maxRecDepth 100000 in
theorem p5y5_2138_e : ck_ok p1_O none [] [] 129 [] 82 p5y5_2138 = true := by decide +kernel
theorem p5y5_2138_s {X : Int → Int} {LX : Nat} : ck_Ok p1_O X LX 129 p5y5_2138 := ck_ok_s (ck_E0) ck_X0 ck_l0 p5y5_2138_e
set_option maxRecDepth 100000 in
def p5y5_2139 : ck_Sum := ((0, 0, 0), 245, [.inr (.inr (.inl 200)), .inl (ck_one 285)], ([], [], [(201, 285, 285, ck_one 2)]), ([], []), [(.inr (some (.inl (ck_one 2))), 245, ([], [], []))])
set_option maxRecDepth 100000 in
theorem p5y5_2139_e : ck_ok p1_O none [] [] 34 [] 92 p5y5_2139 = true := by decide +kernel
theorem p5y5_2139_s {X : Int → Int} {LX : Nat} : ck_Ok p1_O X LX 34 p5y5_2139 := ck_ok_s (ck_E0) ck_X0 ck_l0 p5y5_2139_e
set_option maxRecDepth 100000 in
def p5y5_2140 : ck_Sum := ((1, 0, 0), 245, [.inr (.inr (.inl 1)), .inl (ck_one 285)], ([], [], [(201, 285, 285, ck_one 2)]), ([], []), [(.inr (some (.inl (ck_one 2))), 245, ([], [], []))])
set_option maxRecDepth 100000 in
theorem p5y5_2140_e : ck_ok p1_O none [] [(129, [p5y5_2138]), (34, [p5y5_2139])] 128 [] 86 p5y5_2140 = true := by decide +kernel
theorem p5y5_2140_s {X : Int → Int} {LX : Nat} : ck_Ok p1_O X LX 128 p5y5_2140 := ck_ok_s (ck_E1 (ck_S1 p5y5_2138_s ck_S0) (ck_E1 (ck_S1 p5y5_2139_s ck_S0) ck_E0)) ck_X0 ck_l0 p5y5_2140_e
set_option maxRecDepth 100000 in
def p5y5_2141 : ck_Sum := ((2, 0, 0), 245, [.inr (.inr (.inl 1)), .inl (ck_one 285), .inr (.inr (.inl 245))], ([], [], [(201, 285, 285, ck_one 2)]), ([(245, 0, 0)], []), [(.inr (some (.inl (ck_one 0))), 245, ([], [], [(245, 0, 0, ck_one 2)]))])
set_option maxRecDepth 100000 in
theorem p5y5_2141_e : ck_ok p1_O none [] [(128, [p5y5_2140])] 127 [] 90 p5y5_2141 = true := by decide +kernel
theorem p5y5_2141_s {X : Int → Int} {LX : Nat} : ck_Ok p1_O X LX 127 p5y5_2141 := ck_ok_s (ck_E1 (ck_S1 p5y5_2140_s ck_S0) ck_E0) ck_X0 ck_l0 p5y5_2141_e
set_option maxRecDepth 100000 in
def p5y5_2145 : ck_Sum := ((0, 0, 0), 245, [.inr (.inr (.inl 1)), .inl (ck_one 286)], ([], [], []), ([], []), [(.inr none, 245, ([], [], []))])
set_option maxRecDepth 100000 in
theorem p5y5_2145_e : ck_ok p1_O none [] [] 129 [] 82 p5y5_2145 = true := by decide +kernel
theorem p5y5_2145_s {X : Int → Int} {LX : Nat} : ck_Ok p1_O X LX 129 p5y5_2145 := ck_ok_s (ck_E0) ck_X0 ck_l0 p5y5_2145_e
set_option maxRecDepth 100000 in
def p5y5_2146 : ck_Sum := ((0, 0, 0), 245, [.inr (.inr (.inl 200)), .inl (ck_one 286)], ([], [], [(201, 286, 286, ck_one 3)]), ([], []), [(.inr (some (.inl (ck_one 3))), 245, ([], [], []))])
set_option maxRecDepth 100000 in
theorem p5y5_2146_e : ck_ok p1_O none [] [] 34 [] 92 p5y5_2146 = true := by decide +kernel
theorem p5y5_2146_s {X : Int → Int} {LX : Nat} : ck_Ok p1_O X LX 34 p5y5_2146 := ck_ok_s (ck_E0) ck_X0 ck_l0 p5y5_2146_e
set_option maxRecDepth 100000 in
def p5y5_2147 : ck_Sum := ((1, 0, 0), 245, [.inr (.inr (.inl 1)), .inl (ck_one 286)], ([], [], [(201, 286, 286, ck_one 3)]), ([], []), [(.inr (some (.inl (ck_one 3))), 245, ([], [], []))])
set_option maxRecDepth 100000 in
theorem p5y5_2147_e : ck_ok p1_O none [] [(129, [p5y5_2145]), (34, [p5y5_2146])] 128 [] 86 p5y5_2147 = true := by decide +kernel
theorem p5y5_2147_s {X : Int → Int} {LX : Nat} : ck_Ok p1_O X LX 128 p5y5_2147 := ck_ok_s (ck_E1 (ck_S1 p5y5_2145_s ck_S0) (ck_E1 (ck_S1 p5y5_2146_s ck_S0) ck_E0)) ck_X0 ck_l0 p5y5_2147_e
set_option maxRecDepth 100000 in
def p5y5_2148 : ck_Sum := ((2, 0, 0), 245, [.inr (.inr (.inl 1)), .inl (ck_one 286), .inr (.inr (.inl 245))], ([], [], [(201, 286, 286, ck_one 3)]), ([(245, 0, 0)], []), [(.inr (some (.inl (ck_one 0))), 245, ([], [], [(245, 0, 0, ck_one 3)]))])
set_option maxRecDepth 100000 in
theorem p5y5_2148_e : ck_ok p1_O none [] [(128, [p5y5_2147])] 127 [] 90 p5y5_2148 = true := by decide +kernel
theorem p5y5_2148_s {X : Int → Int} {LX : Nat} : ck_Ok p1_O X LX 127 p5y5_2148 := ck_ok_s (ck_E1 (ck_S1 p5y5_2147_s ck_S0) ck_E0) ck_X0 ck_l0 p5y5_2148_e
set_option maxRecDepth 100000 in
def p5y5_2152 : ck_Sum := ((0, 0, 0), 245, [.inr (.inr (.inl 1)), .inl (ck_one 287)], ([], [], []), ([], []), [(.inr none, 245, ([], [], []))])
set_option maxRecDepth 100000 in
theorem p5y5_2152_e : ck_ok p1_O none [] [] 129 [] 82 p5y5_2152 = true := by decide +kernel
theorem p5y5_2152_s {X : Int → Int} {LX : Nat} : ck_Ok p1_O X LX 129 p5y5_2152 := ck_ok_s (ck_E0) ck_X0 ck_l0 p5y5_2152_e
set_option maxRecDepth 100000 in
def p5y5_2153 : ck_Sum := ((0, 0, 0), 245, [.inr (.inr (.inl 200)), .inl (ck_one 287)], ([], [], [(201, 287, 287, ck_one 5)]), ([], []), [(.inr (some (.inl (ck_one 5))), 245, ([], [], []))])
set_option maxRecDepth 100000 in
theorem p5y5_2153_e : ck_ok p1_O none [] [] 34 [] 92 p5y5_2153 = true := by decide +kernel
theorem p5y5_2153_s {X : Int → Int} {LX : Nat} : ck_Ok p1_O X LX 34 p5y5_2153 := ck_ok_s (ck_E0) ck_X0 ck_l0 p5y5_2153_e
set_option maxRecDepth 100000 in
def p5y5_2154 : ck_Sum := ((1, 0, 0), 245, [.inr (.inr (.inl 1)), .inl (ck_one 287)], ([], [], [(201, 287, 287, ck_one 5)]), ([], []), [(.inr (some (.inl (ck_one 5))), 245, ([], [], []))])
set_option maxRecDepth 100000 in
theorem p5y5_2154_e : ck_ok p1_O none [] [(129, [p5y5_2152]), (34, [p5y5_2153])] 128 [] 86 p5y5_2154 = true := by decide +kernel
theorem p5y5_2154_s {X : Int → Int} {LX : Nat} : ck_Ok p1_O X LX 128 p5y5_2154 := ck_ok_s (ck_E1 (ck_S1 p5y5_2152_s ck_S0) (ck_E1 (ck_S1 p5y5_2153_s ck_S0) ck_E0)) ck_X0 ck_l0 p5y5_2154_e
set_option maxRecDepth 100000 in
def p5y5_2155 : ck_Sum := ((2, 0, 0), 245, [.inr (.inr (.inl 1)), .inl (ck_one 287), .inr (.inr (.inl 245))], ([], [], [(201, 287, 287, ck_one 5)]), ([(245, 0, 0)], []), [(.inr (some (.inl (ck_one 0))), 245, ([], [], [(245, 0, 0, ck_one 5)]))])
set_option maxRecDepth 100000 in
theorem p5y5_2155_e : ck_ok p1_O none [] [(128, [p5y5_2154])] 127 [] 90 p5y5_2155 = true := by decide +kernel
theorem p5y5_2155_s {X : Int → Int} {LX : Nat} : ck_Ok p1_O X LX 127 p5y5_2155 := ck_ok_s (ck_E1 (ck_S1 p5y5_2154_s ck_S0) ck_E0) ck_X0 ck_l0 p5y5_2155_e
set_option maxRecDepth 100000 in
def p5y5_2159 : ck_Sum := ((0, 0, 0), 245, [.inr (.inr (.inl 1)), .inl (ck_one 288)], ([], [], []), ([], []), [(.inr none, 245, ([], [], []))])
set_option maxRecDepth 100000 in
theorem p5y5_2159_e : ck_ok p1_O none [] [] 129 [] 82 p5y5_2159 = true := by decide +kernel
theorem p5y5_2159_s {X : Int → Int} {LX : Nat} : ck_Ok p1_O X LX 129 p5y5_2159 := ck_ok_s (ck_E0) ck_X0 ck_l0 p5y5_2159_e
set_option maxRecDepth 100000 in
def p5y5_2160 : ck_Sum := ((0, 0, 0), 245, [.inr (.inr (.inl 200)), .inl (ck_one 288)], ([], [], [(201, 288, 288, ck_one 9)]), ([], []), [(.inr (some (.inl (ck_one 9))), 245, ([], [], []))])
set_option maxRecDepth 100000 in
theorem p5y5_2160_e : ck_ok p1_O none [] [] 34 [] 92 p5y5_2160 = true := by decide +kernel
theorem p5y5_2160_s {X : Int → Int} {LX : Nat} : ck_Ok p1_O X LX 34 p5y5_2160 := ck_ok_s (ck_E0) ck_X0 ck_l0 p5y5_2160_e
set_option maxRecDepth 100000 in
def p5y5_2161 : ck_Sum := ((1, 0, 0), 245, [.inr (.inr (.inl 1)), .inl (ck_one 288)], ([], [], [(201, 288, 288, ck_one 9)]), ([], []), [(.inr (some (.inl (ck_one 9))), 245, ([], [], []))])
set_option maxRecDepth 100000 in
theorem p5y5_2161_e : ck_ok p1_O none [] [(129, [p5y5_2159]), (34, [p5y5_2160])] 128 [] 86 p5y5_2161 = true := by decide +kernel
theorem p5y5_2161_s {X : Int → Int} {LX : Nat} : ck_Ok p1_O X LX 128 p5y5_2161 := ck_ok_s (ck_E1 (ck_S1 p5y5_2159_s ck_S0) (ck_E1 (ck_S1 p5y5_2160_s ck_S0) ck_E0)) ck_X0 ck_l0 p5y5_2161_e
set_option maxRecDepth 100000 in
def p5y5_2162 : ck_Sum := ((2, 0, 0), 245, [.inr (.inr (.inl 1)), .inl (ck_one 288), .inr (.inr (.inl 245))], ([], [], [(201, 288, 288, ck_one 9)]), ([(245, 0, 0)], []), [(.inr (some (.inl (ck_one 0))), 245, ([], [], [(245, 0, 0, ck_one 9)]))])
set_option maxRecDepth 100000 in
theorem p5y5_2162_e : ck_ok p1_O none [] [(128, [p5y5_2161])] 127 [] 90 p5y5_2162 = true := by decide +kernel
theorem p5y5_2162_s {X : Int → Int} {LX : Nat} : ck_Ok p1_O X LX 127 p5y5_2162 := ck_ok_s (ck_E1 (ck_S1 p5y5_2161_s ck_S0) ck_E0) ck_X0 ck_l0 p5y5_2162_e
set_option maxRecDepth 100000 in
def p5y5_2166 : ck_Sum := ((0, 0, 0), 245, [.inr (.inr (.inl 1)), .inl (ck_one 289)], ([], [], []), ([], []), [(.inr none, 245, ([], [], []))])
set_option maxRecDepth 100000 in
theorem p5y5_2166_e : ck_ok p1_O none [] [] 129 [] 82 p5y5_2166 = true := by decide +kernel
theorem p5y5_2166_s {X : Int → Int} {LX : Nat} : ck_Ok p1_O X LX 129 p5y5_2166 := ck_ok_s (ck_E0) ck_X0 ck_l0 p5y5_2166_e
set_option maxRecDepth 100000 in
def p5y5_2167 : ck_Sum := ((0, 0, 0), 245, [.inr (.inr (.inl 200)), .inl (ck_one 289)], ([], [], [(201, 289, 289, ck_one 2)]), ([], []), [(.inr (some (.inl (ck_one 2))), 245, ([], [], []))])
set_option maxRecDepth 100000 in
theorem p5y5_2167_e : ck_ok p1_O none [] [] 34 [] 92 p5y5_2167 = true := by decide +kernel
theorem p5y5_2167_s {X : Int → Int} {LX : Nat} : ck_Ok p1_O X LX 34 p5y5_2167 := ck_ok_s (ck_E0) ck_X0 ck_l0 p5y5_2167_e
set_option maxRecDepth 100000 in
def p5y5_2168 : ck_Sum := ((1, 0, 0), 245, [.inr (.inr (.inl 1)), .inl (ck_one 289)], ([], [], [(201, 289, 289, ck_one 2)]), ([], []), [(.inr (some (.inl (ck_one 2))), 245, ([], [], []))])
set_option maxRecDepth 100000 in
theorem p5y5_2168_e : ck_ok p1_O none [] [(129, [p5y5_2166]), (34, [p5y5_2167])] 128 [] 86 p5y5_2168 = true := by decide +kernel
theorem p5y5_2168_s {X : Int → Int} {LX : Nat} : ck_Ok p1_O X LX 128 p5y5_2168 := ck_ok_s (ck_E1 (ck_S1 p5y5_2166_s ck_S0) (ck_E1 (ck_S1 p5y5_2167_s ck_S0) ck_E0)) ck_X0 ck_l0 p5y5_2168_e
set_option maxRecDepth 100000 in
def p5y5_2169 : ck_Sum := ((2, 0, 0), 245, [.inr (.inr (.inl 1)), .inl (ck_one 289), .inr (.inr (.inl 245))], ([], [], [(201, 289, 289, ck_one 2)]), ([(245, 0, 0)], []), [(.inr (some (.inl (ck_one 0))), 245, ([], [], [(245, 0, 0, ck_one 2)]))])
set_option maxRecDepth 100000 in
theorem p5y5_2169_e : ck_ok p1_O none [] [(128, [p5y5_2168])] 127 [] 90 p5y5_2169 = true := by decide +kernel
theorem p5y5_2169_s {X : Int → Int} {LX : Nat} : ck_Ok p1_O X LX 127 p5y5_2169 := ck_ok_s (ck_E1 (ck_S1 p5y5_2168_s ck_S0) ck_E0) ck_X0 ck_l0 p5y5_2169_e
set_option maxRecDepth 100000 in
def p5y5_2173 : ck_Sum := ((0, 0, 0), 245, [.inr (.inr (.inl 1)), .inl (ck_one 290)], ([], [], []), ([], []), [(.inr none, 245, ([], [], []))])
set_option maxRecDepth 100000 in
theorem p5y5_2173_e : ck_ok p1_O none [] [] 129 [] 82 p5y5_2173 = true := by decide +kernel
theorem p5y5_2173_s {X : Int → Int} {LX : Nat} : ck_Ok p1_O X LX 129 p5y5_2173 := ck_ok_s (ck_E0) ck_X0 ck_l0 p5y5_2173_e
set_option maxRecDepth 100000 in
def p5y5_2174 : ck_Sum := ((0, 0, 0), 245, [.inr (.inr (.inl 200)), .inl (ck_one 290)], ([], [], [(201, 290, 290, ck_one 4)]), ([], []), [(.inr (some (.inl (ck_one 4))), 245, ([], [], []))])
set_option maxRecDepth 100000 in
theorem p5y5_2174_e : ck_ok p1_O none [] [] 34 [] 92 p5y5_2174 = true := by decide +kernel
theorem p5y5_2174_s {X : Int → Int} {LX : Nat} : ck_Ok p1_O X LX 34 p5y5_2174 := ck_ok_s (ck_E0) ck_X0 ck_l0 p5y5_2174_e
set_option maxRecDepth 100000 in
def p5y5_2175 : ck_Sum := ((1, 0, 0), 245, [.inr (.inr (.inl 1)), .inl (ck_one 290)], ([], [], [(201, 290, 290, ck_one 4)]), ([], []), [(.inr (some (.inl (ck_one 4))), 245, ([], [], []))])
set_option maxRecDepth 100000 in
theorem p5y5_2175_e : ck_ok p1_O none [] [(129, [p5y5_2173]), (34, [p5y5_2174])] 128 [] 86 p5y5_2175 = true := by decide +kernel
theorem p5y5_2175_s {X : Int → Int} {LX : Nat} : ck_Ok p1_O X LX 128 p5y5_2175 := ck_ok_s (ck_E1 (ck_S1 p5y5_2173_s ck_S0) (ck_E1 (ck_S1 p5y5_2174_s ck_S0) ck_E0)) ck_X0 ck_l0 p5y5_2175_e
set_option maxRecDepth 100000 in
def p5y5_2176 : ck_Sum := ((2, 0, 0), 245, [.inr (.inr (.inl 1)), .inl (ck_one 290), .inr (.inr (.inl 245))], ([], [], [(201, 290, 290, ck_one 4)]), ([(245, 0, 0)], []), [(.inr (some (.inl (ck_one 0))), 245, ([], [], [(245, 0, 0, ck_one 4)]))])
set_option maxRecDepth 100000 in
theorem p5y5_2176_e : ck_ok p1_O none [] [(128, [p5y5_2175])] 127 [] 90 p5y5_2176 = true := by decide +kernel
theorem p5y5_2176_s {X : Int → Int} {LX : Nat} : ck_Ok p1_O X LX 127 p5y5_2176 := ck_ok_s (ck_E1 (ck_S1 p5y5_2175_s ck_S0) ck_E0) ck_X0 ck_l0 p5y5_2176_e
set_option maxRecDepth 100000 in
def p5y5_2180 : ck_Sum := ((0, 0, 0), 245, [.inr (.inr (.inl 1)), .inl (ck_one 291)], ([], [], []), ([], []), [(.inr none, 245, ([], [], []))])
set_option maxRecDepth 100000 in
theorem p5y5_2180_e : ck_ok p1_O none [] [] 129 [] 82 p5y5_2180 = true := by decide +kernel
theorem p5y5_2180_s {X : Int → Int} {LX : Nat} : ck_Ok p1_O X LX 129 p5y5_2180 := ck_ok_s (ck_E0) ck_X0 ck_l0 p5y5_2180_e
set_option maxRecDepth 100000 in
def p5y5_2181 : ck_Sum := ((0, 0, 0), 245, [.inr (.inr (.inl 200)), .inl (ck_one 291)], ([], [], [(201, 291, 291, ck_one 2)]), ([], []), [(.inr (some (.inl (ck_one 2))), 245, ([], [], []))])
set_option maxRecDepth 100000 in
theorem p5y5_2181_e : ck_ok p1_O none [] [] 34 [] 92 p5y5_2181 = true := by decide +kernel
theorem p5y5_2181_s {X : Int → Int} {LX : Nat} : ck_Ok p1_O X LX 34 p5y5_2181 := ck_ok_s (ck_E0) ck_X0 ck_l0 p5y5_2181_e
set_option maxRecDepth 100000 in
def p5y5_2182 : ck_Sum := ((1, 0, 0), 245, [.inr (.inr (.inl 1)), .inl (ck_one 291)], ([], [], [(201, 291, 291, ck_one 2)]), ([], []), [(.inr (some (.inl (ck_one 2))), 245, ([], [], []))])
set_option maxRecDepth 100000 in
theorem p5y5_2182_e : ck_ok p1_O none [] [(129, [p5y5_2180]), (34, [p5y5_2181])] 128 [] 86 p5y5_2182 = true := by decide +kernel
theorem p5y5_2182_s {X : Int → Int} {LX : Nat} : ck_Ok p1_O X LX 128 p5y5_2182 := ck_ok_s (ck_E1 (ck_S1 p5y5_2180_s ck_S0) (ck_E1 (ck_S1 p5y5_2181_s ck_S0) ck_E0)) ck_X0 ck_l0 p5y5_2182_e
set_option maxRecDepth 100000 in
def p5y5_2183 : ck_Sum := ((2, 0, 0), 245, [.inr (.inr (.inl 1)), .inl (ck_one 291), .inr (.inr (.inl 245))], ([], [], [(201, 291, 291, ck_one 2)]), ([(245, 0, 0)], []), [(.inr (some (.inl (ck_one 0))), 245, ([], [], [(245, 0, 0, ck_one 2)]))])
set_option maxRecDepth 100000 in
theorem p5y5_2183_e : ck_ok p1_O none [] [(128, [p5y5_2182])] 127 [] 90 p5y5_2183 = true := by decide +kernel
theorem p5y5_2183_s {X : Int → Int} {LX : Nat} : ck_Ok p1_O X LX 127 p5y5_2183 := ck_ok_s (ck_E1 (ck_S1 p5y5_2182_s ck_S0) ck_E0) ck_X0 ck_l0 p5y5_2183_e
set_option maxRecDepth 100000 in
def p5y5_2187 : ck_Sum := ((0, 0, 0), 245, [.inr (.inr (.inl 1)), .inl (ck_one 292)], ([], [], []), ([], []), [(.inr none, 245, ([], [], []))])
set_option maxRecDepth 100000 in
theorem p5y5_2187_e : ck_ok p1_O none [] [] 129 [] 82 p5y5_2187 = true := by decide +kernel
theorem p5y5_2187_s {X : Int → Int} {LX : Nat} : ck_Ok p1_O X LX 129 p5y5_2187 := ck_ok_s (ck_E0) ck_X0 ck_l0 p5y5_2187_e
set_option maxRecDepth 100000 in
def p5y5_2188 : ck_Sum := ((0, 0, 0), 245, [.inr (.inr (.inl 200)), .inl (ck_one 292)], ([], [], [(201, 292, 292, ck_one 9)]), ([], []), [(.inr (some (.inl (ck_one 9))), 245, ([], [], []))])
set_option maxRecDepth 100000 in
theorem p5y5_2188_e : ck_ok p1_O none [] [] 34 [] 92 p5y5_2188 = true := by decide +kernel
theorem p5y5_2188_s {X : Int → Int} {LX : Nat} : ck_Ok p1_O X LX 34 p5y5_2188 := ck_ok_s (ck_E0) ck_X0 ck_l0 p5y5_2188_e
set_option maxRecDepth 100000 in
def p5y5_2189 : ck_Sum := ((1, 0, 0), 245, [.inr (.inr (.inl 1)), .inl (ck_one 292)], ([], [], [(201, 292, 292, ck_one 9)]), ([], []), [(.inr (some (.inl (ck_one 9))), 245, ([], [], []))])
set_option maxRecDepth 100000 in
theorem p5y5_2189_e : ck_ok p1_O none [] [(129, [p5y5_2187]), (34, [p5y5_2188])] 128 [] 86 p5y5_2189 = true := by decide +kernel
theorem p5y5_2189_s {X : Int → Int} {LX : Nat} : ck_Ok p1_O X LX 128 p5y5_2189 := ck_ok_s (ck_E1 (ck_S1 p5y5_2187_s ck_S0) (ck_E1 (ck_S1 p5y5_2188_s ck_S0) ck_E0)) ck_X0 ck_l0 p5y5_2189_e
set_option maxRecDepth 100000 in
def p5y5_2190 : ck_Sum := ((2, 0, 0), 245, [.inr (.inr (.inl 1)), .inl (ck_one 292), .inr (.inr (.inl 245))], ([], [], [(201, 292, 292, ck_one 9)]), ([(245, 0, 0)], []), [(.inr (some (.inl (ck_one 0))), 245, ([], [], [(245, 0, 0, ck_one 9)]))])
set_option maxRecDepth 100000 in
theorem p5y5_2190_e : ck_ok p1_O none [] [(128, [p5y5_2189])] 127 [] 90 p5y5_2190 = true := by decide +kernel
theorem p5y5_2190_s {X : Int → Int} {LX : Nat} : ck_Ok p1_O X LX 127 p5y5_2190 := ck_ok_s (ck_E1 (ck_S1 p5y5_2189_s ck_S0) ck_E0) ck_X0 ck_l0 p5y5_2190_e
set_option maxRecDepth 100000 in
def p5y5_2194 : ck_Sum := ((0, 0, 0), 245, [.inr (.inr (.inl 1)), .inl (ck_one 293)], ([], [], []), ([], []), [(.inr none, 245, ([], [], []))])
set_option maxRecDepth 100000 in
theorem p5y5_2194_e : ck_ok p1_O none [] [] 129 [] 82 p5y5_2194 = true := by decide +kernel
theorem p5y5_2194_s {X : Int → Int} {LX : Nat} : ck_Ok p1_O X LX 129 p5y5_2194 := ck_ok_s (ck_E0) ck_X0 ck_l0 p5y5_2194_e
set_option maxRecDepth 100000 in
def p5y5_2195 : ck_Sum := ((0, 0, 0), 245, [.inr (.inr (.inl 200)), .inl (ck_one 293)], ([], [], [(201, 293, 293, ck_one 3)]), ([], []), [(.inr (some (.inl (ck_one 3))), 245, ([], [], []))])
set_option maxRecDepth 100000 in
theorem p5y5_2195_e : ck_ok p1_O none [] [] 34 [] 92 p5y5_2195 = true := by decide +kernel
theorem p5y5_2195_s {X : Int → Int} {LX : Nat} : ck_Ok p1_O X LX 34 p5y5_2195 := ck_ok_s (ck_E0) ck_X0 ck_l0 p5y5_2195_e
set_option maxRecDepth 100000 in
def p5y5_2196 : ck_Sum := ((1, 0, 0), 245, [.inr (.inr (.inl 1)), .inl (ck_one 293)], ([], [], [(201, 293, 293, ck_one 3)]), ([], []), [(.inr (some (.inl (ck_one 3))), 245, ([], [], []))])
set_option maxRecDepth 100000 in
theorem p5y5_2196_e : ck_ok p1_O none [] [(129, [p5y5_2194]), (34, [p5y5_2195])] 128 [] 86 p5y5_2196 = true := by decide +kernel
theorem p5y5_2196_s {X : Int → Int} {LX : Nat} : ck_Ok p1_O X LX 128 p5y5_2196 := ck_ok_s (ck_E1 (ck_S1 p5y5_2194_s ck_S0) (ck_E1 (ck_S1 p5y5_2195_s ck_S0) ck_E0)) ck_X0 ck_l0 p5y5_2196_e
set_option maxRecDepth 100000 in
def p5y5_2197 : ck_Sum := ((2, 0, 0), 245, [.inr (.inr (.inl 1)), .inl (ck_one 293), .inr (.inr (.inl 245))], ([], [], [(201, 293, 293, ck_one 3)]), ([(245, 0, 0)], []), [(.inr (some (.inl (ck_one 0))), 245, ([], [], [(245, 0, 0, ck_one 3)]))])
set_option maxRecDepth 100000 in
theorem p5y5_2197_e : ck_ok p1_O none [] [(128, [p5y5_2196])] 127 [] 90 p5y5_2197 = true := by decide +kernel
theorem p5y5_2197_s {X : Int → Int} {LX : Nat} : ck_Ok p1_O X LX 127 p5y5_2197 := ck_ok_s (ck_E1 (ck_S1 p5y5_2196_s ck_S0) ck_E0) ck_X0 ck_l0 p5y5_2197_e
set_option maxRecDepth 100000 in
def p5y5_2201 : ck_Sum := ((0, 0, 0), 245, [.inr (.inr (.inl 1)), .inl (ck_one 294)], ([], [], []), ([], []), [(.inr none, 245, ([], [], []))])
set_option maxRecDepth 100000 in
theorem p5y5_2201_e : ck_ok p1_O none [] [] 129 [] 82 p5y5_2201 = true := by decide +kernel
theorem p5y5_2201_s {X : Int → Int} {LX : Nat} : ck_Ok p1_O X LX 129 p5y5_2201 := ck_ok_s (ck_E0) ck_X0 ck_l0 p5y5_2201_e
set_option maxRecDepth 100000 in
def p5y5_2202 : ck_Sum := ((0, 0, 0), 245, [.inr (.inr (.inl 200)), .inl (ck_one 294)], ([], [], [(201, 294, 294, ck_one 7)]), ([], []), [(.inr (some (.inl (ck_one 7))), 245, ([], [], []))])
set_option maxRecDepth 100000 in
theorem p5y5_2202_e : ck_ok p1_O none [] [] 34 [] 92 p5y5_2202 = true := by decide +kernel
theorem p5y5_2202_s {X : Int → Int} {LX : Nat} : ck_Ok p1_O X LX 34 p5y5_2202 := ck_ok_s (ck_E0) ck_X0 ck_l0 p5y5_2202_e
set_option maxRecDepth 100000 in
def p5y5_2203 : ck_Sum := ((1, 0, 0), 245, [.inr (.inr (.inl 1)), .inl (ck_one 294)], ([], [], [(201, 294, 294, ck_one 7)]), ([], []), [(.inr (some (.inl (ck_one 7))), 245, ([], [], []))])
set_option maxRecDepth 100000 in
theorem p5y5_2203_e : ck_ok p1_O none [] [(129, [p5y5_2201]), (34, [p5y5_2202])] 128 [] 86 p5y5_2203 = true := by decide +kernel
theorem p5y5_2203_s {X : Int → Int} {LX : Nat} : ck_Ok p1_O X LX 128 p5y5_2203 := ck_ok_s (ck_E1 (ck_S1 p5y5_2201_s ck_S0) (ck_E1 (ck_S1 p5y5_2202_s ck_S0) ck_E0)) ck_X0 ck_l0 p5y5_2203_e
set_option maxRecDepth 100000 in
def p5y5_2204 : ck_Sum := ((2, 0, 0), 245, [.inr (.inr (.inl 1)), .inl (ck_one 294), .inr (.inr (.inl 245))], ([], [], [(201, 294, 294, ck_one 7)]), ([(245, 0, 0)], []), [(.inr (some (.inl (ck_one 0))), 245, ([], [], [(245, 0, 0, ck_one 7)]))])
set_option maxRecDepth 100000 in
theorem p5y5_2204_e : ck_ok p1_O none [] [(128, [p5y5_2203])] 127 [] 90 p5y5_2204 = true := by decide +kernel
theorem p5y5_2204_s {X : Int → Int} {LX : Nat} : ck_Ok p1_O X LX 127 p5y5_2204 := ck_ok_s (ck_E1 (ck_S1 p5y5_2203_s ck_S0) ck_E0) ck_X0 ck_l0 p5y5_2204_e
set_option maxRecDepth 100000 in
def p5y5_2208 : ck_Sum := ((0, 0, 0), 245, [.inr (.inr (.inl 1)), .inl (ck_one 295)], ([], [], []), ([], []), [(.inr none, 245, ([], [], []))])
set_option maxRecDepth 100000 in
theorem p5y5_2208_e : ck_ok p1_O none [] [] 129 [] 82 p5y5_2208 = true := by decide +kernel
theorem p5y5_2208_s {X : Int → Int} {LX : Nat} : ck_Ok p1_O X LX 129 p5y5_2208 := ck_ok_s (ck_E0) ck_X0 ck_l0 p5y5_2208_e
set_option maxRecDepth 100000 in
def p5y5_2209 : ck_Sum := ((0, 0, 0), 245, [.inr (.inr (.inl 200)), .inl (ck_one 295)], ([], [], [(201, 295, 295, ck_one 2)]), ([], []), [(.inr (some (.inl (ck_one 2))), 245, ([], [], []))])
set_option maxRecDepth 100000 in
theorem p5y5_2209_e : ck_ok p1_O none [] [] 34 [] 92 p5y5_2209 = true := by decide +kernel
theorem p5y5_2209_s {X : Int → Int} {LX : Nat} : ck_Ok p1_O X LX 34 p5y5_2209 := ck_ok_s (ck_E0) ck_X0 ck_l0 p5y5_2209_e
set_option maxRecDepth 100000 in
def p5y5_2210 : ck_Sum := ((1, 0, 0), 245, [.inr (.inr (.inl 1)), .inl (ck_one 295)], ([], [], [(201, 295, 295, ck_one 2)]), ([], []), [(.inr (some (.inl (ck_one 2))), 245, ([], [], []))])
set_option maxRecDepth 100000 in
theorem p5y5_2210_e : ck_ok p1_O none [] [(129, [p5y5_2208]), (34, [p5y5_2209])] 128 [] 86 p5y5_2210 = true := by decide +kernel
theorem p5y5_2210_s {X : Int → Int} {LX : Nat} : ck_Ok p1_O X LX 128 p5y5_2210 := ck_ok_s (ck_E1 (ck_S1 p5y5_2208_s ck_S0) (ck_E1 (ck_S1 p5y5_2209_s ck_S0) ck_E0)) ck_X0 ck_l0 p5y5_2210_e
set_option maxRecDepth 100000 in
def p5y5_2211 : ck_Sum := ((2, 0, 0), 245, [.inr (.inr (.inl 1)), .inl (ck_one 295), .inr (.inr (.inl 245))], ([], [], [(201, 295, 295, ck_one 2)]), ([(245, 0, 0)], []), [(.inr (some (.inl (ck_one 0))), 245, ([], [], [(245, 0, 0, ck_one 2)]))])
set_option maxRecDepth 100000 in
theorem p5y5_2211_e : ck_ok p1_O none [] [(128, [p5y5_2210])] 127 [] 90 p5y5_2211 = true := by decide +kernel
theorem p5y5_2211_s {X : Int → Int} {LX : Nat} : ck_Ok p1_O X LX 127 p5y5_2211 := ck_ok_s (ck_E1 (ck_S1 p5y5_2210_s ck_S0) ck_E0) ck_X0 ck_l0 p5y5_2211_e
set_option maxRecDepth 100000 in
def p5y5_2215 : ck_Sum := ((0, 0, 0), 245, [.inr (.inr (.inl 1)), .inl (ck_one 296)], ([], [], []), ([], []), [(.inr none, 245, ([], [], []))])
set_option maxRecDepth 100000 in
theorem p5y5_2215_e : ck_ok p1_O none [] [] 129 [] 82 p5y5_2215 = true := by decide +kernel
theorem p5y5_2215_s {X : Int → Int} {LX : Nat} : ck_Ok p1_O X LX 129 p5y5_2215 := ck_ok_s (ck_E0) ck_X0 ck_l0 p5y5_2215_e
set_option maxRecDepth 100000 in
def p5y5_2216 : ck_Sum := ((0, 0, 0), 245, [.inr (.inr (.inl 200)), .inl (ck_one 296)], ([], [], [(201, 296, 296, ck_one 1)]), ([], []), [(.inr (some (.inl (ck_one 1))), 245, ([], [], []))])
set_option maxRecDepth 100000 in
theorem p5y5_2216_e : ck_ok p1_O none [] [] 34 [] 92 p5y5_2216 = true := by decide +kernel
theorem p5y5_2216_s {X : Int → Int} {LX : Nat} : ck_Ok p1_O X LX 34 p5y5_2216 := ck_ok_s (ck_E0) ck_X0 ck_l0 p5y5_2216_e
set_option maxRecDepth 100000 in
def p5y5_2217 : ck_Sum := ((1, 0, 0), 245, [.inr (.inr (.inl 1)), .inl (ck_one 296)], ([], [], [(201, 296, 296, ck_one 1)]), ([], []), [(.inr (some (.inl (ck_one 1))), 245, ([], [], []))])
set_option maxRecDepth 100000 in
theorem p5y5_2217_e : ck_ok p1_O none [] [(129, [p5y5_2215]), (34, [p5y5_2216])] 128 [] 86 p5y5_2217 = true := by decide +kernel
theorem p5y5_2217_s {X : Int → Int} {LX : Nat} : ck_Ok p1_O X LX 128 p5y5_2217 := ck_ok_s (ck_E1 (ck_S1 p5y5_2215_s ck_S0) (ck_E1 (ck_S1 p5y5_2216_s ck_S0) ck_E0)) ck_X0 ck_l0 p5y5_2217_e
set_option maxRecDepth 100000 in
def p5y5_2218 : ck_Sum := ((2, 0, 0), 245, [.inr (.inr (.inl 1)), .inl (ck_one 296), .inr (.inr (.inl 245))], ([], [], [(201, 296, 296, ck_one 1)]), ([(245, 0, 0)], []), [(.inr (some (.inl (ck_one 0))), 245, ([], [], [(245, 0, 0, ck_one 1)]))])
set_option maxRecDepth 100000 in
theorem p5y5_2218_e : ck_ok p1_O none [] [(128, [p5y5_2217])] 127 [] 90 p5y5_2218 = true := by decide +kernel
theorem p5y5_2218_s {X : Int → Int} {LX : Nat} : ck_Ok p1_O X LX 127 p5y5_2218 := ck_ok_s (ck_E1 (ck_S1 p5y5_2217_s ck_S0) ck_E0) ck_X0 ck_l0 p5y5_2218_e
set_option maxRecDepth 100000 in
def p5y5_2222 : ck_Sum := ((0, 0, 0), 245, [.inr (.inr (.inl 1)), .inl (ck_one 297)], ([], [], []), ([], []), [(.inr none, 245, ([], [], []))])
set_option maxRecDepth 100000 in
theorem p5y5_2222_e : ck_ok p1_O none [] [] 129 [] 82 p5y5_2222 = true := by decide +kernel
theorem p5y5_2222_s {X : Int → Int} {LX : Nat} : ck_Ok p1_O X LX 129 p5y5_2222 := ck_ok_s (ck_E0) ck_X0 ck_l0 p5y5_2222_e
set_option maxRecDepth 100000 in
def p5y5_2223 : ck_Sum := ((0, 0, 0), 245, [.inr (.inr (.inl 200)), .inl (ck_one 297)], ([], [], [(201, 297, 297, ck_one 5)]), ([], []), [(.inr (some (.inl (ck_one 5))), 245, ([], [], []))])
set_option maxRecDepth 100000 in
theorem p5y5_2223_e : ck_ok p1_O none [] [] 34 [] 92 p5y5_2223 = true := by decide +kernel
theorem p5y5_2223_s {X : Int → Int} {LX : Nat} : ck_Ok p1_O X LX 34 p5y5_2223 := ck_ok_s (ck_E0) ck_X0 ck_l0 p5y5_2223_e
set_option maxRecDepth 100000 in
def p5y5_2224 : ck_Sum := ((1, 0, 0), 245, [.inr (.inr (.inl 1)), .inl (ck_one 297)], ([], [], [(201, 297, 297, ck_one 5)]), ([], []), [(.inr (some (.inl (ck_one 5))), 245, ([], [], []))])
set_option maxRecDepth 100000 in
theorem p5y5_2224_e : ck_ok p1_O none [] [(129, [p5y5_2222]), (34, [p5y5_2223])] 128 [] 86 p5y5_2224 = true := by decide +kernel
theorem p5y5_2224_s {X : Int → Int} {LX : Nat} : ck_Ok p1_O X LX 128 p5y5_2224 := ck_ok_s (ck_E1 (ck_S1 p5y5_2222_s ck_S0) (ck_E1 (ck_S1 p5y5_2223_s ck_S0) ck_E0)) ck_X0 ck_l0 p5y5_2224_e
set_option maxRecDepth 100000 in
def p5y5_2225 : ck_Sum := ((2, 0, 0), 245, [.inr (.inr (.inl 1)), .inl (ck_one 297), .inr (.inr (.inl 245))], ([], [], [(201, 297, 297, ck_one 5)]), ([(245, 0, 0)], []), [(.inr (some (.inl (ck_one 0))), 245, ([], [], [(245, 0, 0, ck_one 5)]))])
set_option maxRecDepth 100000 in
theorem p5y5_2225_e : ck_ok p1_O none [] [(128, [p5y5_2224])] 127 [] 90 p5y5_2225 = true := by decide +kernel
theorem p5y5_2225_s {X : Int → Int} {LX : Nat} : ck_Ok p1_O X LX 127 p5y5_2225 := ck_ok_s (ck_E1 (ck_S1 p5y5_2224_s ck_S0) ck_E0) ck_X0 ck_l0 p5y5_2225_e
set_option maxRecDepth 100000 in
def p5y5_2229 : ck_Sum := ((0, 0, 0), 245, [.inr (.inr (.inl 1)), .inl (ck_one 298)], ([], [], []), ([], []), [(.inr none, 245, ([], [], []))])
set_option maxRecDepth 100000 in
theorem p5y5_2229_e : ck_ok p1_O none [] [] 129 [] 82 p5y5_2229 = true := by decide +kernel
theorem p5y5_2229_s {X : Int → Int} {LX : Nat} : ck_Ok p1_O X LX 129 p5y5_2229 := ck_ok_s (ck_E0) ck_X0 ck_l0 p5y5_2229_e
set_option maxRecDepth 100000 in
def p5y5_2230 : ck_Sum := ((0, 0, 0), 245, [.inr (.inr (.inl 200)), .inl (ck_one 298)], ([], [], [(201, 298, 298, ck_one 4)]), ([], []), [(.inr (some (.inl (ck_one 4))), 245, ([], [], []))])
set_option maxRecDepth 100000 in
theorem p5y5_2230_e : ck_ok p1_O none [] [] 34 [] 92 p5y5_2230 = true := by decide +kernel
theorem p5y5_2230_s {X : Int → Int} {LX : Nat} : ck_Ok p1_O X LX 34 p5y5_2230 := ck_ok_s (ck_E0) ck_X0 ck_l0 p5y5_2230_e
set_option maxRecDepth 100000 in
def p5y5_2231 : ck_Sum := ((1, 0, 0), 245, [.inr (.inr (.inl 1)), .inl (ck_one 298)], ([], [], [(201, 298, 298, ck_one 4)]), ([], []), [(.inr (some (.inl (ck_one 4))), 245, ([], [], []))])
set_option maxRecDepth 100000 in
theorem p5y5_2231_e : ck_ok p1_O none [] [(129, [p5y5_2229]), (34, [p5y5_2230])] 128 [] 86 p5y5_2231 = true := by decide +kernel
theorem p5y5_2231_s {X : Int → Int} {LX : Nat} : ck_Ok p1_O X LX 128 p5y5_2231 := ck_ok_s (ck_E1 (ck_S1 p5y5_2229_s ck_S0) (ck_E1 (ck_S1 p5y5_2230_s ck_S0) ck_E0)) ck_X0 ck_l0 p5y5_2231_e
set_option maxRecDepth 100000 in
def p5y5_2232 : ck_Sum := ((2, 0, 0), 245, [.inr (.inr (.inl 1)), .inl (ck_one 298), .inr (.inr (.inl 245))], ([], [], [(201, 298, 298, ck_one 4)]), ([(245, 0, 0)], []), [(.inr (some (.inl (ck_one 0))), 245, ([], [], [(245, 0, 0, ck_one 4)]))])
set_option maxRecDepth 100000 in
theorem p5y5_2232_e : ck_ok p1_O none [] [(128, [p5y5_2231])] 127 [] 90 p5y5_2232 = true := by decide +kernel
theorem p5y5_2232_s {X : Int → Int} {LX : Nat} : ck_Ok p1_O X LX 127 p5y5_2232 := ck_ok_s (ck_E1 (ck_S1 p5y5_2231_s ck_S0) ck_E0) ck_X0 ck_l0 p5y5_2232_e
set_option maxRecDepth 100000 in
def p5y5_2236 : ck_Sum := ((0, 0, 0), 245, [.inr (.inr (.inl 1)), .inl (ck_one 299)], ([], [], []), ([], []), [(.inr none, 245, ([], [], []))])
set_option maxRecDepth 100000 in
theorem p5y5_2236_e : ck_ok p1_O none [] [] 129 [] 82 p5y5_2236 = true := by decide +kernel
theorem p5y5_2236_s {X : Int → Int} {LX : Nat} : ck_Ok p1_O X LX 129 p5y5_2236 := ck_ok_s (ck_E0) ck_X0 ck_l0 p5y5_2236_e
set_option maxRecDepth 100000 in
def p5y5_2237 : ck_Sum := ((0, 0, 0), 245, [.inr (.inr (.inl 200)), .inl (ck_one 299)], ([], [], [(201, 299, 299, ck_one 9)]), ([], []), [(.inr (some (.inl (ck_one 9))), 245, ([], [], []))])
set_option maxRecDepth 100000 in
theorem p5y5_2237_e : ck_ok p1_O none [] [] 34 [] 92 p5y5_2237 = true := by decide +kernel
theorem p5y5_2237_s {X : Int → Int} {LX : Nat} : ck_Ok p1_O X LX 34 p5y5_2237 := ck_ok_s (ck_E0) ck_X0 ck_l0 p5y5_2237_e
set_option maxRecDepth 100000 in
def p5y5_2238 : ck_Sum := ((1, 0, 0), 245, [.inr (.inr (.inl 1)), .inl (ck_one 299)], ([], [], [(201, 299, 299, ck_one 9)]), ([], []), [(.inr (some (.inl (ck_one 9))), 245, ([], [], []))])
set_option maxRecDepth 100000 in
theorem p5y5_2238_e : ck_ok p1_O none [] [(129, [p5y5_2236]), (34, [p5y5_2237])] 128 [] 86 p5y5_2238 = true := by decide +kernel
theorem p5y5_2238_s {X : Int → Int} {LX : Nat} : ck_Ok p1_O X LX 128 p5y5_2238 := ck_ok_s (ck_E1 (ck_S1 p5y5_2236_s ck_S0) (ck_E1 (ck_S1 p5y5_2237_s ck_S0) ck_E0)) ck_X0 ck_l0 p5y5_2238_e
set_option maxRecDepth 100000 in
def p5y5_2239 : ck_Sum := ((2, 0, 0), 245, [.inr (.inr (.inl 1)), .inl (ck_one 299), .inr (.inr (.inl 245))], ([], [], [(201, 299, 299, ck_one 9)]), ([(245, 0, 0)], []), [(.inr (some (.inl (ck_one 0))), 245, ([], [], [(245, 0, 0, ck_one 9)]))])
set_option maxRecDepth 100000 in
theorem p5y5_2239_e : ck_ok p1_O none [] [(128, [p5y5_2238])] 127 [] 90 p5y5_2239 = true := by decide +kernel
theorem p5y5_2239_s {X : Int → Int} {LX : Nat} : ck_Ok p1_O X LX 127 p5y5_2239 := ck_ok_s (ck_E1 (ck_S1 p5y5_2238_s ck_S0) ck_E0) ck_X0 ck_l0 p5y5_2239_e
set_option maxRecDepth 100000 in
def p5y5_2243 : ck_Sum := ((6, 1, 6), 245, [.inr (.inr (.inl 1)), .inl (300, 2147483647, none)], ([], [], []), ([], []), [(.inl 0, 245, ([], [], []))])
set_option maxRecDepth 100000 in
theorem p5y5_2243_e : ck_ok p1_O none [] [] 129 [] 82 p5y5_2243 = true := by decide +kernel
theorem p5y5_2243_s {X : Int → Int} {LX : Nat} : ck_Ok p1_O X LX 129 p5y5_2243 := ck_ok_s (ck_E0) ck_X0 ck_l0 p5y5_2243_e
set_option maxRecDepth 100000 in
def p5y5_2244 : ck_Sum := ((7, 1, 6), 245, [.inr (.inr (.inl 1)), .inl (300, 2147483647, none)], ([], [], []), ([], []), [(.inl 0, 245, ([], [], []))])
set_option maxRecDepth 100000 in
theorem p5y5_2244_e : ck_ok p1_O none [] [(129, [p5y5_2243])] 128 [] 76 p5y5_2244 = true := by decide +kernel
theorem p5y5_2244_s {X : Int → Int} {LX : Nat} : ck_Ok p1_O X LX 128 p5y5_2244 := ck_ok_s (ck_E1 (ck_S1 p5y5_2243_s ck_S0) ck_E0) ck_X0 ck_l0 p5y5_2244_e
set_option maxRecDepth 100000 in
def p5y5_2245 : ck_Sum := ((8, 1, 6), 245, [.inr (.inr (.inl 1)), .inl (300, 2147483647, none), .inr (.inr (.inl 245))], ([], [], []), ([], []), [(.inr (some (.inl (ck_one 1))), 245, ([], [], []))])
set_option maxRecDepth 100000 in
theorem p5y5_2245_e : ck_ok p1_O none [] [(128, [p5y5_2244])] 127 [] 86 p5y5_2245 = true := by decide +kernel
theorem p5y5_2245_s {X : Int → Int} {LX : Nat} : ck_Ok p1_O X LX 127 p5y5_2245 := ck_ok_s (ck_E1 (ck_S1 p5y5_2244_s ck_S0) ck_E0) ck_X0 ck_l0 p5y5_2245_e
set_option maxRecDepth 100000 in
def p5y5_1925 : ck_Sum := ((0, 0, 0), 245, [.inl (ck_one 254), .inl (ck_one 0), .inl (ck_one 299)], ([], [], []), ([], []), [(.inr (some (.inl (ck_one 1))), 245, ([], [], []))])
set_option maxRecDepth 100000 in
theorem p5y5_1925_e : ck_ok p1_O none [] [] 287 [] 88 p5y5_1925 = true := by decide +kernel
theorem p5y5_1925_s {X : Int → Int} {LX : Nat} : ck_Ok p1_O X LX 287 p5y5_1925 := ck_ok_s (ck_E0) ck_X0 ck_l0 p5y5_1925_e
set_option maxRecDepth 100000 in
def p5y5_1926 : ck_Sum := ((1, 0, 0), 245, [.inl (ck_one 254)], ([], [], []), ([], []), [(.inr (some (.inl (ck_one 0))), 245, ([], [], []))])
set_option maxRecDepth 100000 in
theorem p5y5_1926_e : ck_ok p1_O none [] [(287, [p5y5_1925])] 286 [] 84 p5y5_1926 = true := by decide +kernel
theorem p5y5_1926_s {X : Int → Int} {LX : Nat} : ck_Ok p1_O X LX 286 p5y5_1926 := ck_ok_s (ck_E1 (ck_S1 p5y5_1925_s ck_S0) ck_E0) ck_X0 ck_l0 p5y5_1926_e
set_option maxRecDepth 100000 in
def p5y5_147 : ck_Sum := ((0, 0, 0), 245, [.inr (.inr (.inl 226)), .inl (ck_one 0), .inl (ck_one 1)], ([], [], []), ([], []), [(.inr (some (.inl (ck_one 0))), 245, ([], [], []))])
set_option maxRecDepth 100000 in
theorem p5y5_147_e : ck_ok p1_O none [] [] 283 [] 78 p5y5_147 = true := by decide +kernel
theorem p5y5_147_s {X : Int → Int} {LX : Nat} : ck_Ok p1_O X LX 283 p5y5_147 := ck_ok_s (ck_E0) ck_X0 ck_l0 p5y5_147_e
set_option maxRecDepth 100000 in
def p5y5_1927 : ck_Sum := ((2, 0, 0), 245, [.inr (.inr (.inl 226)), .inl (ck_one 254)], ([], [], [(234, 254, 254, ck_one 1)]), ([(226, 0, 0)], []), [(.inr (some (.inl (ck_one 1))), 245, ([], [], [(226, 0, 0, ck_one 0)]))])
set_option maxRecDepth 100000 in
theorem p5y5_1927_e : ck_ok p1_O none [] [(286, [p5y5_1926]), (283, [p5y5_147])] 285 [] 98 p5y5_1927 = true := by decide +kernel
theorem p5y5_1927_s {X : Int → Int} {LX : Nat} : ck_Ok p1_O X LX 285 p5y5_1927 := ck_ok_s (ck_E1 (ck_S1 p5y5_1926_s ck_S0) (ck_E1 (ck_S1 p5y5_147_s ck_S0) ck_E0)) ck_X0 ck_l0 p5y5_1927_e
set_option maxRecDepth 100000 in
def p5y5_1932 : ck_Sum := ((0, 0, 0), 245, [.inl (ck_one 255), .inl (ck_one 0), .inl (ck_one 299)], ([], [], []), ([], []), [(.inr (some (.inl (ck_one 1))), 245, ([], [], []))])
set_option maxRecDepth 100000 in
theorem p5y5_1932_e : ck_ok p1_O none [] [] 287 [] 88 p5y5_1932 = true := by decide +kernel
theorem p5y5_1932_s {X : Int → Int} {LX : Nat} : ck_Ok p1_O X LX 287 p5y5_1932 := ck_ok_s (ck_E0) ck_X0 ck_l0 p5y5_1932_e
set_option maxRecDepth 100000 in
def p5y5_1933 : ck_Sum := ((1, 0, 0), 245, [.inl (ck_one 255)], ([], [], []), ([], []), [(.inr (some (.inl (ck_one 0))), 245, ([], [], []))])
set_option maxRecDepth 100000 in
theorem p5y5_1933_e : ck_ok p1_O none [] [(287, [p5y5_1932])] 286 [] 84 p5y5_1933 = true := by decide +kernel
theorem p5y5_1933_s {X : Int → Int} {LX : Nat} : ck_Ok p1_O X LX 286 p5y5_1933 := ck_ok_s (ck_E1 (ck_S1 p5y5_1932_s ck_S0) ck_E0) ck_X0 ck_l0 p5y5_1933_e
set_option maxRecDepth 100000 in
def p5y5_1934 : ck_Sum := ((2, 0, 0), 245, [.inr (.inr (.inl 226)), .inl (ck_one 255)], ([], [], [(234, 255, 255, ck_one 2)]), ([(226, 0, 0)], []), [(.inr (some (.inl (ck_one 2))), 245, ([], [], [(226, 0, 0, ck_one 0)]))])
set_option maxRecDepth 100000 in
theorem p5y5_1934_e : ck_ok p1_O none [] [(286, [p5y5_1933]), (283, [p5y5_147])] 285 [] 98 p5y5_1934 = true := by decide +kernel
theorem p5y5_1934_s {X : Int → Int} {LX : Nat} : ck_Ok p1_O X LX 285 p5y5_1934 := ck_ok_s (ck_E1 (ck_S1 p5y5_1933_s ck_S0) (ck_E1 (ck_S1 p5y5_147_s ck_S0) ck_E0)) ck_X0 ck_l0 p5y5_1934_e
set_option maxRecDepth 100000 in
def p5y5_1939 : ck_Sum := ((0, 0, 0), 245, [.inl (ck_one 256), .inl (ck_one 0), .inl (ck_one 299)], ([], [], []), ([], []), [(.inr (some (.inl (ck_one 1))), 245, ([], [], []))])
set_option maxRecDepth 100000 in
theorem p5y5_1939_e : ck_ok p1_O none [] [] 287 [] 88 p5y5_1939 = true := by decide +kernel
theorem p5y5_1939_s {X : Int → Int} {LX : Nat} : ck_Ok p1_O X LX 287 p5y5_1939 := ck_ok_s (ck_E0) ck_X0 ck_l0 p5y5_1939_e
set_option maxRecDepth 100000 in
def p5y5_1940 : ck_Sum := ((1, 0, 0), 245, [.inl (ck_one 256)], ([], [], []), ([], []), [(.inr (some (.inl (ck_one 0))), 245, ([], [], []))])
set_option maxRecDepth 100000 in
theorem p5y5_1940_e : ck_ok p1_O none [] [(287, [p5y5_1939])] 286 [] 84 p5y5_1940 = true := by decide +kernel
theorem p5y5_1940_s {X : Int → Int} {LX : Nat} : ck_Ok p1_O X LX 286 p5y5_1940 := ck_ok_s (ck_E1 (ck_S1 p5y5_1939_s ck_S0) ck_E0) ck_X0 ck_l0 p5y5_1940_e
set_option maxRecDepth 100000 in
def p5y5_1941 : ck_Sum := ((2, 0, 0), 245, [.inr (.inr (.inl 226)), .inl (ck_one 256)], ([], [], [(234, 256, 256, ck_one 0)]), ([(226, 0, 0)], []), [(.inr (some (.inl (ck_one 0))), 245, ([], [], [(226, 0, 0, ck_one 0)]))])
set_option maxRecDepth 100000 in
theorem p5y5_1941_e : ck_ok p1_O none [] [(286, [p5y5_1940]), (283, [p5y5_147])] 285 [] 98 p5y5_1941 = true := by decide +kernel
theorem p5y5_1941_s {X : Int → Int} {LX : Nat} : ck_Ok p1_O X LX 285 p5y5_1941 := ck_ok_s (ck_E1 (ck_S1 p5y5_1940_s ck_S0) (ck_E1 (ck_S1 p5y5_147_s ck_S0) ck_E0)) ck_X0 ck_l0 p5y5_1941_e
set_option maxRecDepth 100000 in
def p5y5_1946 : ck_Sum := ((0, 0, 0), 245, [.inl (ck_one 257), .inl (ck_one 0), .inl (ck_one 299)], ([], [], []), ([], []), [(.inr (some (.inl (ck_one 1))), 245, ([], [], []))])
set_option maxRecDepth 100000 in
theorem p5y5_1946_e : ck_ok p1_O none [] [] 287 [] 88 p5y5_1946 = true := by decide +kernel
theorem p5y5_1946_s {X : Int → Int} {LX : Nat} : ck_Ok p1_O X LX 287 p5y5_1946 := ck_ok_s (ck_E0) ck_X0 ck_l0 p5y5_1946_e
set_option maxRecDepth 100000 in
def p5y5_1947 : ck_Sum := ((1, 0, 0), 245, [.inl (ck_one 257)], ([], [], []), ([], []), [(.inr (some (.inl (ck_one 0))), 245, ([], [], []))])
set_option maxRecDepth 100000 in
theorem p5y5_1947_e : ck_ok p1_O none [] [(287, [p5y5_1946])] 286 [] 84 p5y5_1947 = true := by decide +kernel
theorem p5y5_1947_s {X : Int → Int} {LX : Nat} : ck_Ok p1_O X LX 286 p5y5_1947 := ck_ok_s (ck_E1 (ck_S1 p5y5_1946_s ck_S0) ck_E0) ck_X0 ck_l0 p5y5_1947_e
set_option maxRecDepth 100000 in
def p5y5_1948 : ck_Sum := ((2, 0, 0), 245, [.inr (.inr (.inl 226)), .inl (ck_one 257)], ([], [], [(234, 257, 257, ck_one 6)]), ([(226, 0, 0)], []), [(.inr (some (.inl (ck_one 6))), 245, ([], [], [(226, 0, 0, ck_one 0)]))])
set_option maxRecDepth 100000 in
theorem p5y5_1948_e : ck_ok p1_O none [] [(286, [p5y5_1947]), (283, [p5y5_147])] 285 [] 98 p5y5_1948 = true := by decide +kernel
theorem p5y5_1948_s {X : Int → Int} {LX : Nat} : ck_Ok p1_O X LX 285 p5y5_1948 := ck_ok_s (ck_E1 (ck_S1 p5y5_1947_s ck_S0) (ck_E1 (ck_S1 p5y5_147_s ck_S0) ck_E0)) ck_X0 ck_l0 p5y5_1948_e
set_option maxRecDepth 100000 in
def p5y5_1953 : ck_Sum := ((0, 0, 0), 245, [.inl (ck_one 258), .inl (ck_one 0), .inl (ck_one 299)], ([], [], []), ([], []), [(.inr (some (.inl (ck_one 1))), 245, ([], [], []))])
set_option maxRecDepth 100000 in
theorem p5y5_1953_e : ck_ok p1_O none [] [] 287 [] 88 p5y5_1953 = true := by decide +kernel
theorem p5y5_1953_s {X : Int → Int} {LX : Nat} : ck_Ok p1_O X LX 287 p5y5_1953 := ck_ok_s (ck_E0) ck_X0 ck_l0 p5y5_1953_e
set_option maxRecDepth 100000 in
def p5y5_1954 : ck_Sum := ((1, 0, 0), 245, [.inl (ck_one 258)], ([], [], []), ([], []), [(.inr (some (.inl (ck_one 0))), 245, ([], [], []))])
set_option maxRecDepth 100000 in
theorem p5y5_1954_e : ck_ok p1_O none [] [(287, [p5y5_1953])] 286 [] 84 p5y5_1954 = true := by decide +kernel
theorem p5y5_1954_s {X : Int → Int} {LX : Nat} : ck_Ok p1_O X LX 286 p5y5_1954 := ck_ok_s (ck_E1 (ck_S1 p5y5_1953_s ck_S0) ck_E0) ck_X0 ck_l0 p5y5_1954_e
set_option maxRecDepth 100000 in
def p5y5_1955 : ck_Sum := ((2, 0, 0), 245, [.inr (.inr (.inl 226)), .inl (ck_one 258)], ([], [], [(234, 258, 258, ck_one 1)]), ([(226, 0, 0)], []), [(.inr (some (.inl (ck_one 1))), 245, ([], [], [(226, 0, 0, ck_one 0)]))])
set_option maxRecDepth 100000 in
theorem p5y5_1955_e : ck_ok p1_O none [] [(286, [p5y5_1954]), (283, [p5y5_147])] 285 [] 98 p5y5_1955 = true := by decide +kernel
theorem p5y5_1955_s {X : Int → Int} {LX : Nat} : ck_Ok p1_O X LX 285 p5y5_1955 := ck_ok_s (ck_E1 (ck_S1 p5y5_1954_s ck_S0) (ck_E1 (ck_S1 p5y5_147_s ck_S0) ck_E0)) ck_X0 ck_l0 p5y5_1955_e
set_option maxRecDepth 100000 in
def p5y5_1960 : ck_Sum := ((0, 0, 0), 245, [.inl (ck_one 259), .inl (ck_one 0), .inl (ck_one 299)], ([], [], []), ([], []), [(.inr (some (.inl (ck_one 1))), 245, ([], [], []))])
set_option maxRecDepth 100000 in
theorem p5y5_1960_e : ck_ok p1_O none [] [] 287 [] 88 p5y5_1960 = true := by decide +kernel
theorem p5y5_1960_s {X : Int → Int} {LX : Nat} : ck_Ok p1_O X LX 287 p5y5_1960 := ck_ok_s (ck_E0) ck_X0 ck_l0 p5y5_1960_e
set_option maxRecDepth 100000 in
def p5y5_1961 : ck_Sum := ((1, 0, 0), 245, [.inl (ck_one 259)], ([], [], []), ([], []), [(.inr (some (.inl (ck_one 0))), 245, ([], [], []))])
set_option maxRecDepth 100000 in
theorem p5y5_1961_e : ck_ok p1_O none [] [(287, [p5y5_1960])] 286 [] 84 p5y5_1961 = true := by decide +kernel
theorem p5y5_1961_s {X : Int → Int} {LX : Nat} : ck_Ok p1_O X LX 286 p5y5_1961 := ck_ok_s (ck_E1 (ck_S1 p5y5_1960_s ck_S0) ck_E0) ck_X0 ck_l0 p5y5_1961_e
set_option maxRecDepth 100000 in
def p5y5_1962 : ck_Sum := ((2, 0, 0), 245, [.inr (.inr (.inl 226)), .inl (ck_one 259)], ([], [], [(234, 259, 259, ck_one 0)]), ([(226, 0, 0)], []), [(.inr (some (.inl (ck_one 0))), 245, ([], [], [(226, 0, 0, ck_one 0)]))])
set_option maxRecDepth 100000 in
theorem p5y5_1962_e : ck_ok p1_O none [] [(286, [p5y5_1961]), (283, [p5y5_147])] 285 [] 98 p5y5_1962 = true := by decide +kernel
theorem p5y5_1962_s {X : Int → Int} {LX : Nat} : ck_Ok p1_O X LX 285 p5y5_1962 := ck_ok_s (ck_E1 (ck_S1 p5y5_1961_s ck_S0) (ck_E1 (ck_S1 p5y5_147_s ck_S0) ck_E0)) ck_X0 ck_l0 p5y5_1962_e
set_option maxRecDepth 100000 in
def p5y5_1967 : ck_Sum := ((0, 0, 0), 245, [.inl (ck_one 260), .inl (ck_one 0), .inl (ck_one 299)], ([], [], []), ([], []), [(.inr (some (.inl (ck_one 1))), 245, ([], [], []))])
set_option maxRecDepth 100000 in
theorem p5y5_1967_e : ck_ok p1_O none [] [] 287 [] 88 p5y5_1967 = true := by decide +kernel
theorem p5y5_1967_s {X : Int → Int} {LX : Nat} : ck_Ok p1_O X LX 287 p5y5_1967 := ck_ok_s (ck_E0) ck_X0 ck_l0 p5y5_1967_e
set_option maxRecDepth 100000 in
def p5y5_1968 : ck_Sum := ((1, 0, 0), 245, [.inl (ck_one 260)], ([], [], []), ([], []), [(.inr (some (.inl (ck_one 0))), 245, ([], [], []))])
set_option maxRecDepth 100000 in
theorem p5y5_1968_e : ck_ok p1_O none [] [(287, [p5y5_1967])] 286 [] 84 p5y5_1968 = true := by decide +kernel
theorem p5y5_1968_s {X : Int → Int} {LX : Nat} : ck_Ok p1_O X LX 286 p5y5_1968 := ck_ok_s (ck_E1 (ck_S1 p5y5_1967_s ck_S0) ck_E0) ck_X0 ck_l0 p5y5_1968_e
set_option maxRecDepth 100000 in
def p5y5_1969 : ck_Sum := ((2, 0, 0), 245, [.inr (.inr (.inl 226)), .inl (ck_one 260)], ([], [], [(234, 260, 260, ck_one 1)]), ([(226, 0, 0)], []), [(.inr (some (.inl (ck_one 1))), 245, ([], [], [(226, 0, 0, ck_one 0)]))])
set_option maxRecDepth 100000 in
theorem p5y5_1969_e : ck_ok p1_O none [] [(286, [p5y5_1968]), (283, [p5y5_147])] 285 [] 98 p5y5_1969 = true := by decide +kernel
theorem p5y5_1969_s {X : Int → Int} {LX : Nat} : ck_Ok p1_O X LX 285 p5y5_1969 := ck_ok_s (ck_E1 (ck_S1 p5y5_1968_s ck_S0) (ck_E1 (ck_S1 p5y5_147_s ck_S0) ck_E0)) ck_X0 ck_l0 p5y5_1969_e
set_option maxRecDepth 100000 in
def p5y5_1974 : ck_Sum := ((0, 0, 0), 245, [.inl (ck_one 261), .inl (ck_one 0), .inl (ck_one 299)], ([], [], []), ([], []), [(.inr (some (.inl (ck_one 1))), 245, ([], [], []))])
set_option maxRecDepth 100000 in
theorem p5y5_1974_e : ck_ok p1_O none [] [] 287 [] 88 p5y5_1974 = true := by decide +kernel
theorem p5y5_1974_s {X : Int → Int} {LX : Nat} : ck_Ok p1_O X LX 287 p5y5_1974 := ck_ok_s (ck_E0) ck_X0 ck_l0 p5y5_1974_e
set_option maxRecDepth 100000 in
def p5y5_1975 : ck_Sum := ((1, 0, 0), 245, [.inl (ck_one 261)], ([], [], []), ([], []), [(.inr (some (.inl (ck_one 0))), 245, ([], [], []))])
set_option maxRecDepth 100000 in
theorem p5y5_1975_e : ck_ok p1_O none [] [(287, [p5y5_1974])] 286 [] 84 p5y5_1975 = true := by decide +kernel
theorem p5y5_1975_s {X : Int → Int} {LX : Nat} : ck_Ok p1_O X LX 286 p5y5_1975 := ck_ok_s (ck_E1 (ck_S1 p5y5_1974_s ck_S0) ck_E0) ck_X0 ck_l0 p5y5_1975_e
set_option maxRecDepth 100000 in
def p5y5_1976 : ck_Sum := ((2, 0, 0), 245, [.inr (.inr (.inl 226)), .inl (ck_one 261)], ([], [], [(234, 261, 261, ck_one 7)]), ([(226, 0, 0)], []), [(.inr (some (.inl (ck_one 7))), 245, ([], [], [(226, 0, 0, ck_one 0)]))])
set_option maxRecDepth 100000 in
theorem p5y5_1976_e : ck_ok p1_O none [] [(286, [p5y5_1975]), (283, [p5y5_147])] 285 [] 98 p5y5_1976 = true := by decide +kernel
theorem p5y5_1976_s {X : Int → Int} {LX : Nat} : ck_Ok p1_O X LX 285 p5y5_1976 := ck_ok_s (ck_E1 (ck_S1 p5y5_1975_s ck_S0) (ck_E1 (ck_S1 p5y5_147_s ck_S0) ck_E0)) ck_X0 ck_l0 p5y5_1976_e
set_option maxRecDepth 100000 in
def p5y5_1981 : ck_Sum := ((0, 0, 0), 245, [.inl (ck_one 262), .inl (ck_one 0), .inl (ck_one 299)], ([], [], []), ([], []), [(.inr (some (.inl (ck_one 1))), 245, ([], [], []))])
set_option maxRecDepth 100000 in
theorem p5y5_1981_e : ck_ok p1_O none [] [] 287 [] 88 p5y5_1981 = true := by decide +kernel
theorem p5y5_1981_s {X : Int → Int} {LX : Nat} : ck_Ok p1_O X LX 287 p5y5_1981 := ck_ok_s (ck_E0) ck_X0 ck_l0 p5y5_1981_e
set_option maxRecDepth 100000 in
def p5y5_1982 : ck_Sum := ((1, 0, 0), 245, [.inl (ck_one 262)], ([], [], []), ([], []), [(.inr (some (.inl (ck_one 0))), 245, ([], [], []))])
set_option maxRecDepth 100000 in
theorem p5y5_1982_e : ck_ok p1_O none [] [(287, [p5y5_1981])] 286 [] 84 p5y5_1982 = true := by decide +kernel
theorem p5y5_1982_s {X : Int → Int} {LX : Nat} : ck_Ok p1_O X LX 286 p5y5_1982 := ck_ok_s (ck_E1 (ck_S1 p5y5_1981_s ck_S0) ck_E0) ck_X0 ck_l0 p5y5_1982_e
set_option maxRecDepth 100000 in
def p5y5_1983 : ck_Sum := ((2, 0, 0), 245, [.inr (.inr (.inl 226)), .inl (ck_one 262)], ([], [], [(234, 262, 262, ck_one 9)]), ([(226, 0, 0)], []), [(.inr (some (.inl (ck_one 9))), 245, ([], [], [(226, 0, 0, ck_one 0)]))])
set_option maxRecDepth 100000 in
theorem p5y5_1983_e : ck_ok p1_O none [] [(286, [p5y5_1982]), (283, [p5y5_147])] 285 [] 98 p5y5_1983 = true := by decide +kernel
theorem p5y5_1983_s {X : Int → Int} {LX : Nat} : ck_Ok p1_O X LX 285 p5y5_1983 := ck_ok_s (ck_E1 (ck_S1 p5y5_1982_s ck_S0) (ck_E1 (ck_S1 p5y5_147_s ck_S0) ck_E0)) ck_X0 ck_l0 p5y5_1983_e
set_option maxRecDepth 100000 in
def p5y5_1988 : ck_Sum := ((0, 0, 0), 245, [.inl (ck_one 263), .inl (ck_one 0), .inl (ck_one 299)], ([], [], []), ([], []), [(.inr (some (.inl (ck_one 1))), 245, ([], [], []))])
set_option maxRecDepth 100000 in
theorem p5y5_1988_e : ck_ok p1_O none [] [] 287 [] 88 p5y5_1988 = true := by decide +kernel
theorem p5y5_1988_s {X : Int → Int} {LX : Nat} : ck_Ok p1_O X LX 287 p5y5_1988 := ck_ok_s (ck_E0) ck_X0 ck_l0 p5y5_1988_e
set_option maxRecDepth 100000 in
def p5y5_1989 : ck_Sum := ((1, 0, 0), 245, [.inl (ck_one 263)], ([], [], []), ([], []), [(.inr (some (.inl (ck_one 0))), 245, ([], [], []))])
set_option maxRecDepth 100000 in
theorem p5y5_1989_e : ck_ok p1_O none [] [(287, [p5y5_1988])] 286 [] 84 p5y5_1989 = true := by decide +kernel
theorem p5y5_1989_s {X : Int → Int} {LX : Nat} : ck_Ok p1_O X LX 286 p5y5_1989 := ck_ok_s (ck_E1 (ck_S1 p5y5_1988_s ck_S0) ck_E0) ck_X0 ck_l0 p5y5_1989_e
set_option maxRecDepth 100000 in
def p5y5_1990 : ck_Sum := ((2, 0, 0), 245, [.inr (.inr (.inl 226)), .inl (ck_one 263)], ([], [], [(234, 263, 263, ck_one 0)]), ([(226, 0, 0)], []), [(.inr (some (.inl (ck_one 0))), 245, ([], [], [(226, 0, 0, ck_one 0)]))])
set_option maxRecDepth 100000 in
theorem p5y5_1990_e : ck_ok p1_O none [] [(286, [p5y5_1989]), (283, [p5y5_147])] 285 [] 98 p5y5_1990 = true := by decide +kernel
theorem p5y5_1990_s {X : Int → Int} {LX : Nat} : ck_Ok p1_O X LX 285 p5y5_1990 := ck_ok_s (ck_E1 (ck_S1 p5y5_1989_s ck_S0) (ck_E1 (ck_S1 p5y5_147_s ck_S0) ck_E0)) ck_X0 ck_l0 p5y5_1990_e
set_option maxRecDepth 100000 in
def p5y5_1995 : ck_Sum := ((0, 0, 0), 245, [.inl (ck_one 264), .inl (ck_one 0), .inl (ck_one 299)], ([], [], []), ([], []), [(.inr (some (.inl (ck_one 1))), 245, ([], [], []))])
set_option maxRecDepth 100000 in
theorem p5y5_1995_e : ck_ok p1_O none [] [] 287 [] 88 p5y5_1995 = true := by decide +kernel
theorem p5y5_1995_s {X : Int → Int} {LX : Nat} : ck_Ok p1_O X LX 287 p5y5_1995 := ck_ok_s (ck_E0) ck_X0 ck_l0 p5y5_1995_e
set_option maxRecDepth 100000 in
def p5y5_1996 : ck_Sum := ((1, 0, 0), 245, [.inl (ck_one 264)], ([], [], []), ([], []), [(.inr (some (.inl (ck_one 0))), 245, ([], [], []))])
set_option maxRecDepth 100000 in
theorem p5y5_1996_e : ck_ok p1_O none [] [(287, [p5y5_1995])] 286 [] 84 p5y5_1996 = true := by decide +kernel
theorem p5y5_1996_s {X : Int → Int} {LX : Nat} : ck_Ok p1_O X LX 286 p5y5_1996 := ck_ok_s (ck_E1 (ck_S1 p5y5_1995_s ck_S0) ck_E0) ck_X0 ck_l0 p5y5_1996_e
set_option maxRecDepth 100000 in
def p5y5_1997 : ck_Sum := ((2, 0, 0), 245, [.inr (.inr (.inl 226)), .inl (ck_one 264)], ([], [], [(234, 264, 264, ck_one 6)]), ([(226, 0, 0)], []), [(.inr (some (.inl (ck_one 6))), 245, ([], [], [(226, 0, 0, ck_one 0)]))])
set_option maxRecDepth 100000 in
theorem p5y5_1997_e : ck_ok p1_O none [] [(286, [p5y5_1996]), (283, [p5y5_147])] 285 [] 98 p5y5_1997 = true := by decide +kernel
theorem p5y5_1997_s {X : Int → Int} {LX : Nat} : ck_Ok p1_O X LX 285 p5y5_1997 := ck_ok_s (ck_E1 (ck_S1 p5y5_1996_s ck_S0) (ck_E1 (ck_S1 p5y5_147_s ck_S0) ck_E0)) ck_X0 ck_l0 p5y5_1997_e
set_option maxRecDepth 100000 in
def p5y5_2002 : ck_Sum := ((0, 0, 0), 245, [.inl (ck_one 265), .inl (ck_one 0), .inl (ck_one 299)], ([], [], []), ([], []), [(.inr (some (.inl (ck_one 1))), 245, ([], [], []))])
set_option maxRecDepth 100000 in
theorem p5y5_2002_e : ck_ok p1_O none [] [] 287 [] 88 p5y5_2002 = true := by decide +kernel
theorem p5y5_2002_s {X : Int → Int} {LX : Nat} : ck_Ok p1_O X LX 287 p5y5_2002 := ck_ok_s (ck_E0) ck_X0 ck_l0 p5y5_2002_e
set_option maxRecDepth 100000 in
def p5y5_2003 : ck_Sum := ((1, 0, 0), 245, [.inl (ck_one 265)], ([], [], []), ([], []), [(.inr (some (.inl (ck_one 0))), 245, ([], [], []))])
set_option maxRecDepth 100000 in
theorem p5y5_2003_e : ck_ok p1_O none [] [(287, [p5y5_2002])] 286 [] 84 p5y5_2003 = true := by decide +kernel
theorem p5y5_2003_s {X : Int → Int} {LX : Nat} : ck_Ok p1_O X LX 286 p5y5_2003 := ck_ok_s (ck_E1 (ck_S1 p5y5_2002_s ck_S0) ck_E0) ck_X0 ck_l0 p5y5_2003_e
set_option maxRecDepth 100000 in
def p5y5_2004 : ck_Sum := ((2, 0, 0), 245, [.inr (.inr (.inl 226)), .inl (ck_one 265)], ([], [], [(234, 265, 265, ck_one 3)]), ([(226, 0, 0)], []), [(.inr (some (.inl (ck_one 3))), 245, ([], [], [(226, 0, 0, ck_one 0)]))])
set_option maxRecDepth 100000 in
theorem p5y5_2004_e : ck_ok p1_O none [] [(286, [p5y5_2003]), (283, [p5y5_147])] 285 [] 98 p5y5_2004 = true := by decide +kernel
theorem p5y5_2004_s {X : Int → Int} {LX : Nat} : ck_Ok p1_O X LX 285 p5y5_2004 := ck_ok_s (ck_E1 (ck_S1 p5y5_2003_s ck_S0) (ck_E1 (ck_S1 p5y5_147_s ck_S0) ck_E0)) ck_X0 ck_l0 p5y5_2004_e
set_option maxRecDepth 100000 in
def p5y5_2009 : ck_Sum := ((0, 0, 0), 245, [.inl (ck_one 266), .inl (ck_one 0), .inl (ck_one 299)], ([], [], []), ([], []), [(.inr (some (.inl (ck_one 1))), 245, ([], [], []))])
set_option maxRecDepth 100000 in
theorem p5y5_2009_e : ck_ok p1_O none [] [] 287 [] 88 p5y5_2009 = true := by decide +kernel
theorem p5y5_2009_s {X : Int → Int} {LX : Nat} : ck_Ok p1_O X LX 287 p5y5_2009 := ck_ok_s (ck_E0) ck_X0 ck_l0 p5y5_2009_e
set_option maxRecDepth 100000 in
def p5y5_2010 : ck_Sum := ((1, 0, 0), 245, [.inl (ck_one 266)], ([], [], []), ([], []), [(.inr (some (.inl (ck_one 0))), 245, ([], [], []))])
set_option maxRecDepth 100000 in
theorem p5y5_2010_e : ck_ok p1_O none [] [(287, [p5y5_2009])] 286 [] 84 p5y5_2010 = true := by decide +kernel
theorem p5y5_2010_s {X : Int → Int} {LX : Nat} : ck_Ok p1_O X LX 286 p5y5_2010 := ck_ok_s (ck_E1 (ck_S1 p5y5_2009_s ck_S0) ck_E0) ck_X0 ck_l0 p5y5_2010_e
set_option maxRecDepth 100000 in
def p5y5_2011 : ck_Sum := ((2, 0, 0), 245, [.inr (.inr (.inl 226)), .inl (ck_one 266)], ([], [], [(234, 266, 266, ck_one 8)]), ([(226, 0, 0)], []), [(.inr (some (.inl (ck_one 8))), 245, ([], [], [(226, 0, 0, ck_one 0)]))])
set_option maxRecDepth 100000 in
theorem p5y5_2011_e : ck_ok p1_O none [] [(286, [p5y5_2010]), (283, [p5y5_147])] 285 [] 98 p5y5_2011 = true := by decide +kernel
theorem p5y5_2011_s {X : Int → Int} {LX : Nat} : ck_Ok p1_O X LX 285 p5y5_2011 := ck_ok_s (ck_E1 (ck_S1 p5y5_2010_s ck_S0) (ck_E1 (ck_S1 p5y5_147_s ck_S0) ck_E0)) ck_X0 ck_l0 p5y5_2011_e
set_option maxRecDepth 100000 in
def p5y5_2016 : ck_Sum := ((0, 0, 0), 245, [.inl (ck_one 267), .inl (ck_one 0), .inl (ck_one 299)], ([], [], []), ([], []), [(.inr (some (.inl (ck_one 1))), 245, ([], [], []))])
set_option maxRecDepth 100000 in
theorem p5y5_2016_e : ck_ok p1_O none [] [] 287 [] 88 p5y5_2016 = true := by decide +kernel
theorem p5y5_2016_s {X : Int → Int} {LX : Nat} : ck_Ok p1_O X LX 287 p5y5_2016 := ck_ok_s (ck_E0) ck_X0 ck_l0 p5y5_2016_e
set_option maxRecDepth 100000 in
def p5y5_2017 : ck_Sum := ((1, 0, 0), 245, [.inl (ck_one 267)], ([], [], []), ([], []), [(.inr (some (.inl (ck_one 0))), 245, ([], [], []))])
set_option maxRecDepth 100000 in
theorem p5y5_2017_e : ck_ok p1_O none [] [(287, [p5y5_2016])] 286 [] 84 p5y5_2017 = true := by decide +kernel
theorem p5y5_2017_s {X : Int → Int} {LX : Nat} : ck_Ok p1_O X LX 286 p5y5_2017 := ck_ok_s (ck_E1 (ck_S1 p5y5_2016_s ck_S0) ck_E0) ck_X0 ck_l0 p5y5_2017_e
set_option maxRecDepth 100000 in
def p5y5_2018 : ck_Sum := ((2, 0, 0), 245, [.inr (.inr (.inl 226)), .inl (ck_one 267)], ([], [], [(234, 267, 267, ck_one 3)]), ([(226, 0, 0)], []), [(.inr (some (.inl (ck_one 3))), 245, ([], [], [(226, 0, 0, ck_one 0)]))])
set_option maxRecDepth 100000 in
theorem p5y5_2018_e : ck_ok p1_O none [] [(286, [p5y5_2017]), (283, [p5y5_147])] 285 [] 98 p5y5_2018 = true := by decide +kernel
theorem p5y5_2018_s {X : Int → Int} {LX : Nat} : ck_Ok p1_O X LX 285 p5y5_2018 := ck_ok_s (ck_E1 (ck_S1 p5y5_2017_s ck_S0) (ck_E1 (ck_S1 p5y5_147_s ck_S0) ck_E0)) ck_X0 ck_l0 p5y5_2018_e
set_option maxRecDepth 100000 in
def p5y5_2023 : ck_Sum := ((0, 0, 0), 245, [.inl (ck_one 268), .inl (ck_one 0), .inl (ck_one 299)], ([], [], []), ([], []), [(.inr (some (.inl (ck_one 1))), 245, ([], [], []))])
set_option maxRecDepth 100000 in
theorem p5y5_2023_e : ck_ok p1_O none [] [] 287 [] 88 p5y5_2023 = true := by decide +kernel
theorem p5y5_2023_s {X : Int → Int} {LX : Nat} : ck_Ok p1_O X LX 287 p5y5_2023 := ck_ok_s (ck_E0) ck_X0 ck_l0 p5y5_2023_e
set_option maxRecDepth 100000 in
def p5y5_2024 : ck_Sum := ((1, 0, 0), 245, [.inl (ck_one 268)], ([], [], []), ([], []), [(.inr (some (.inl (ck_one 0))), 245, ([], [], []))])
set_option maxRecDepth 100000 in
theorem p5y5_2024_e : ck_ok p1_O none [] [(287, [p5y5_2023])] 286 [] 84 p5y5_2024 = true := by decide +kernel
theorem p5y5_2024_s {X : Int → Int} {LX : Nat} : ck_Ok p1_O X LX 286 p5y5_2024 := ck_ok_s (ck_E1 (ck_S1 p5y5_2023_s ck_S0) ck_E0) ck_X0 ck_l0 p5y5_2024_e
set_option maxRecDepth 100000 in
def p5y5_2025 : ck_Sum := ((2, 0, 0), 245, [.inr (.inr (.inl 226)), .inl (ck_one 268)], ([], [], [(234, 268, 268, ck_one 1)]), ([(226, 0, 0)], []), [(.inr (some (.inl (ck_one 1))), 245, ([], [], [(226, 0, 0, ck_one 0)]))])
set_option maxRecDepth 100000 in
theorem p5y5_2025_e : ck_ok p1_O none [] [(286, [p5y5_2024]), (283, [p5y5_147])] 285 [] 98 p5y5_2025 = true := by decide +kernel
theorem p5y5_2025_s {X : Int → Int} {LX : Nat} : ck_Ok p1_O X LX 285 p5y5_2025 := ck_ok_s (ck_E1 (ck_S1 p5y5_2024_s ck_S0) (ck_E1 (ck_S1 p5y5_147_s ck_S0) ck_E0)) ck_X0 ck_l0 p5y5_2025_e
set_option maxRecDepth 100000 in
def p5y5_2030 : ck_Sum := ((0, 0, 0), 245, [.inl (ck_one 269), .inl (ck_one 0), .inl (ck_one 299)], ([], [], []), ([], []), [(.inr (some (.inl (ck_one 1))), 245, ([], [], []))])
set_option maxRecDepth 100000 in
theorem p5y5_2030_e : ck_ok p1_O none [] [] 287 [] 88 p5y5_2030 = true := by decide +kernel
theorem p5y5_2030_s {X : Int → Int} {LX : Nat} : ck_Ok p1_O X LX 287 p5y5_2030 := ck_ok_s (ck_E0) ck_X0 ck_l0 p5y5_2030_e
set_option maxRecDepth 100000 in
def p5y5_2031 : ck_Sum := ((1, 0, 0), 245, [.inl (ck_one 269)], ([], [], []), ([], []), [(.inr (some (.inl (ck_one 0))), 245, ([], [], []))])
set_option maxRecDepth 100000 in
theorem p5y5_2031_e : ck_ok p1_O none [] [(287, [p5y5_2030])] 286 [] 84 p5y5_2031 = true := by decide +kernel
theorem p5y5_2031_s {X : Int → Int} {LX : Nat} : ck_Ok p1_O X LX 286 p5y5_2031 := ck_ok_s (ck_E1 (ck_S1 p5y5_2030_s ck_S0) ck_E0) ck_X0 ck_l0 p5y5_2031_e
set_option maxRecDepth 100000 in
def p5y5_2032 : ck_Sum := ((2, 0, 0), 245, [.inr (.inr (.inl 226)), .inl (ck_one 269)], ([], [], [(234, 269, 269, ck_one 1)]), ([(226, 0, 0)], []), [(.inr (some (.inl (ck_one 1))), 245, ([], [], [(226, 0, 0, ck_one 0)]))])
set_option maxRecDepth 100000 in
theorem p5y5_2032_e : ck_ok p1_O none [] [(286, [p5y5_2031]), (283, [p5y5_147])] 285 [] 98 p5y5_2032 = true := by decide +kernel
theorem p5y5_2032_s {X : Int → Int} {LX : Nat} : ck_Ok p1_O X LX 285 p5y5_2032 := ck_ok_s (ck_E1 (ck_S1 p5y5_2031_s ck_S0) (ck_E1 (ck_S1 p5y5_147_s ck_S0) ck_E0)) ck_X0 ck_l0 p5y5_2032_e
set_option maxRecDepth 100000 in
def p5y5_2037 : ck_Sum := ((0, 0, 0), 245, [.inl (ck_one 270), .inl (ck_one 0), .inl (ck_one 299)], ([], [], []), ([], []), [(.inr (some (.inl (ck_one 1))), 245, ([], [], []))])
set_option maxRecDepth 100000 in
theorem p5y5_2037_e : ck_ok p1_O none [] [] 287 [] 88 p5y5_2037 = true := by decide +kernel
theorem p5y5_2037_s {X : Int → Int} {LX : Nat} : ck_Ok p1_O X LX 287 p5y5_2037 := ck_ok_s (ck_E0) ck_X0 ck_l0 p5y5_2037_e
set_option maxRecDepth 100000 in
def p5y5_2038 : ck_Sum := ((1, 0, 0), 245, [.inl (ck_one 270)], ([], [], []), ([], []), [(.inr (some (.inl (ck_one 0))), 245, ([], [], []))])
set_option maxRecDepth 100000 in
theorem p5y5_2038_e : ck_ok p1_O none [] [(287, [p5y5_2037])] 286 [] 84 p5y5_2038 = true := by decide +kernel
theorem p5y5_2038_s {X : Int → Int} {LX : Nat} : ck_Ok p1_O X LX 286 p5y5_2038 := ck_ok_s (ck_E1 (ck_S1 p5y5_2037_s ck_S0) ck_E0) ck_X0 ck_l0 p5y5_2038_e
set_option maxRecDepth 100000 in
def p5y5_2039 : ck_Sum := ((2, 0, 0), 245, [.inr (.inr (.inl 226)), .inl (ck_one 270)], ([], [], [(234, 270, 270, ck_one 9)]), ([(226, 0, 0)], []), [(.inr (some (.inl (ck_one 9))), 245, ([], [], [(226, 0, 0, ck_one 0)]))])
set_option maxRecDepth 100000 in
theorem p5y5_2039_e : ck_ok p1_O none [] [(286, [p5y5_2038]), (283, [p5y5_147])] 285 [] 98 p5y5_2039 = true := by decide +kernel
theorem p5y5_2039_s {X : Int → Int} {LX : Nat} : ck_Ok p1_O X LX 285 p5y5_2039 := ck_ok_s (ck_E1 (ck_S1 p5y5_2038_s ck_S0) (ck_E1 (ck_S1 p5y5_147_s ck_S0) ck_E0)) ck_X0 ck_l0 p5y5_2039_e
set_option maxRecDepth 100000 in
def p5y5_2044 : ck_Sum := ((0, 0, 0), 245, [.inl (ck_one 271), .inl (ck_one 0), .inl (ck_one 299)], ([], [], []), ([], []), [(.inr (some (.inl (ck_one 1))), 245, ([], [], []))])
set_option maxRecDepth 100000 in
theorem p5y5_2044_e : ck_ok p1_O none [] [] 287 [] 88 p5y5_2044 = true := by decide +kernel
theorem p5y5_2044_s {X : Int → Int} {LX : Nat} : ck_Ok p1_O X LX 287 p5y5_2044 := ck_ok_s (ck_E0) ck_X0 ck_l0 p5y5_2044_e
set_option maxRecDepth 100000 in
def p5y5_2045 : ck_Sum := ((1, 0, 0), 245, [.inl (ck_one 271)], ([], [], []), ([], []), [(.inr (some (.inl (ck_one 0))), 245, ([], [], []))])
set_option maxRecDepth 100000 in
theorem p5y5_2045_e : ck_ok p1_O none [] [(287, [p5y5_2044])] 286 [] 84 p5y5_2045 = true := by decide +kernel
theorem p5y5_2045_s {X : Int → Int} {LX : Nat} : ck_Ok p1_O X LX 286 p5y5_2045 := ck_ok_s (ck_E1 (ck_S1 p5y5_2044_s ck_S0) ck_E0) ck_X0 ck_l0 p5y5_2045_e
set_option maxRecDepth 100000 in
def p5y5_2046 : ck_Sum := ((2, 0, 0), 245, [.inr (.inr (.inl 226)), .inl (ck_one 271)], ([], [], [(234, 271, 271, ck_one 6)]), ([(226, 0, 0)], []), [(.inr (some (.inl (ck_one 6))), 245, ([], [], [(226, 0, 0, ck_one 0)]))])
set_option maxRecDepth 100000 in
theorem p5y5_2046_e : ck_ok p1_O none [] [(286, [p5y5_2045]), (283, [p5y5_147])] 285 [] 98 p5y5_2046 = true := by decide +kernel
theorem p5y5_2046_s {X : Int → Int} {LX : Nat} : ck_Ok p1_O X LX 285 p5y5_2046 := ck_ok_s (ck_E1 (ck_S1 p5y5_2045_s ck_S0) (ck_E1 (ck_S1 p5y5_147_s ck_S0) ck_E0)) ck_X0 ck_l0 p5y5_2046_e
set_option maxRecDepth 100000 in
def p5y5_2051 : ck_Sum := ((0, 0, 0), 245, [.inl (ck_one 272), .inl (ck_one 0), .inl (ck_one 299)], ([], [], []), ([], []), [(.inr (some (.inl (ck_one 1))), 245, ([], [], []))])
set_option maxRecDepth 100000 in
theorem p5y5_2051_e : ck_ok p1_O none [] [] 287 [] 88 p5y5_2051 = true := by decide +kernel
theorem p5y5_2051_s {X : Int → Int} {LX : Nat} : ck_Ok p1_O X LX 287 p5y5_2051 := ck_ok_s (ck_E0) ck_X0 ck_l0 p5y5_2051_e
set_option maxRecDepth 100000 in
def p5y5_2052 : ck_Sum := ((1, 0, 0), 245, [.inl (ck_one 272)], ([], [], []), ([], []), [(.inr (some (.inl (ck_one 0))), 245, ([], [], []))])
set_option maxRecDepth 100000 in
theorem p5y5_2052_e : ck_ok p1_O none [] [(287, [p5y5_2051])] 286 [] 84 p5y5_2052 = true := by decide +kernel
theorem p5y5_2052_s {X : Int → Int} {LX : Nat} : ck_Ok p1_O X LX 286 p5y5_2052 := ck_ok_s (ck_E1 (ck_S1 p5y5_2051_s ck_S0) ck_E0) ck_X0 ck_l0 p5y5_2052_e
set_option maxRecDepth 100000 in
def p5y5_2053 : ck_Sum := ((2, 0, 0), 245, [.inr (.inr (.inl 226)), .inl (ck_one 272)], ([], [], [(234, 272, 272, ck_one 4)]), ([(226, 0, 0)], []), [(.inr (some (.inl (ck_one 4))), 245, ([], [], [(226, 0, 0, ck_one 0)]))])
set_option maxRecDepth 100000 in
theorem p5y5_2053_e : ck_ok p1_O none [] [(286, [p5y5_2052]), (283, [p5y5_147])] 285 [] 98 p5y5_2053 = true := by decide +kernel
theorem p5y5_2053_s {X : Int → Int} {LX : Nat} : ck_Ok p1_O X LX 285 p5y5_2053 := ck_ok_s (ck_E1 (ck_S1 p5y5_2052_s ck_S0) (ck_E1 (ck_S1 p5y5_147_s ck_S0) ck_E0)) ck_X0 ck_l0 p5y5_2053_e
set_option maxRecDepth 100000 in
def p5y5_2058 : ck_Sum := ((0, 0, 0), 245, [.inl (ck_one 273), .inl (ck_one 0), .inl (ck_one 299)], ([], [], []), ([], []), [(.inr (some (.inl (ck_one 1))), 245, ([], [], []))])
set_option maxRecDepth 100000 in
theorem p5y5_2058_e : ck_ok p1_O none [] [] 287 [] 88 p5y5_2058 = true := by decide +kernel
theorem p5y5_2058_s {X : Int → Int} {LX : Nat} : ck_Ok p1_O X LX 287 p5y5_2058 := ck_ok_s (ck_E0) ck_X0 ck_l0 p5y5_2058_e
set_option maxRecDepth 100000 in
def p5y5_2059 : ck_Sum := ((1, 0, 0), 245, [.inl (ck_one 273)], ([], [], []), ([], []), [(.inr (some (.inl (ck_one 0))), 245, ([], [], []))])
set_option maxRecDepth 100000 in
theorem p5y5_2059_e : ck_ok p1_O none [] [(287, [p5y5_2058])] 286 [] 84 p5y5_2059 = true := by decide +kernel
theorem p5y5_2059_s {X : Int → Int} {LX : Nat} : ck_Ok p1_O X LX 286 p5y5_2059 := ck_ok_s (ck_E1 (ck_S1 p5y5_2058_s ck_S0) ck_E0) ck_X0 ck_l0 p5y5_2059_e
set_option maxRecDepth 100000 in
def p5y5_2060 : ck_Sum := ((2, 0, 0), 245, [.inr (.inr (.inl 226)), .inl (ck_one 273)], ([], [], [(234, 273, 273, ck_one 9)]), ([(226, 0, 0)], []), [(.inr (some (.inl (ck_one 9))), 245, ([], [], [(226, 0, 0, ck_one 0)]))])
set_option maxRecDepth 100000 in
theorem p5y5_2060_e : ck_ok p1_O none [] [(286, [p5y5_2059]), (283, [p5y5_147])] 285 [] 98 p5y5_2060 = true := by decide +kernel
theorem p5y5_2060_s {X : Int → Int} {LX : Nat} : ck_Ok p1_O X LX 285 p5y5_2060 := ck_ok_s (ck_E1 (ck_S1 p5y5_2059_s ck_S0) (ck_E1 (ck_S1 p5y5_147_s ck_S0) ck_E0)) ck_X0 ck_l0 p5y5_2060_e
set_option maxRecDepth 100000 in
def p5y5_2065 : ck_Sum := ((0, 0, 0), 245, [.inl (ck_one 274), .inl (ck_one 0), .inl (ck_one 299)], ([], [], []), ([], []), [(.inr (some (.inl (ck_one 1))), 245, ([], [], []))])
set_option maxRecDepth 100000 in
theorem p5y5_2065_e : ck_ok p1_O none [] [] 287 [] 88 p5y5_2065 = true := by decide +kernel
theorem p5y5_2065_s {X : Int → Int} {LX : Nat} : ck_Ok p1_O X LX 287 p5y5_2065 := ck_ok_s (ck_E0) ck_X0 ck_l0 p5y5_2065_e
set_option maxRecDepth 100000 in
def p5y5_2066 : ck_Sum := ((1, 0, 0), 245, [.inl (ck_one 274)], ([], [], []), ([], []), [(.inr (some (.inl (ck_one 0))), 245, ([], [], []))])
set_option maxRecDepth 100000 in
theorem p5y5_2066_e : ck_ok p1_O none [] [(287, [p5y5_2065])] 286 [] 84 p5y5_2066 = true := by decide +kernel
theorem p5y5_2066_s {X : Int → Int} {LX : Nat} : ck_Ok p1_O X LX 286 p5y5_2066 := ck_ok_s (ck_E1 (ck_S1 p5y5_2065_s ck_S0) ck_E0) ck_X0 ck_l0 p5y5_2066_e
set_option maxRecDepth 100000 in
def p5y5_2067 : ck_Sum := ((2, 0, 0), 245, [.inr (.inr (.inl 226)), .inl (ck_one 274)], ([], [], [(234, 274, 274, ck_one 2)]), ([(226, 0, 0)], []), [(.inr (some (.inl (ck_one 2))), 245, ([], [], [(226, 0, 0, ck_one 0)]))])
set_option maxRecDepth 100000 in
theorem p5y5_2067_e : ck_ok p1_O none [] [(286, [p5y5_2066]), (283, [p5y5_147])] 285 [] 98 p5y5_2067 = true := by decide +kernel
theorem p5y5_2067_s {X : Int → Int} {LX : Nat} : ck_Ok p1_O X LX 285 p5y5_2067 := ck_ok_s (ck_E1 (ck_S1 p5y5_2066_s ck_S0) (ck_E1 (ck_S1 p5y5_147_s ck_S0) ck_E0)) ck_X0 ck_l0 p5y5_2067_e
set_option maxRecDepth 100000 in
def p5y5_2072 : ck_Sum := ((0, 0, 0), 245, [.inl (ck_one 275), .inl (ck_one 0), .inl (ck_one 299)], ([], [], []), ([], []), [(.inr (some (.inl (ck_one 1))), 245, ([], [], []))])
set_option maxRecDepth 100000 in
theorem p5y5_2072_e : ck_ok p1_O none [] [] 287 [] 88 p5y5_2072 = true := by decide +kernel
theorem p5y5_2072_s {X : Int → Int} {LX : Nat} : ck_Ok p1_O X LX 287 p5y5_2072 := ck_ok_s (ck_E0) ck_X0 ck_l0 p5y5_2072_e
set_option maxRecDepth 100000 in
def p5y5_2073 : ck_Sum := ((1, 0, 0), 245, [.inl (ck_one 275)], ([], [], []), ([], []), [(.inr (some (.inl (ck_one 0))), 245, ([], [], []))])
set_option maxRecDepth 100000 in
theorem p5y5_2073_e : ck_ok p1_O none [] [(287, [p5y5_2072])] 286 [] 84 p5y5_2073 = true := by decide +kernel
theorem p5y5_2073_s {X : Int → Int} {LX : Nat} : ck_Ok p1_O X LX 286 p5y5_2073 := ck_ok_s (ck_E1 (ck_S1 p5y5_2072_s ck_S0) ck_E0) ck_X0 ck_l0 p5y5_2073_e
set_option maxRecDepth 100000 in
def p5y5_2074 : ck_Sum := ((2, 0, 0), 245, [.inr (.inr (.inl 226)), .inl (ck_one 275)], ([], [], [(234, 275, 275, ck_one 7)]), ([(226, 0, 0)], []), [(.inr (some (.inl (ck_one 7))), 245, ([], [], [(226, 0, 0, ck_one 0)]))])
set_option maxRecDepth 100000 in
theorem p5y5_2074_e : ck_ok p1_O none [] [(286, [p5y5_2073]), (283, [p5y5_147])] 285 [] 98 p5y5_2074 = true := by decide +kernel
theorem p5y5_2074_s {X : Int → Int} {LX : Nat} : ck_Ok p1_O X LX 285 p5y5_2074 := ck_ok_s (ck_E1 (ck_S1 p5y5_2073_s ck_S0) (ck_E1 (ck_S1 p5y5_147_s ck_S0) ck_E0)) ck_X0 ck_l0 p5y5_2074_e
set_option maxRecDepth 100000 in
def p5y5_2079 : ck_Sum := ((0, 0, 0), 245, [.inl (ck_one 276), .inl (ck_one 0), .inl (ck_one 299)], ([], [], []), ([], []), [(.inr (some (.inl (ck_one 1))), 245, ([], [], []))])
set_option maxRecDepth 100000 in
theorem p5y5_2079_e : ck_ok p1_O none [] [] 287 [] 88 p5y5_2079 = true := by decide +kernel
theorem p5y5_2079_s {X : Int → Int} {LX : Nat} : ck_Ok p1_O X LX 287 p5y5_2079 := ck_ok_s (ck_E0) ck_X0 ck_l0 p5y5_2079_e
set_option maxRecDepth 100000 in
def p5y5_2080 : ck_Sum := ((1, 0, 0), 245, [.inl (ck_one 276)], ([], [], []), ([], []), [(.inr (some (.inl (ck_one 0))), 245, ([], [], []))])
set_option maxRecDepth 100000 in
theorem p5y5_2080_e : ck_ok p1_O none [] [(287, [p5y5_2079])] 286 [] 84 p5y5_2080 = true := by decide +kernel
theorem p5y5_2080_s {X : Int → Int} {LX : Nat} : ck_Ok p1_O X LX 286 p5y5_2080 := ck_ok_s (ck_E1 (ck_S1 p5y5_2079_s ck_S0) ck_E0) ck_X0 ck_l0 p5y5_2080_e
set_option maxRecDepth 100000 in
def p5y5_2081 : ck_Sum := ((2, 0, 0), 245, [.inr (.inr (.inl 226)), .inl (ck_one 276)], ([], [], [(234, 276, 276, ck_one 8)]), ([(226, 0, 0)], []), [(.inr (some (.inl (ck_one 8))), 245, ([], [], [(226, 0, 0, ck_one 0)]))])
set_option maxRecDepth 100000 in
theorem p5y5_2081_e : ck_ok p1_O none [] [(286, [p5y5_2080]), (283, [p5y5_147])] 285 [] 98 p5y5_2081 = true := by decide +kernel
theorem p5y5_2081_s {X : Int → Int} {LX : Nat} : ck_Ok p1_O X LX 285 p5y5_2081 := ck_ok_s (ck_E1 (ck_S1 p5y5_2080_s ck_S0) (ck_E1 (ck_S1 p5y5_147_s ck_S0) ck_E0)) ck_X0 ck_l0 p5y5_2081_e
set_option maxRecDepth 100000 in
def p5y5_2086 : ck_Sum := ((0, 0, 0), 245, [.inl (ck_one 277), .inl (ck_one 0), .inl (ck_one 299)], ([], [], []), ([], []), [(.inr (some (.inl (ck_one 1))), 245, ([], [], []))])
set_option maxRecDepth 100000 in
theorem p5y5_2086_e : ck_ok p1_O none [] [] 287 [] 88 p5y5_2086 = true := by decide +kernel
theorem p5y5_2086_s {X : Int → Int} {LX : Nat} : ck_Ok p1_O X LX 287 p5y5_2086 := ck_ok_s (ck_E0) ck_X0 ck_l0 p5y5_2086_e
set_option maxRecDepth 100000 in
def p5y5_2087 : ck_Sum := ((1, 0, 0), 245, [.inl (ck_one 277)], ([], [], []), ([], []), [(.inr (some (.inl (ck_one 0))), 245, ([], [], []))])
set_option maxRecDepth 100000 in
theorem p5y5_2087_e : ck_ok p1_O none [] [(287, [p5y5_2086])] 286 [] 84 p5y5_2087 = true := by decide +kernel
theorem p5y5_2087_s {X : Int → Int} {LX : Nat} : ck_Ok p1_O X LX 286 p5y5_2087 := ck_ok_s (ck_E1 (ck_S1 p5y5_2086_s ck_S0) ck_E0) ck_X0 ck_l0 p5y5_2087_e
set_option maxRecDepth 100000 in
def p5y5_2088 : ck_Sum := ((2, 0, 0), 245, [.inr (.inr (.inl 226)), .inl (ck_one 277)], ([], [], [(234, 277, 277, ck_one 2)]), ([(226, 0, 0)], []), [(.inr (some (.inl (ck_one 2))), 245, ([], [], [(226, 0, 0, ck_one 0)]))])
set_option maxRecDepth 100000 in
theorem p5y5_2088_e : ck_ok p1_O none [] [(286, [p5y5_2087]), (283, [p5y5_147])] 285 [] 98 p5y5_2088 = true := by decide +kernel
theorem p5y5_2088_s {X : Int → Int} {LX : Nat} : ck_Ok p1_O X LX 285 p5y5_2088 := ck_ok_s (ck_E1 (ck_S1 p5y5_2087_s ck_S0) (ck_E1 (ck_S1 p5y5_147_s ck_S0) ck_E0)) ck_X0 ck_l0 p5y5_2088_e
set_option maxRecDepth 100000 in
def p5y5_2093 : ck_Sum := ((0, 0, 0), 245, [.inl (ck_one 278), .inl (ck_one 0), .inl (ck_one 299)], ([], [], []), ([], []), [(.inr (some (.inl (ck_one 1))), 245, ([], [], []))])
set_option maxRecDepth 100000 in
theorem p5y5_2093_e : ck_ok p1_O none [] [] 287 [] 88 p5y5_2093 = true := by decide +kernel
theorem p5y5_2093_s {X : Int → Int} {LX : Nat} : ck_Ok p1_O X LX 287 p5y5_2093 := ck_ok_s (ck_E0) ck_X0 ck_l0 p5y5_2093_e
set_option maxRecDepth 100000 in
def p5y5_2094 : ck_Sum := ((1, 0, 0), 245, [.inl (ck_one 278)], ([], [], []), ([], []), [(.inr (some (.inl (ck_one 0))), 245, ([], [], []))])
set_option maxRecDepth 100000 in
theorem p5y5_2094_e : ck_ok p1_O none [] [(287, [p5y5_2093])] 286 [] 84 p5y5_2094 = true := by decide +kernel
theorem p5y5_2094_s {X : Int → Int} {LX : Nat} : ck_Ok p1_O X LX 286 p5y5_2094 := ck_ok_s (ck_E1 (ck_S1 p5y5_2093_s ck_S0) ck_E0) ck_X0 ck_l0 p5y5_2094_e
set_option maxRecDepth 100000 in
def p5y5_2095 : ck_Sum := ((2, 0, 0), 245, [.inr (.inr (.inl 226)), .inl (ck_one 278)], ([], [], [(234, 278, 278, ck_one 5)]), ([(226, 0, 0)], []), [(.inr (some (.inl (ck_one 5))), 245, ([], [], [(226, 0, 0, ck_one 0)]))])
set_option maxRecDepth 100000 in
theorem p5y5_2095_e : ck_ok p1_O none [] [(286, [p5y5_2094]), (283, [p5y5_147])] 285 [] 98 p5y5_2095 = true := by decide +kernel
theorem p5y5_2095_s {X : Int → Int} {LX : Nat} : ck_Ok p1_O X LX 285 p5y5_2095 := ck_ok_s (ck_E1 (ck_S1 p5y5_2094_s ck_S0) (ck_E1 (ck_S1 p5y5_147_s ck_S0) ck_E0)) ck_X0 ck_l0 p5y5_2095_e
set_option maxRecDepth 100000 in
def p5y5_2100 : ck_Sum := ((0, 0, 0), 245, [.inl (ck_one 279), .inl (ck_one 0), .inl (ck_one 299)], ([], [], []), ([], []), [(.inr (some (.inl (ck_one 1))), 245, ([], [], []))])
set_option maxRecDepth 100000 in
theorem p5y5_2100_e : ck_ok p1_O none [] [] 287 [] 88 p5y5_2100 = true := by decide +kernel
theorem p5y5_2100_s {X : Int → Int} {LX : Nat} : ck_Ok p1_O X LX 287 p5y5_2100 := ck_ok_s (ck_E0) ck_X0 ck_l0 p5y5_2100_e
set_option maxRecDepth 100000 in
def p5y5_2101 : ck_Sum := ((1, 0, 0), 245, [.inl (ck_one 279)], ([], [], []), ([], []), [(.inr (some (.inl (ck_one 0))), 245, ([], [], []))])
set_option maxRecDepth 100000 in
theorem p5y5_2101_e : ck_ok p1_O none [] [(287, [p5y5_2100])] 286 [] 84 p5y5_2101 = true := by decide +kernel
theorem p5y5_2101_s {X : Int → Int} {LX : Nat} : ck_Ok p1_O X LX 286 p5y5_2101 := ck_ok_s (ck_E1 (ck_S1 p5y5_2100_s ck_S0) ck_E0) ck_X0 ck_l0 p5y5_2101_e
set_option maxRecDepth 100000 in
def p5y5_2102 : ck_Sum := ((2, 0, 0), 245, [.inr (.inr (.inl 226)), .inl (ck_one 279)], ([], [], [(234, 279, 279, ck_one 0)]), ([(226, 0, 0)], []), [(.inr (some (.inl (ck_one 0))), 245, ([], [], [(226, 0, 0, ck_one 0)]))])
set_option maxRecDepth 100000 in
theorem p5y5_2102_e : ck_ok p1_O none [] [(286, [p5y5_2101]), (283, [p5y5_147])] 285 [] 98 p5y5_2102 = true := by decide +kernel
theorem p5y5_2102_s {X : Int → Int} {LX : Nat} : ck_Ok p1_O X LX 285 p5y5_2102 := ck_ok_s (ck_E1 (ck_S1 p5y5_2101_s ck_S0) (ck_E1 (ck_S1 p5y5_147_s ck_S0) ck_E0)) ck_X0 ck_l0 p5y5_2102_e
set_option maxRecDepth 100000 in
def p5y5_2107 : ck_Sum := ((0, 0, 0), 245, [.inl (ck_one 280), .inl (ck_one 0), .inl (ck_one 299)], ([], [], []), ([], []), [(.inr (some (.inl (ck_one 1))), 245, ([], [], []))])
set_option maxRecDepth 100000 in
theorem p5y5_2107_e : ck_ok p1_O none [] [] 287 [] 88 p5y5_2107 = true := by decide +kernel
theorem p5y5_2107_s {X : Int → Int} {LX : Nat} : ck_Ok p1_O X LX 287 p5y5_2107 := ck_ok_s (ck_E0) ck_X0 ck_l0 p5y5_2107_e
set_option maxRecDepth 100000 in
def p5y5_2108 : ck_Sum := ((1, 0, 0), 245, [.inl (ck_one 280)], ([], [], []), ([], []), [(.inr (some (.inl (ck_one 0))), 245, ([], [], []))])
set_option maxRecDepth 100000 in
theorem p5y5_2108_e : ck_ok p1_O none [] [(287, [p5y5_2107])] 286 [] 84 p5y5_2108 = true := by decide +kernel
theorem p5y5_2108_s {X : Int → Int} {LX : Nat} : ck_Ok p1_O X LX 286 p5y5_2108 := ck_ok_s (ck_E1 (ck_S1 p5y5_2107_s ck_S0) ck_E0) ck_X0 ck_l0 p5y5_2108_e
set_option maxRecDepth 100000 in
def p5y5_2109 : ck_Sum := ((2, 0, 0), 245, [.inr (.inr (.inl 226)), .inl (ck_one 280)], ([], [], [(234, 280, 280, ck_one 9)]), ([(226, 0, 0)], []), [(.inr (some (.inl (ck_one 9))), 245, ([], [], [(226, 0, 0, ck_one 0)]))])
set_option maxRecDepth 100000 in
theorem p5y5_2109_e : ck_ok p1_O none [] [(286, [p5y5_2108]), (283, [p5y5_147])] 285 [] 98 p5y5_2109 = true := by decide +kernel
theorem p5y5_2109_s {X : Int → Int} {LX : Nat} : ck_Ok p1_O X LX 285 p5y5_2109 := ck_ok_s (ck_E1 (ck_S1 p5y5_2108_s ck_S0) (ck_E1 (ck_S1 p5y5_147_s ck_S0) ck_E0)) ck_X0 ck_l0 p5y5_2109_e
set_option maxRecDepth 100000 in
def p5y5_2114 : ck_Sum := ((0, 0, 0), 245, [.inl (ck_one 281), .inl (ck_one 0), .inl (ck_one 299)], ([], [], []), ([], []), [(.inr (some (.inl (ck_one 1))), 245, ([], [], []))])
set_option maxRecDepth 100000 in
theorem p5y5_2114_e : ck_ok p1_O none [] [] 287 [] 88 p5y5_2114 = true := by decide +kernel
theorem p5y5_2114_s {X : Int → Int} {LX : Nat} : ck_Ok p1_O X LX 287 p5y5_2114 := ck_ok_s (ck_E0) ck_X0 ck_l0 p5y5_2114_e
set_option maxRecDepth 100000 in
def p5y5_2115 : ck_Sum := ((1, 0, 0), 245, [.inl (ck_one 281)], ([], [], []), ([], []), [(.inr (some (.inl (ck_one 0))), 245, ([], [], []))])
set_option maxRecDepth 100000 in
theorem p5y5_2115_e : ck_ok p1_O none [] [(287, [p5y5_2114])] 286 [] 84 p5y5_2115 = true := by decide +kernel
theorem p5y5_2115_s {X : Int → Int} {LX : Nat} : ck_Ok p1_O X LX 286 p5y5_2115 := ck_ok_s (ck_E1 (ck_S1 p5y5_2114_s ck_S0) ck_E0) ck_X0 ck_l0 p5y5_2115_e
set_option maxRecDepth 100000 in
def p5y5_2116 : ck_Sum := ((2, 0, 0), 245, [.inr (.inr (.inl 226)), .inl (ck_one 281)], ([], [], [(234, 281, 281, ck_one 5)]), ([(226, 0, 0)], []), [(.inr (some (.inl (ck_one 5))), 245, ([], [], [(226, 0, 0, ck_one 0)]))])
set_option maxRecDepth 100000 in
theorem p5y5_2116_e : ck_ok p1_O none [] [(286, [p5y5_2115]), (283, [p5y5_147])] 285 [] 98 p5y5_2116 = true := by decide +kernel
theorem p5y5_2116_s {X : Int → Int} {LX : Nat} : ck_Ok p1_O X LX 285 p5y5_2116 := ck_ok_s (ck_E1 (ck_S1 p5y5_2115_s ck_S0) (ck_E1 (ck_S1 p5y5_147_s ck_S0) ck_E0)) ck_X0 ck_l0 p5y5_2116_e
set_option maxRecDepth 100000 in
def p5y5_2121 : ck_Sum := ((0, 0, 0), 245, [.inl (ck_one 282), .inl (ck_one 0), .inl (ck_one 299)], ([], [], []), ([], []), [(.inr (some (.inl (ck_one 1))), 245, ([], [], []))])
set_option maxRecDepth 100000 in
theorem p5y5_2121_e : ck_ok p1_O none [] [] 287 [] 88 p5y5_2121 = true := by decide +kernel
theorem p5y5_2121_s {X : Int → Int} {LX : Nat} : ck_Ok p1_O X LX 287 p5y5_2121 := ck_ok_s (ck_E0) ck_X0 ck_l0 p5y5_2121_e
set_option maxRecDepth 100000 in
def p5y5_2122 : ck_Sum := ((1, 0, 0), 245, [.inl (ck_one 282)], ([], [], []), ([], []), [(.inr (some (.inl (ck_one 0))), 245, ([], [], []))])
set_option maxRecDepth 100000 in
theorem p5y5_2122_e : ck_ok p1_O none [] [(287, [p5y5_2121])] 286 [] 84 p5y5_2122 = true := by decide +kernel
theorem p5y5_2122_s {X : Int → Int} {LX : Nat} : ck_Ok p1_O X LX 286 p5y5_2122 := ck_ok_s (ck_E1 (ck_S1 p5y5_2121_s ck_S0) ck_E0) ck_X0 ck_l0 p5y5_2122_e
set_option maxRecDepth 100000 in
def p5y5_2123 : ck_Sum := ((2, 0, 0), 245, [.inr (.inr (.inl 226)), .inl (ck_one 282)], ([], [], [(234, 282, 282, ck_one 9)]), ([(226, 0, 0)], []), [(.inr (some (.inl (ck_one 9))), 245, ([], [], [(226, 0, 0, ck_one 0)]))])
set_option maxRecDepth 100000 in
theorem p5y5_2123_e : ck_ok p1_O none [] [(286, [p5y5_2122]), (283, [p5y5_147])] 285 [] 98 p5y5_2123 = true := by decide +kernel
theorem p5y5_2123_s {X : Int → Int} {LX : Nat} : ck_Ok p1_O X LX 285 p5y5_2123 := ck_ok_s (ck_E1 (ck_S1 p5y5_2122_s ck_S0) (ck_E1 (ck_S1 p5y5_147_s ck_S0) ck_E0)) ck_X0 ck_l0 p5y5_2123_e
set_option maxRecDepth 100000 in
def p5y5_2128 : ck_Sum := ((0, 0, 0), 245, [.inl (ck_one 283), .inl (ck_one 0), .inl (ck_one 299)], ([], [], []), ([], []), [(.inr (some (.inl (ck_one 1))), 245, ([], [], []))])
set_option maxRecDepth 100000 in
theorem p5y5_2128_e : ck_ok p1_O none [] [] 287 [] 88 p5y5_2128 = true := by decide +kernel
theorem p5y5_2128_s {X : Int → Int} {LX : Nat} : ck_Ok p1_O X LX 287 p5y5_2128 := ck_ok_s (ck_E0) ck_X0 ck_l0 p5y5_2128_e
set_option maxRecDepth 100000 in
def p5y5_2129 : ck_Sum := ((1, 0, 0), 245, [.inl (ck_one 283)], ([], [], []), ([], []), [(.inr (some (.inl (ck_one 0))), 245, ([], [], []))])
set_option maxRecDepth 100000 in
theorem p5y5_2129_e : ck_ok p1_O none [] [(287, [p5y5_2128])] 286 [] 84 p5y5_2129 = true := by decide +kernel
theorem p5y5_2129_s {X : Int → Int} {LX : Nat} : ck_Ok p1_O X LX 286 p5y5_2129 := ck_ok_s (ck_E1 (ck_S1 p5y5_2128_s ck_S0) ck_E0) ck_X0 ck_l0 p5y5_2129_e
set_option maxRecDepth 100000 in
def p5y5_2130 : ck_Sum := ((2, 0, 0), 245, [.inr (.inr (.inl 226)), .inl (ck_one 283)], ([], [], [(234, 283, 283, ck_one 1)]), ([(226, 0, 0)], []), [(.inr (some (.inl (ck_one 1))), 245, ([], [], [(226, 0, 0, ck_one 0)]))])
set_option maxRecDepth 100000 in
theorem p5y5_2130_e : ck_ok p1_O none [] [(286, [p5y5_2129]), (283, [p5y5_147])] 285 [] 98 p5y5_2130 = true := by decide +kernel
theorem p5y5_2130_s {X : Int → Int} {LX : Nat} : ck_Ok p1_O X LX 285 p5y5_2130 := ck_ok_s (ck_E1 (ck_S1 p5y5_2129_s ck_S0) (ck_E1 (ck_S1 p5y5_147_s ck_S0) ck_E0)) ck_X0 ck_l0 p5y5_2130_e
set_option maxRecDepth 100000 in
def p5y5_2135 : ck_Sum := ((0, 0, 0), 245, [.inl (ck_one 284), .inl (ck_one 0), .inl (ck_one 299)], ([], [], []), ([], []), [(.inr (some (.inl (ck_one 1))), 245, ([], [], []))])
set_option maxRecDepth 100000 in
theorem p5y5_2135_e : ck_ok p1_O none [] [] 287 [] 88 p5y5_2135 = true := by decide +kernel
theorem p5y5_2135_s {X : Int → Int} {LX : Nat} : ck_Ok p1_O X LX 287 p5y5_2135 := ck_ok_s (ck_E0) ck_X0 ck_l0 p5y5_2135_e
set_option maxRecDepth 100000 in
def p5y5_2136 : ck_Sum := ((1, 0, 0), 245, [.inl (ck_one 284)], ([], [], []), ([], []), [(.inr (some (.inl (ck_one 0))), 245, ([], [], []))])
set_option maxRecDepth 100000 in
theorem p5y5_2136_e : ck_ok p1_O none [] [(287, [p5y5_2135])] 286 [] 84 p5y5_2136 = true := by decide +kernel
theorem p5y5_2136_s {X : Int → Int} {LX : Nat} : ck_Ok p1_O X LX 286 p5y5_2136 := ck_ok_s (ck_E1 (ck_S1 p5y5_2135_s ck_S0) ck_E0) ck_X0 ck_l0 p5y5_2136_e
set_option maxRecDepth 100000 in
def p5y5_2137 : ck_Sum := ((2, 0, 0), 245, [.inr (.inr (.inl 226)), .inl (ck_one 284)], ([], [], [(234, 284, 284, ck_one 8)]), ([(226, 0, 0)], []), [(.inr (some (.inl (ck_one 8))), 245, ([], [], [(226, 0, 0, ck_one 0)]))])
set_option maxRecDepth 100000 in
theorem p5y5_2137_e : ck_ok p1_O none [] [(286, [p5y5_2136]), (283, [p5y5_147])] 285 [] 98 p5y5_2137 = true := by decide +kernel
theorem p5y5_2137_s {X : Int → Int} {LX : Nat} : ck_Ok p1_O X LX 285 p5y5_2137 := ck_ok_s (ck_E1 (ck_S1 p5y5_2136_s ck_S0) (ck_E1 (ck_S1 p5y5_147_s ck_S0) ck_E0)) ck_X0 ck_l0 p5y5_2137_e
set_option maxRecDepth 100000 in
def p5y5_2142 : ck_Sum := ((0, 0, 0), 245, [.inl (ck_one 285), .inl (ck_one 0), .inl (ck_one 299)], ([], [], []), ([], []), [(.inr (some (.inl (ck_one 1))), 245, ([], [], []))])
set_option maxRecDepth 100000 in
theorem p5y5_2142_e : ck_ok p1_O none [] [] 287 [] 88 p5y5_2142 = true := by decide +kernel
theorem p5y5_2142_s {X : Int → Int} {LX : Nat} : ck_Ok p1_O X LX 287 p5y5_2142 := ck_ok_s (ck_E0) ck_X0 ck_l0 p5y5_2142_e
set_option maxRecDepth 100000 in
def p5y5_2143 : ck_Sum := ((1, 0, 0), 245, [.inl (ck_one 285)], ([], [], []), ([], []), [(.inr (some (.inl (ck_one 0))), 245, ([], [], []))])
set_option maxRecDepth 100000 in
theorem p5y5_2143_e : ck_ok p1_O none [] [(287, [p5y5_2142])] 286 [] 84 p5y5_2143 = true := by decide +kernel
theorem p5y5_2143_s {X : Int → Int} {LX : Nat} : ck_Ok p1_O X LX 286 p5y5_2143 := ck_ok_s (ck_E1 (ck_S1 p5y5_2142_s ck_S0) ck_E0) ck_X0 ck_l0 p5y5_2143_e
set_option maxRecDepth 100000 in
def p5y5_2144 : ck_Sum := ((2, 0, 0), 245, [.inr (.inr (.inl 226)), .inl (ck_one 285)], ([], [], [(234, 285, 285, ck_one 2)]), ([(226, 0, 0)], []), [(.inr (some (.inl (ck_one 2))), 245, ([], [], [(226, 0, 0, ck_one 0)]))])
set_option maxRecDepth 100000 in
theorem p5y5_2144_e : ck_ok p1_O none [] [(286, [p5y5_2143]), (283, [p5y5_147])] 285 [] 98 p5y5_2144 = true := by decide +kernel
theorem p5y5_2144_s {X : Int → Int} {LX : Nat} : ck_Ok p1_O X LX 285 p5y5_2144 := ck_ok_s (ck_E1 (ck_S1 p5y5_2143_s ck_S0) (ck_E1 (ck_S1 p5y5_147_s ck_S0) ck_E0)) ck_X0 ck_l0 p5y5_2144_e
set_option maxRecDepth 100000 in
def p5y5_2149 : ck_Sum := ((0, 0, 0), 245, [.inl (ck_one 286), .inl (ck_one 0), .inl (ck_one 299)], ([], [], []), ([], []), [(.inr (some (.inl (ck_one 1))), 245, ([], [], []))])
set_option maxRecDepth 100000 in
theorem p5y5_2149_e : ck_ok p1_O none [] [] 287 [] 88 p5y5_2149 = true := by decide +kernel
theorem p5y5_2149_s {X : Int → Int} {LX : Nat} : ck_Ok p1_O X LX 287 p5y5_2149 := ck_ok_s (ck_E0) ck_X0 ck_l0 p5y5_2149_e
set_option maxRecDepth 100000 in
def p5y5_2150 : ck_Sum := ((1, 0, 0), 245, [.inl (ck_one 286)], ([], [], []), ([], []), [(.inr (some (.inl (ck_one 0))), 245, ([], [], []))])
set_option maxRecDepth 100000 in
theorem p5y5_2150_e : ck_ok p1_O none [] [(287, [p5y5_2149])] 286 [] 84 p5y5_2150 = true := by decide +kernel
theorem p5y5_2150_s {X : Int → Int} {LX : Nat} : ck_Ok p1_O X LX 286 p5y5_2150 := ck_ok_s (ck_E1 (ck_S1 p5y5_2149_s ck_S0) ck_E0) ck_X0 ck_l0 p5y5_2150_e
set_option maxRecDepth 100000 in
def p5y5_2151 : ck_Sum := ((2, 0, 0), 245, [.inr (.inr (.inl 226)), .inl (ck_one 286)], ([], [], [(234, 286, 286, ck_one 3)]), ([(226, 0, 0)], []), [(.inr (some (.inl (ck_one 3))), 245, ([], [], [(226, 0, 0, ck_one 0)]))])
set_option maxRecDepth 100000 in
theorem p5y5_2151_e : ck_ok p1_O none [] [(286, [p5y5_2150]), (283, [p5y5_147])] 285 [] 98 p5y5_2151 = true := by decide +kernel
theorem p5y5_2151_s {X : Int → Int} {LX : Nat} : ck_Ok p1_O X LX 285 p5y5_2151 := ck_ok_s (ck_E1 (ck_S1 p5y5_2150_s ck_S0) (ck_E1 (ck_S1 p5y5_147_s ck_S0) ck_E0)) ck_X0 ck_l0 p5y5_2151_e
set_option maxRecDepth 100000 in
def p5y5_2156 : ck_Sum := ((0, 0, 0), 245, [.inl (ck_one 287), .inl (ck_one 0), .inl (ck_one 299)], ([], [], []), ([], []), [(.inr (some (.inl (ck_one 1))), 245, ([], [], []))])
set_option maxRecDepth 100000 in
theorem p5y5_2156_e : ck_ok p1_O none [] [] 287 [] 88 p5y5_2156 = true := by decide +kernel
theorem p5y5_2156_s {X : Int → Int} {LX : Nat} : ck_Ok p1_O X LX 287 p5y5_2156 := ck_ok_s (ck_E0) ck_X0 ck_l0 p5y5_2156_e
set_option maxRecDepth 100000 in
def p5y5_2157 : ck_Sum := ((1, 0, 0), 245, [.inl (ck_one 287)], ([], [], []), ([], []), [(.inr (some (.inl (ck_one 0))), 245, ([], [], []))])
set_option maxRecDepth 100000 in
theorem p5y5_2157_e : ck_ok p1_O none [] [(287, [p5y5_2156])] 286 [] 84 p5y5_2157 = true := by decide +kernel
theorem p5y5_2157_s {X : Int → Int} {LX : Nat} : ck_Ok p1_O X LX 286 p5y5_2157 := ck_ok_s (ck_E1 (ck_S1 p5y5_2156_s ck_S0) ck_E0) ck_X0 ck_l0 p5y5_2157_e
set_option maxRecDepth 100000 in
def p5y5_2158 : ck_Sum := ((2, 0, 0), 245, [.inr (.inr (.inl 226)), .inl (ck_one 287)], ([], [], [(234, 287, 287, ck_one 5)]), ([(226, 0, 0)], []), [(.inr (some (.inl (ck_one 5))), 245, ([], [], [(226, 0, 0, ck_one 0)]))])
set_option maxRecDepth 100000 in
theorem p5y5_2158_e : ck_ok p1_O none [] [(286, [p5y5_2157]), (283, [p5y5_147])] 285 [] 98 p5y5_2158 = true := by decide +kernel
theorem p5y5_2158_s {X : Int → Int} {LX : Nat} : ck_Ok p1_O X LX 285 p5y5_2158 := ck_ok_s (ck_E1 (ck_S1 p5y5_2157_s ck_S0) (ck_E1 (ck_S1 p5y5_147_s ck_S0) ck_E0)) ck_X0 ck_l0 p5y5_2158_e
set_option maxRecDepth 100000 in
def p5y5_2163 : ck_Sum := ((0, 0, 0), 245, [.inl (ck_one 288), .inl (ck_one 0), .inl (ck_one 299)], ([], [], []), ([], []), [(.inr (some (.inl (ck_one 1))), 245, ([], [], []))])
set_option maxRecDepth 100000 in
theorem p5y5_2163_e : ck_ok p1_O none [] [] 287 [] 88 p5y5_2163 = true := by decide +kernel
theorem p5y5_2163_s {X : Int → Int} {LX : Nat} : ck_Ok p1_O X LX 287 p5y5_2163 := ck_ok_s (ck_E0) ck_X0 ck_l0 p5y5_2163_e
set_option maxRecDepth 100000 in
def p5y5_2164 : ck_Sum := ((1, 0, 0), 245, [.inl (ck_one 288)], ([], [], []), ([], []), [(.inr (some (.inl (ck_one 0))), 245, ([], [], []))])
set_option maxRecDepth 100000 in
theorem p5y5_2164_e : ck_ok p1_O none [] [(287, [p5y5_2163])] 286 [] 84 p5y5_2164 = true := by decide +kernel
theorem p5y5_2164_s {X : Int → Int} {LX : Nat} : ck_Ok p1_O X LX 286 p5y5_2164 := ck_ok_s (ck_E1 (ck_S1 p5y5_2163_s ck_S0) ck_E0) ck_X0 ck_l0 p5y5_2164_e
set_option maxRecDepth 100000 in
def p5y5_2165 : ck_Sum := ((2, 0, 0), 245, [.inr (.inr (.inl 226)), .inl (ck_one 288)], ([], [], [(234, 288, 288, ck_one 9)]), ([(226, 0, 0)], []), [(.inr (some (.inl (ck_one 9))), 245, ([], [], [(226, 0, 0, ck_one 0)]))])
set_option maxRecDepth 100000 in
theorem p5y5_2165_e : ck_ok p1_O none [] [(286, [p5y5_2164]), (283, [p5y5_147])] 285 [] 98 p5y5_2165 = true := by decide +kernel
theorem p5y5_2165_s {X : Int → Int} {LX : Nat} : ck_Ok p1_O X LX 285 p5y5_2165 := ck_ok_s (ck_E1 (ck_S1 p5y5_2164_s ck_S0) (ck_E1 (ck_S1 p5y5_147_s ck_S0) ck_E0)) ck_X0 ck_l0 p5y5_2165_e
set_option maxRecDepth 100000 in
def p5y5_2170 : ck_Sum := ((0, 0, 0), 245, [.inl (ck_one 289), .inl (ck_one 0), .inl (ck_one 299)], ([], [], []), ([], []), [(.inr (some (.inl (ck_one 1))), 245, ([], [], []))])
set_option maxRecDepth 100000 in
theorem p5y5_2170_e : ck_ok p1_O none [] [] 287 [] 88 p5y5_2170 = true := by decide +kernel
theorem p5y5_2170_s {X : Int → Int} {LX : Nat} : ck_Ok p1_O X LX 287 p5y5_2170 := ck_ok_s (ck_E0) ck_X0 ck_l0 p5y5_2170_e
set_option maxRecDepth 100000 in
def p5y5_2171 : ck_Sum := ((1, 0, 0), 245, [.inl (ck_one 289)], ([], [], []), ([], []), [(.inr (some (.inl (ck_one 0))), 245, ([], [], []))])
set_option maxRecDepth 100000 in
theorem p5y5_2171_e : ck_ok p1_O none [] [(287, [p5y5_2170])] 286 [] 84 p5y5_2171 = true := by decide +kernel
theorem p5y5_2171_s {X : Int → Int} {LX : Nat} : ck_Ok p1_O X LX 286 p5y5_2171 := ck_ok_s (ck_E1 (ck_S1 p5y5_2170_s ck_S0) ck_E0) ck_X0 ck_l0 p5y5_2171_e
set_option maxRecDepth 100000 in
def p5y5_2172 : ck_Sum := ((2, 0, 0), 245, [.inr (.inr (.inl 226)), .inl (ck_one 289)], ([], [], [(234, 289, 289, ck_one 2)]), ([(226, 0, 0)], []), [(.inr (some (.inl (ck_one 2))), 245, ([], [], [(226, 0, 0, ck_one 0)]))])
set_option maxRecDepth 100000 in
theorem p5y5_2172_e : ck_ok p1_O none [] [(286, [p5y5_2171]), (283, [p5y5_147])] 285 [] 98 p5y5_2172 = true := by decide +kernel
theorem p5y5_2172_s {X : Int → Int} {LX : Nat} : ck_Ok p1_O X LX 285 p5y5_2172 := ck_ok_s (ck_E1 (ck_S1 p5y5_2171_s ck_S0) (ck_E1 (ck_S1 p5y5_147_s ck_S0) ck_E0)) ck_X0 ck_l0 p5y5_2172_e
set_option maxRecDepth 100000 in
def p5y5_2177 : ck_Sum := ((0, 0, 0), 245, [.inl (ck_one 290), .inl (ck_one 0), .inl (ck_one 299)], ([], [], []), ([], []), [(.inr (some (.inl (ck_one 1))), 245, ([], [], []))])
set_option maxRecDepth 100000 in
theorem p5y5_2177_e : ck_ok p1_O none [] [] 287 [] 88 p5y5_2177 = true := by decide +kernel
theorem p5y5_2177_s {X : Int → Int} {LX : Nat} : ck_Ok p1_O X LX 287 p5y5_2177 := ck_ok_s (ck_E0) ck_X0 ck_l0 p5y5_2177_e
set_option maxRecDepth 100000 in
def p5y5_2178 : ck_Sum := ((1, 0, 0), 245, [.inl (ck_one 290)], ([], [], []), ([], []), [(.inr (some (.inl (ck_one 0))), 245, ([], [], []))])
set_option maxRecDepth 100000 in
theorem p5y5_2178_e : ck_ok p1_O none [] [(287, [p5y5_2177])] 286 [] 84 p5y5_2178 = true := by decide +kernel
theorem p5y5_2178_s {X : Int → Int} {LX : Nat} : ck_Ok p1_O X LX 286 p5y5_2178 := ck_ok_s (ck_E1 (ck_S1 p5y5_2177_s ck_S0) ck_E0) ck_X0 ck_l0 p5y5_2178_e
set_option maxRecDepth 100000 in
def p5y5_2179 : ck_Sum := ((2, 0, 0), 245, [.inr (.inr (.inl 226)), .inl (ck_one 290)], ([], [], [(234, 290, 290, ck_one 4)]), ([(226, 0, 0)], []), [(.inr (some (.inl (ck_one 4))), 245, ([], [], [(226, 0, 0, ck_one 0)]))])
set_option maxRecDepth 100000 in
theorem p5y5_2179_e : ck_ok p1_O none [] [(286, [p5y5_2178]), (283, [p5y5_147])] 285 [] 98 p5y5_2179 = true := by decide +kernel
theorem p5y5_2179_s {X : Int → Int} {LX : Nat} : ck_Ok p1_O X LX 285 p5y5_2179 := ck_ok_s (ck_E1 (ck_S1 p5y5_2178_s ck_S0) (ck_E1 (ck_S1 p5y5_147_s ck_S0) ck_E0)) ck_X0 ck_l0 p5y5_2179_e
set_option maxRecDepth 100000 in
def p5y5_2184 : ck_Sum := ((0, 0, 0), 245, [.inl (ck_one 291), .inl (ck_one 0), .inl (ck_one 299)], ([], [], []), ([], []), [(.inr (some (.inl (ck_one 1))), 245, ([], [], []))])
set_option maxRecDepth 100000 in
theorem p5y5_2184_e : ck_ok p1_O none [] [] 287 [] 88 p5y5_2184 = true := by decide +kernel
theorem p5y5_2184_s {X : Int → Int} {LX : Nat} : ck_Ok p1_O X LX 287 p5y5_2184 := ck_ok_s (ck_E0) ck_X0 ck_l0 p5y5_2184_e
set_option maxRecDepth 100000 in
def p5y5_2185 : ck_Sum := ((1, 0, 0), 245, [.inl (ck_one 291)], ([], [], []), ([], []), [(.inr (some (.inl (ck_one 0))), 245, ([], [], []))])
set_option maxRecDepth 100000 in
theorem p5y5_2185_e : ck_ok p1_O none [] [(287, [p5y5_2184])] 286 [] 84 p5y5_2185 = true := by decide +kernel
theorem p5y5_2185_s {X : Int → Int} {LX : Nat} : ck_Ok p1_O X LX 286 p5y5_2185 := ck_ok_s (ck_E1 (ck_S1 p5y5_2184_s ck_S0) ck_E0) ck_X0 ck_l0 p5y5_2185_e
set_option maxRecDepth 100000 in
def p5y5_2186 : ck_Sum := ((2, 0, 0), 245, [.inr (.inr (.inl 226)), .inl (ck_one 291)], ([], [], [(234, 291, 291, ck_one 2)]), ([(226, 0, 0)], []), [(.inr (some (.inl (ck_one 2))), 245, ([], [], [(226, 0, 0, ck_one 0)]))])
set_option maxRecDepth 100000 in
theorem p5y5_2186_e : ck_ok p1_O none [] [(286, [p5y5_2185]), (283, [p5y5_147])] 285 [] 98 p5y5_2186 = true := by decide +kernel
theorem p5y5_2186_s {X : Int → Int} {LX : Nat} : ck_Ok p1_O X LX 285 p5y5_2186 := ck_ok_s (ck_E1 (ck_S1 p5y5_2185_s ck_S0) (ck_E1 (ck_S1 p5y5_147_s ck_S0) ck_E0)) ck_X0 ck_l0 p5y5_2186_e
set_option maxRecDepth 100000 in
def p5y5_2191 : ck_Sum := ((0, 0, 0), 245, [.inl (ck_one 292), .inl (ck_one 0), .inl (ck_one 299)], ([], [], []), ([], []), [(.inr (some (.inl (ck_one 1))), 245, ([], [], []))])
set_option maxRecDepth 100000 in
theorem p5y5_2191_e : ck_ok p1_O none [] [] 287 [] 88 p5y5_2191 = true := by decide +kernel
theorem p5y5_2191_s {X : Int → Int} {LX : Nat} : ck_Ok p1_O X LX 287 p5y5_2191 := ck_ok_s (ck_E0) ck_X0 ck_l0 p5y5_2191_e
set_option maxRecDepth 100000 in
def p5y5_2192 : ck_Sum := ((1, 0, 0), 245, [.inl (ck_one 292)], ([], [], []), ([], []), [(.inr (some (.inl (ck_one 0))), 245, ([], [], []))])
set_option maxRecDepth 100000 in
theorem p5y5_2192_e : ck_ok p1_O none [] [(287, [p5y5_2191])] 286 [] 84 p5y5_2192 = true := by decide +kernel
theorem p5y5_2192_s {X : Int → Int} {LX : Nat} : ck_Ok p1_O X LX 286 p5y5_2192 := ck_ok_s (ck_E1 (ck_S1 p5y5_2191_s ck_S0) ck_E0) ck_X0 ck_l0 p5y5_2192_e
set_option maxRecDepth 100000 in
def p5y5_2193 : ck_Sum := ((2, 0, 0), 245, [.inr (.inr (.inl 226)), .inl (ck_one 292)], ([], [], [(234, 292, 292, ck_one 9)]), ([(226, 0, 0)], []), [(.inr (some (.inl (ck_one 9))), 245, ([], [], [(226, 0, 0, ck_one 0)]))])
set_option maxRecDepth 100000 in
theorem p5y5_2193_e : ck_ok p1_O none [] [(286, [p5y5_2192]), (283, [p5y5_147])] 285 [] 98 p5y5_2193 = true := by decide +kernel
theorem p5y5_2193_s {X : Int → Int} {LX : Nat} : ck_Ok p1_O X LX 285 p5y5_2193 := ck_ok_s (ck_E1 (ck_S1 p5y5_2192_s ck_S0) (ck_E1 (ck_S1 p5y5_147_s ck_S0) ck_E0)) ck_X0 ck_l0 p5y5_2193_e
set_option maxRecDepth 100000 in
def p5y5_2198 : ck_Sum := ((0, 0, 0), 245, [.inl (ck_one 293), .inl (ck_one 0), .inl (ck_one 299)], ([], [], []), ([], []), [(.inr (some (.inl (ck_one 1))), 245, ([], [], []))])
set_option maxRecDepth 100000 in
theorem p5y5_2198_e : ck_ok p1_O none [] [] 287 [] 88 p5y5_2198 = true := by decide +kernel
theorem p5y5_2198_s {X : Int → Int} {LX : Nat} : ck_Ok p1_O X LX 287 p5y5_2198 := ck_ok_s (ck_E0) ck_X0 ck_l0 p5y5_2198_e
set_option maxRecDepth 100000 in
def p5y5_2199 : ck_Sum := ((1, 0, 0), 245, [.inl (ck_one 293)], ([], [], []), ([], []), [(.inr (some (.inl (ck_one 0))), 245, ([], [], []))])
set_option maxRecDepth 100000 in
theorem p5y5_2199_e : ck_ok p1_O none [] [(287, [p5y5_2198])] 286 [] 84 p5y5_2199 = true := by decide +kernel
theorem p5y5_2199_s {X : Int → Int} {LX : Nat} : ck_Ok p1_O X LX 286 p5y5_2199 := ck_ok_s (ck_E1 (ck_S1 p5y5_2198_s ck_S0) ck_E0) ck_X0 ck_l0 p5y5_2199_e
set_option maxRecDepth 100000 in
def p5y5_2200 : ck_Sum := ((2, 0, 0), 245, [.inr (.inr (.inl 226)), .inl (ck_one 293)], ([], [], [(234, 293, 293, ck_one 3)]), ([(226, 0, 0)], []), [(.inr (some (.inl (ck_one 3))), 245, ([], [], [(226, 0, 0, ck_one 0)]))])
set_option maxRecDepth 100000 in
theorem p5y5_2200_e : ck_ok p1_O none [] [(286, [p5y5_2199]), (283, [p5y5_147])] 285 [] 98 p5y5_2200 = true := by decide +kernel
theorem p5y5_2200_s {X : Int → Int} {LX : Nat} : ck_Ok p1_O X LX 285 p5y5_2200 := ck_ok_s (ck_E1 (ck_S1 p5y5_2199_s ck_S0) (ck_E1 (ck_S1 p5y5_147_s ck_S0) ck_E0)) ck_X0 ck_l0 p5y5_2200_e
set_option maxRecDepth 100000 in
def p5y5_2205 : ck_Sum := ((0, 0, 0), 245, [.inl (ck_one 294), .inl (ck_one 0), .inl (ck_one 299)], ([], [], []), ([], []), [(.inr (some (.inl (ck_one 1))), 245, ([], [], []))])
set_option maxRecDepth 100000 in
theorem p5y5_2205_e : ck_ok p1_O none [] [] 287 [] 88 p5y5_2205 = true := by decide +kernel
theorem p5y5_2205_s {X : Int → Int} {LX : Nat} : ck_Ok p1_O X LX 287 p5y5_2205 := ck_ok_s (ck_E0) ck_X0 ck_l0 p5y5_2205_e
set_option maxRecDepth 100000 in
def p5y5_2206 : ck_Sum := ((1, 0, 0), 245, [.inl (ck_one 294)], ([], [], []), ([], []), [(.inr (some (.inl (ck_one 0))), 245, ([], [], []))])
set_option maxRecDepth 100000 in
theorem p5y5_2206_e : ck_ok p1_O none [] [(287, [p5y5_2205])] 286 [] 84 p5y5_2206 = true := by decide +kernel
theorem p5y5_2206_s {X : Int → Int} {LX : Nat} : ck_Ok p1_O X LX 286 p5y5_2206 := ck_ok_s (ck_E1 (ck_S1 p5y5_2205_s ck_S0) ck_E0) ck_X0 ck_l0 p5y5_2206_e
set_option maxRecDepth 100000 in
def p5y5_2207 : ck_Sum := ((2, 0, 0), 245, [.inr (.inr (.inl 226)), .inl (ck_one 294)], ([], [], [(234, 294, 294, ck_one 7)]), ([(226, 0, 0)], []), [(.inr (some (.inl (ck_one 7))), 245, ([], [], [(226, 0, 0, ck_one 0)]))])
set_option maxRecDepth 100000 in
theorem p5y5_2207_e : ck_ok p1_O none [] [(286, [p5y5_2206]), (283, [p5y5_147])] 285 [] 98 p5y5_2207 = true := by decide +kernel
theorem p5y5_2207_s {X : Int → Int} {LX : Nat} : ck_Ok p1_O X LX 285 p5y5_2207 := ck_ok_s (ck_E1 (ck_S1 p5y5_2206_s ck_S0) (ck_E1 (ck_S1 p5y5_147_s ck_S0) ck_E0)) ck_X0 ck_l0 p5y5_2207_e
set_option maxRecDepth 100000 in
def p5y5_2212 : ck_Sum := ((0, 0, 0), 245, [.inl (ck_one 295), .inl (ck_one 0), .inl (ck_one 299)], ([], [], []), ([], []), [(.inr (some (.inl (ck_one 1))), 245, ([], [], []))])
set_option maxRecDepth 100000 in
theorem p5y5_2212_e : ck_ok p1_O none [] [] 287 [] 88 p5y5_2212 = true := by decide +kernel
theorem p5y5_2212_s {X : Int → Int} {LX : Nat} : ck_Ok p1_O X LX 287 p5y5_2212 := ck_ok_s (ck_E0) ck_X0 ck_l0 p5y5_2212_e
set_option maxRecDepth 100000 in
def p5y5_2213 : ck_Sum := ((1, 0, 0), 245, [.inl (ck_one 295)], ([], [], []), ([], []), [(.inr (some (.inl (ck_one 0))), 245, ([], [], []))])
set_option maxRecDepth 100000 in
theorem p5y5_2213_e : ck_ok p1_O none [] [(287, [p5y5_2212])] 286 [] 84 p5y5_2213 = true := by decide +kernel
theorem p5y5_2213_s {X : Int → Int} {LX : Nat} : ck_Ok p1_O X LX 286 p5y5_2213 := ck_ok_s (ck_E1 (ck_S1 p5y5_2212_s ck_S0) ck_E0) ck_X0 ck_l0 p5y5_2213_e
set_option maxRecDepth 100000 in
def p5y5_2214 : ck_Sum := ((2, 0, 0), 245, [.inr (.inr (.inl 226)), .inl (ck_one 295)], ([], [], [(234, 295, 295, ck_one 2)]), ([(226, 0, 0)], []), [(.inr (some (.inl (ck_one 2))), 245, ([], [], [(226, 0, 0, ck_one 0)]))])
set_option maxRecDepth 100000 in
theorem p5y5_2214_e : ck_ok p1_O none [] [(286, [p5y5_2213]), (283, [p5y5_147])] 285 [] 98 p5y5_2214 = true := by decide +kernel
theorem p5y5_2214_s {X : Int → Int} {LX : Nat} : ck_Ok p1_O X LX 285 p5y5_2214 := ck_ok_s (ck_E1 (ck_S1 p5y5_2213_s ck_S0) (ck_E1 (ck_S1 p5y5_147_s ck_S0) ck_E0)) ck_X0 ck_l0 p5y5_2214_e
set_option maxRecDepth 100000 in
def p5y5_2219 : ck_Sum := ((0, 0, 0), 245, [.inl (ck_one 296), .inl (ck_one 0), .inl (ck_one 299)], ([], [], []), ([], []), [(.inr (some (.inl (ck_one 1))), 245, ([], [], []))])
set_option maxRecDepth 100000 in
theorem p5y5_2219_e : ck_ok p1_O none [] [] 287 [] 88 p5y5_2219 = true := by decide +kernel
theorem p5y5_2219_s {X : Int → Int} {LX : Nat} : ck_Ok p1_O X LX 287 p5y5_2219 := ck_ok_s (ck_E0) ck_X0 ck_l0 p5y5_2219_e
set_option maxRecDepth 100000 in
def p5y5_2220 : ck_Sum := ((1, 0, 0), 245, [.inl (ck_one 296)], ([], [], []), ([], []), [(.inr (some (.inl (ck_one 0))), 245, ([], [], []))])
set_option maxRecDepth 100000 in
theorem p5y5_2220_e : ck_ok p1_O none [] [(287, [p5y5_2219])] 286 [] 84 p5y5_2220 = true := by decide +kernel
theorem p5y5_2220_s {X : Int → Int} {LX : Nat} : ck_Ok p1_O X LX 286 p5y5_2220 := ck_ok_s (ck_E1 (ck_S1 p5y5_2219_s ck_S0) ck_E0) ck_X0 ck_l0 p5y5_2220_e
set_option maxRecDepth 100000 in
def p5y5_2221 : ck_Sum := ((2, 0, 0), 245, [.inr (.inr (.inl 226)), .inl (ck_one 296)], ([], [], [(234, 296, 296, ck_one 1)]), ([(226, 0, 0)], []), [(.inr (some (.inl (ck_one 1))), 245, ([], [], [(226, 0, 0, ck_one 0)]))])
set_option maxRecDepth 100000 in
theorem p5y5_2221_e : ck_ok p1_O none [] [(286, [p5y5_2220]), (283, [p5y5_147])] 285 [] 98 p5y5_2221 = true := by decide +kernel
theorem p5y5_2221_s {X : Int → Int} {LX : Nat} : ck_Ok p1_O X LX 285 p5y5_2221 := ck_ok_s (ck_E1 (ck_S1 p5y5_2220_s ck_S0) (ck_E1 (ck_S1 p5y5_147_s ck_S0) ck_E0)) ck_X0 ck_l0 p5y5_2221_e
set_option maxRecDepth 100000 in
def p5y5_2226 : ck_Sum := ((0, 0, 0), 245, [.inl (ck_one 297), .inl (ck_one 0), .inl (ck_one 299)], ([], [], []), ([], []), [(.inr (some (.inl (ck_one 1))), 245, ([], [], []))])
set_option maxRecDepth 100000 in
theorem p5y5_2226_e : ck_ok p1_O none [] [] 287 [] 88 p5y5_2226 = true := by decide +kernel
theorem p5y5_2226_s {X : Int → Int} {LX : Nat} : ck_Ok p1_O X LX 287 p5y5_2226 := ck_ok_s (ck_E0) ck_X0 ck_l0 p5y5_2226_e
set_option maxRecDepth 100000 in
def p5y5_2227 : ck_Sum := ((1, 0, 0), 245, [.inl (ck_one 297)], ([], [], []), ([], []), [(.inr (some (.inl (ck_one 0))), 245, ([], [], []))])
set_option maxRecDepth 100000 in
theorem p5y5_2227_e : ck_ok p1_O none [] [(287, [p5y5_2226])] 286 [] 84 p5y5_2227 = true := by decide +kernel
theorem p5y5_2227_s {X : Int → Int} {LX : Nat} : ck_Ok p1_O X LX 286 p5y5_2227 := ck_ok_s (ck_E1 (ck_S1 p5y5_2226_s ck_S0) ck_E0) ck_X0 ck_l0 p5y5_2227_e
set_option maxRecDepth 100000 in
def p5y5_2228 : ck_Sum := ((2, 0, 0), 245, [.inr (.inr (.inl 226)), .inl (ck_one 297)], ([], [], [(234, 297, 297, ck_one 5)]), ([(226, 0, 0)], []), [(.inr (some (.inl (ck_one 5))), 245, ([], [], [(226, 0, 0, ck_one 0)]))])
set_option maxRecDepth 100000 in
theorem p5y5_2228_e : ck_ok p1_O none [] [(286, [p5y5_2227]), (283, [p5y5_147])] 285 [] 98 p5y5_2228 = true := by decide +kernel
theorem p5y5_2228_s {X : Int → Int} {LX : Nat} : ck_Ok p1_O X LX 285 p5y5_2228 := ck_ok_s (ck_E1 (ck_S1 p5y5_2227_s ck_S0) (ck_E1 (ck_S1 p5y5_147_s ck_S0) ck_E0)) ck_X0 ck_l0 p5y5_2228_e
set_option maxRecDepth 100000 in
def p5y5_2233 : ck_Sum := ((0, 0, 0), 245, [.inl (ck_one 298), .inl (ck_one 0), .inl (ck_one 299)], ([], [], []), ([], []), [(.inr (some (.inl (ck_one 1))), 245, ([], [], []))])
set_option maxRecDepth 100000 in
theorem p5y5_2233_e : ck_ok p1_O none [] [] 287 [] 88 p5y5_2233 = true := by decide +kernel
theorem p5y5_2233_s {X : Int → Int} {LX : Nat} : ck_Ok p1_O X LX 287 p5y5_2233 := ck_ok_s (ck_E0) ck_X0 ck_l0 p5y5_2233_e
set_option maxRecDepth 100000 in
def p5y5_2234 : ck_Sum := ((1, 0, 0), 245, [.inl (ck_one 298)], ([], [], []), ([], []), [(.inr (some (.inl (ck_one 0))), 245, ([], [], []))])
set_option maxRecDepth 100000 in
theorem p5y5_2234_e : ck_ok p1_O none [] [(287, [p5y5_2233])] 286 [] 84 p5y5_2234 = true := by decide +kernel
theorem p5y5_2234_s {X : Int → Int} {LX : Nat} : ck_Ok p1_O X LX 286 p5y5_2234 := ck_ok_s (ck_E1 (ck_S1 p5y5_2233_s ck_S0) ck_E0) ck_X0 ck_l0 p5y5_2234_e
set_option maxRecDepth 100000 in
def p5y5_2235 : ck_Sum := ((2, 0, 0), 245, [.inr (.inr (.inl 226)), .inl (ck_one 298)], ([], [], [(234, 298, 298, ck_one 4)]), ([(226, 0, 0)], []), [(.inr (some (.inl (ck_one 4))), 245, ([], [], [(226, 0, 0, ck_one 0)]))])
set_option maxRecDepth 100000 in
theorem p5y5_2235_e : ck_ok p1_O none [] [(286, [p5y5_2234]), (283, [p5y5_147])] 285 [] 98 p5y5_2235 = true := by decide +kernel
theorem p5y5_2235_s {X : Int → Int} {LX : Nat} : ck_Ok p1_O X LX 285 p5y5_2235 := ck_ok_s (ck_E1 (ck_S1 p5y5_2234_s ck_S0) (ck_E1 (ck_S1 p5y5_147_s ck_S0) ck_E0)) ck_X0 ck_l0 p5y5_2235_e
set_option maxRecDepth 100000 in
def p5y5_2240 : ck_Sum := ((0, 0, 0), 245, [.inl (ck_one 299), .inl (ck_one 0), .inl (ck_one 299)], ([], [], []), ([], []), [(.inr (some (.inl (ck_one 1))), 245, ([], [], []))])
set_option maxRecDepth 100000 in
theorem p5y5_2240_e : ck_ok p1_O none [] [] 287 [] 88 p5y5_2240 = true := by decide +kernel
theorem p5y5_2240_s {X : Int → Int} {LX : Nat} : ck_Ok p1_O X LX 287 p5y5_2240 := ck_ok_s (ck_E0) ck_X0 ck_l0 p5y5_2240_e
set_option maxRecDepth 100000 in
def p5y5_2241 : ck_Sum := ((1, 0, 0), 245, [.inl (ck_one 299)], ([], [], []), ([], []), [(.inr (some (.inl (ck_one 0))), 245, ([], [], []))])
set_option maxRecDepth 100000 in
theorem p5y5_2241_e : ck_ok p1_O none [] [(287, [p5y5_2240])] 286 [] 84 p5y5_2241 = true := by decide +kernel
theorem p5y5_2241_s {X : Int → Int} {LX : Nat} : ck_Ok p1_O X LX 286 p5y5_2241 := ck_ok_s (ck_E1 (ck_S1 p5y5_2240_s ck_S0) ck_E0) ck_X0 ck_l0 p5y5_2241_e
set_option maxRecDepth 100000 in
def p5y5_2242 : ck_Sum := ((2, 0, 0), 245, [.inr (.inr (.inl 226)), .inl (ck_one 299)], ([], [], [(234, 299, 299, ck_one 9)]), ([(226, 0, 0)], []), [(.inr (some (.inl (ck_one 9))), 245, ([], [], [(226, 0, 0, ck_one 0)]))])
set_option maxRecDepth 100000 in
theorem p5y5_2242_e : ck_ok p1_O none [] [(286, [p5y5_2241]), (283, [p5y5_147])] 285 [] 98 p5y5_2242 = true := by decide +kernel
theorem p5y5_2242_s {X : Int → Int} {LX : Nat} : ck_Ok p1_O X LX 285 p5y5_2242 := ck_ok_s (ck_E1 (ck_S1 p5y5_2241_s ck_S0) (ck_E1 (ck_S1 p5y5_147_s ck_S0) ck_E0)) ck_X0 ck_l0 p5y5_2242_e
set_option maxRecDepth 100000 in
def p5y5_2246 : ck_Sum := ((0, 0, 0), 245, [.inl (300, 2147483647, none), .inl (ck_one 0), .inl (ck_one 299)], ([], [], []), ([], []), [(.inr (some (.inl (ck_one 0))), 245, ([], [], []))])
set_option maxRecDepth 100000 in
theorem p5y5_2246_e : ck_ok p1_O none [] [] 287 [] 86 p5y5_2246 = true := by decide +kernel
theorem p5y5_2246_s {X : Int → Int} {LX : Nat} : ck_Ok p1_O X LX 287 p5y5_2246 := ck_ok_s (ck_E0) ck_X0 ck_l0 p5y5_2246_e
set_option maxRecDepth 100000 in
def p5y5_2247 : ck_Sum := ((1, 0, 0), 245, [.inl (300, 2147483647, none)], ([], [], []), ([], []), [(.inr (some (.inl (ck_one 1))), 245, ([], [], []))])
set_option maxRecDepth 100000 in
theorem p5y5_2247_e : ck_ok p1_O none [] [(287, [p5y5_2246])] 286 [] 86 p5y5_2247 = true := by decide +kernel
theorem p5y5_2247_s {X : Int → Int} {LX : Nat} : ck_Ok p1_O X LX 286 p5y5_2247 := ck_ok_s (ck_E1 (ck_S1 p5y5_2246_s ck_S0) ck_E0) ck_X0 ck_l0 p5y5_2247_e
set_option maxRecDepth 100000 in
def p5y5_138 : ck_Sum := ((0, 0, 0), 245, [.inr (.inr (.inl 226)), .inl (ck_one 1), .inl (ck_one 1)], ([], [], []), ([(226, 0, 0)], []), [(.inr (some (.inl (ck_one 1))), 245, ([], [], [(226, 0, 0, ck_one 1)]))])
set_option maxRecDepth 100000 in
theorem p5y5_138_e : ck_ok p1_O none [] [] 283 [] 84 p5y5_138 = true := by decide +kernel
theorem p5y5_138_s {X : Int → Int} {LX : Nat} : ck_Ok p1_O X LX 283 p5y5_138 := ck_ok_s (ck_E0) ck_X0 ck_l0 p5y5_138_e
set_option maxRecDepth 100000 in
def p5y5_2248 : ck_Sum := ((2, 0, 0), 245, [.inr (.inr (.inl 226)), .inl (300, 2147483647, none)], ([], [], []), ([(226, 0, 0)], []), [(.inr (some (.inl (ck_one 0))), 245, ([], [], [(226, 0, 0, ck_one 1)]))])
set_option maxRecDepth 100000 in
theorem p5y5_2248_e : ck_ok p1_O none [] [(286, [p5y5_2247]), (283, [p5y5_138])] 285 [] 94 p5y5_2248 = true := by decide +kernel
theorem p5y5_2248_s {X : Int → Int} {LX : Nat} : ck_Ok p1_O X LX 285 p5y5_2248 := ck_ok_s (ck_E1 (ck_S1 p5y5_2247_s ck_S0) (ck_E1 (ck_S1 p5y5_138_s ck_S0) ck_E0)) ck_X0 ck_l0 p5y5_2248_e
set_option maxRecDepth 100000 in
def p5y5_149 : ck_Sum := ((0, 0, 0), 245, [.inr (.inr (.inl 226))], ([], [], [(226, 0, 0, ck_one 0)]), ([], []), [(.inr (some (.inl (ck_one 0))), 245, ([], [], []))])
set_option maxRecDepth 100000 in
theorem p5y5_149_e : ck_ok p1_O none [] [] 234 [] 76 p5y5_149 = true := by decide +kernel
theorem p5y5_149_s {X : Int → Int} {LX : Nat} : ck_Ok p1_O X LX 234 p5y5_149 := ck_ok_s (ck_E0) ck_X0 ck_l0 p5y5_149_e
set_option maxRecDepth 100000 in
def p5y5_140 : ck_Sum := ((0, 0, 0), 245, [.inr (.inr (.inl 226))], ([], [], [(226, 0, 0, ck_one 1)]), ([], []), [(.inr (some (.inl (ck_one 1))), 245, ([], [], []))])
set_option maxRecDepth 100000 in
theorem p5y5_140_e : ck_ok p1_O none [] [] 234 [] 76 p5y5_140 = true := by decide +kernel
theorem p5y5_140_s {X : Int → Int} {LX : Nat} : ck_Ok p1_O X LX 234 p5y5_140 := ck_ok_s (ck_E0) ck_X0 ck_l0 p5y5_140_e
set_option maxRecDepth 100000 in
def p5y5_F : ck_F := ([], [(3, 8, 0), (16, 8, 0), (29, 8, 0), (44, 8, 0), (57, 8, 0), (70, 8, 0), (83, 8, 0), (96, 8, 0), (109, 8, 0), (122, 8, 0), (135, 8, 0), (148, 8, 0), (161, 8, 0), (174, 8, 0), (187, 8, 0)], [(245, 0, 0, ck_one 0), (234, 299, 299, ck_one 9), (234, 298, 298, ck_one 4), (234, 297, 297, ck_one 5), (234, 296, 296, ck_one 1), (234, 295, 295, ck_one 2), (234, 294, 294, ck_one 7), (234, 293, 293, ck_one 3), (234, 292, 292, ck_one 9), (234, 291, 291, ck_one 2), (234, 290, 290, ck_one 4), (234, 289, 289, ck_one 2), (234, 288, 288, ck_one 9), (234, 287, 287, ck_one 5), (234, 286, 286, ck_one 3), (234, 285, 285, ck_one 2), (234, 284, 284, ck_one 8), (234, 283, 283, ck_one 1), (234, 282, 282, ck_one 9), (234, 281, 281, ck_one 5), (234, 280, 280, ck_one 9), (234, 279, 279, ck_one 0), (234, 278, 278, ck_one 5), (234, 277, 277, ck_one 2), (234, 276, 276, ck_one 8), (234, 275, 275, ck_one 7), (234, 274, 274, ck_one 2), (234, 273, 273, ck_one 9), (234, 272, 272, ck_one 4), (234, 271, 271, ck_one 6), (234, 270, 270, ck_one 9), (234, 269, 269, ck_one 1), (234, 268, 268, ck_one 1), (234, 267, 267, ck_one 3), (234, 266, 266, ck_one 8), (234, 265, 265, ck_one 3), (234, 264, 264, ck_one 6), (234, 263, 263, ck_one 0), (234, 262, 262, ck_one 9), (234, 261, 261, ck_one 7), (234, 260, 260, ck_one 1), (234, 259, 259, ck_one 0), (234, 258, 258, ck_one 1), (234, 257, 257, ck_one 6), (234, 256, 256, ck_one 0), (234, 255, 255, ck_one 2), (234, 254, 254, ck_one 1), (226, 0, 0, ck_one 0), (201, 299, 299, ck_one 9), (201, 298, 298, ck_one 4), (201, 297, 297, ck_one 5), (201, 296, 296, ck_one 1), (201, 295, 295, ck_one 2), (201, 294, 294, ck_one 7), (201, 293, 293, ck_one 3), (201, 292, 292, ck_one 9), (201, 291, 291, ck_one 2), (201, 290, 290, ck_one 4), (201, 289, 289, ck_one 2), (201, 288, 288, ck_one 9), (201, 287, 287, ck_one 5), (201, 286, 286, ck_one 3), (201, 285, 285, ck_one 2), (201, 284, 284, ck_one 8), (201, 283, 283, ck_one 1), (201, 282, 282, ck_one 9), (201, 281, 281, ck_one 5), (201, 280, 280, ck_one 9), (201, 279, 279, ck_one 0), (201, 278, 278, ck_one 5), (201, 277, 277, ck_one 2), (201, 276, 276, ck_one 8), (201, 275, 275, ck_one 7), (201, 274, 274, ck_one 2), (201, 273, 273, ck_one 9), (201, 272, 272, ck_one 4), (201, 271, 271, ck_one 6), (201, 270, 270, ck_one 9), (201, 269, 269, ck_one 1), (201, 268, 268, ck_one 1), (201, 267, 267, ck_one 3), (201, 266, 266, ck_one 8), (201, 265, 265, ck_one 3), (201, 264, 264, ck_one 6), (201, 263, 263, ck_one 0), (201, 262, 262, ck_one 9), (201, 261, 261, ck_one 7), (201, 260, 260, ck_one 1), (201, 259, 259, ck_one 0), (201, 258, 258, ck_one 1), (201, 257, 257, ck_one 6), (201, 256, 256, ck_one 0), (201, 255, 255, ck_one 2), (201, 254, 254, ck_one 1)])
def p5y5_E : List (Nat × List ck_Sum) := [(127, [p5y5_1924, p5y5_1931, p5y5_1938, p5y5_1945, p5y5_1952, p5y5_1959, p5y5_1966, p5y5_1973, p5y5_1980, p5y5_1987, p5y5_1994, p5y5_2001, p5y5_2008, p5y5_2015, p5y5_2022, p5y5_2029, p5y5_2036, p5y5_2043, p5y5_2050, p5y5_2057, p5y5_2064, p5y5_2071, p5y5_2078, p5y5_2085, p5y5_2092, p5y5_2099, p5y5_2106, p5y5_2113, p5y5_2120, p5y5_2127, p5y5_2134, p5y5_2141, p5y5_2148, p5y5_2155, p5y5_2162, p5y5_2169, p5y5_2176, p5y5_2183, p5y5_2190, p5y5_2197, p5y5_2204, p5y5_2211, p5y5_2218, p5y5_2225, p5y5_2232, p5y5_2239, p5y5_2245]), (285, [p5y5_1927, p5y5_1934, p5y5_1941, p5y5_1948, p5y5_1955, p5y5_1962, p5y5_1969, p5y5_1976, p5y5_1983, p5y5_1990, p5y5_1997, p5y5_2004, p5y5_2011, p5y5_2018, p5y5_2025, p5y5_2032, p5y5_2039, p5y5_2046, p5y5_2053, p5y5_2060, p5y5_2067, p5y5_2074, p5y5_2081, p5y5_2088, p5y5_2095, p5y5_2102, p5y5_2109, p5y5_2116, p5y5_2123, p5y5_2130, p5y5_2137, p5y5_2144, p5y5_2151, p5y5_2158, p5y5_2165, p5y5_2172, p5y5_2179, p5y5_2186, p5y5_2193, p5y5_2200, p5y5_2207, p5y5_2214, p5y5_2221, p5y5_2228, p5y5_2235, p5y5_2242, p5y5_2248]), (234, [p5y5_149, p5y5_140])]
set_option maxRecDepth 100000 in
theorem p5y5_h {X : Int → Int} {LX : Nat} : ck_OkE p1_O X LX p5y5_E := ck_E1 (ck_S1 p5y5_1924_s (ck_S1 p5y5_1931_s (ck_S1 p5y5_1938_s (ck_S1 p5y5_1945_s (ck_S1 p5y5_1952_s (ck_S1 p5y5_1959_s (ck_S1 p5y5_1966_s (ck_S1 p5y5_1973_s (ck_S1 p5y5_1980_s (ck_S1 p5y5_1987_s (ck_S1 p5y5_1994_s (ck_S1 p5y5_2001_s (ck_S1 p5y5_2008_s (ck_S1 p5y5_2015_s (ck_S1 p5y5_2022_s (ck_S1 p5y5_2029_s (ck_S1 p5y5_2036_s (ck_S1 p5y5_2043_s (ck_S1 p5y5_2050_s (ck_S1 p5y5_2057_s (ck_S1 p5y5_2064_s (ck_S1 p5y5_2071_s (ck_S1 p5y5_2078_s (ck_S1 p5y5_2085_s (ck_S1 p5y5_2092_s (ck_S1 p5y5_2099_s (ck_S1 p5y5_2106_s (ck_S1 p5y5_2113_s (ck_S1 p5y5_2120_s (ck_S1 p5y5_2127_s (ck_S1 p5y5_2134_s (ck_S1 p5y5_2141_s (ck_S1 p5y5_2148_s (ck_S1 p5y5_2155_s (ck_S1 p5y5_2162_s (ck_S1 p5y5_2169_s (ck_S1 p5y5_2176_s (ck_S1 p5y5_2183_s (ck_S1 p5y5_2190_s (ck_S1 p5y5_2197_s (ck_S1 p5y5_2204_s (ck_S1 p5y5_2211_s (ck_S1 p5y5_2218_s (ck_S1 p5y5_2225_s (ck_S1 p5y5_2232_s (ck_S1 p5y5_2239_s (ck_S1 p5y5_2245_s ck_S0))))))))))))))))))))))))))))))))))))))))))))))) (ck_E1 (ck_S1 p5y5_1927_s (ck_S1 p5y5_1934_s (ck_S1 p5y5_1941_s (ck_S1 p5y5_1948_s (ck_S1 p5y5_1955_s (ck_S1 p5y5_1962_s (ck_S1 p5y5_1969_s (ck_S1 p5y5_1976_s (ck_S1 p5y5_1983_s (ck_S1 p5y5_1990_s (ck_S1 p5y5_1997_s (ck_S1 p5y5_2004_s (ck_S1 p5y5_2011_s (ck_S1 p5y5_2018_s (ck_S1 p5y5_2025_s (ck_S1 p5y5_2032_s (ck_S1 p5y5_2039_s (ck_S1 p5y5_2046_s (ck_S1 p5y5_2053_s (ck_S1 p5y5_2060_s (ck_S1 p5y5_2067_s (ck_S1 p5y5_2074_s (ck_S1 p5y5_2081_s (ck_S1 p5y5_2088_s (ck_S1 p5y5_2095_s (ck_S1 p5y5_2102_s (ck_S1 p5y5_2109_s (ck_S1 p5y5_2116_s (ck_S1 p5y5_2123_s (ck_S1 p5y5_2130_s (ck_S1 p5y5_2137_s (ck_S1 p5y5_2144_s (ck_S1 p5y5_2151_s (ck_S1 p5y5_2158_s (ck_S1 p5y5_2165_s (ck_S1 p5y5_2172_s (ck_S1 p5y5_2179_s (ck_S1 p5y5_2186_s (ck_S1 p5y5_2193_s (ck_S1 p5y5_2200_s (ck_S1 p5y5_2207_s (ck_S1 p5y5_2214_s (ck_S1 p5y5_2221_s (ck_S1 p5y5_2228_s (ck_S1 p5y5_2235_s (ck_S1 p5y5_2242_s (ck_S1 p5y5_2248_s ck_S0))))))))))))))))))))))))))))))))))))))))))))))) (ck_E1 (ck_S1 p5y5_149_s (ck_S1 p5y5_140_s ck_S0)) ck_E0))
set_option maxRecDepth 100000 in
theorem p5y5_b : (ck_prod ((1, [(254, 254), (255, 255), (256, 256), (257, 257), (258, 258), (259, 259), (260, 260), (261, 261), (262, 262), (263, 263), (264, 264), (265, 265), (266, 266), (267, 267), (268, 268), (269, 269), (270, 270), (271, 271), (272, 272), (273, 273), (274, 274), (275, 275), (276, 276), (277, 277), (278, 278), (279, 279), (280, 280), (281, 281), (282, 282), (283, 283), (284, 284), (285, 285), (286, 286), (287, 287), (288, 288), (289, 289), (290, 290), (291, 291), (292, 292), (293, 293), (294, 294), (295, 295), (296, 296), (297, 297), (298, 298), (299, 299), (300, 2147483647)]) :: [])).all (fun xf => ck_go p1_O (some 6) xf p5y5_E 370 280 245 p1_W p1_outs [] 132 false [] 1000 2000 443 p1_L [] 245 p5y5_F) = true := by decide +kernel
theorem p5y5_s {X : Int → Int} {LX : Nat} (hLX : 6 = LX) (hX : ∀ j, gm_ir (X j)) (h1 : 254 ≤ X 1) (h2 : X 1 ≤ 2147483647) {σ : Nat → Int} {L : gm_L} {K0 K : gm_K} {R0 R : gm_R} {M0 M : gm_M} (hS : ck_St p1_O σ p1_W 245 K0 R0 M0 p1_L [] p5y5_F L [] 245 K R M) : gm_Wp X LX 280 1000 2000 370 443 L [] 245 K R M (ck_Q p1_O σ p1_W 245 K0 R0 M0 p1_outs) := ck_boxesR p5y5_h hLX hX h1 h2 (by decide +kernel) (by decide +kernel) p5y5_b hS
set_option maxRecDepth 100000 in
def p5_F : ck_F := ([], [(3, 8, 0), (16, 8, 0), (29, 8, 0), (44, 8, 0), (57, 8, 0), (70, 8, 0), (83, 8, 0), (96, 8, 0), (109, 8, 0), (122, 8, 0), (135, 8, 0), (148, 8, 0), (161, 8, 0), (174, 8, 0), (187, 8, 0)], [(201, 0, 0, ck_one 8), (201, 1, 1, ck_one 8), (201, 2, 2, ck_one 3), (201, 3, 3, ck_one 5), (201, 4, 4, ck_one 1), (201, 5, 5, ck_one 7), (201, 6, 6, ck_one 0), (201, 7, 7, ck_one 9), (201, 8, 8, ck_one 2), (201, 9, 9, ck_one 6), (201, 10, 10, ck_one 9), (201, 11, 11, ck_one 7), (201, 12, 12, ck_one 4), (201, 13, 13, ck_one 0), (201, 14, 14, ck_one 5), (201, 15, 15, ck_one 3), (201, 16, 16, ck_one 9), (201, 17, 17, ck_one 3), (201, 18, 18, ck_one 7), (201, 19, 19, ck_one 6), (201, 20, 20, ck_one 6), (201, 21, 21, ck_one 8), (201, 22, 22, ck_one 5), (201, 23, 23, ck_one 1), (201, 24, 24, ck_one 7), (201, 25, 25, ck_one 4), (201, 26, 26, ck_one 1), (201, 27, 27, ck_one 5), (201, 28, 28, ck_one 2), (201, 29, 29, ck_one 6), (201, 30, 30, ck_one 4), (201, 31, 31, ck_one 5), (201, 32, 32, ck_one 4), (201, 33, 33, ck_one 2), (201, 34, 34, ck_one 1), (201, 35, 35, ck_one 7), (201, 36, 36, ck_one 4), (201, 37, 37, ck_one 3), (201, 38, 38, ck_one 1), (201, 39, 39, ck_one 6), (201, 40, 40, ck_one 8), (201, 41, 41, ck_one 8), (201, 42, 42, ck_one 5), (201, 43, 43, ck_one 3), (201, 44, 44, ck_one 7), (201, 45, 45, ck_one 6), (201, 46, 46, ck_one 5), (201, 47, 47, ck_one 3), (201, 48, 48, ck_one 2), (201, 49, 49, ck_one 4), (201, 50, 50, ck_one 3), (201, 51, 51, ck_one 0), (201, 52, 52, ck_one 4), (201, 53, 53, ck_one 3), (201, 54, 54, ck_one 2), (201, 55, 55, ck_one 8), (201, 56, 56, ck_one 2), (201, 57, 57, ck_one 7), (201, 58, 58, ck_one 7), (201, 59, 59, ck_one 5), (201, 60, 60, ck_one 9), (201, 61, 61, ck_one 3), (201, 62, 62, ck_one 1), (201, 63, 63, ck_one 4), (201, 64, 64, ck_one 0), (201, 65, 65, ck_one 9), (201, 66, 66, ck_one 8), (201, 67, 67, ck_one 7), (201, 68, 68, ck_one 9), (201, 69, 69, ck_one 6), (201, 70, 70, ck_one 6), (201, 71, 71, ck_one 0), (201, 72, 72, ck_one 8), (201, 73, 73, ck_one 6), (201, 74, 74, ck_one 4), (201, 75, 75, ck_one 2), (201, 76, 76, ck_one 6), (201, 77, 77, ck_one 5), (201, 78, 78, ck_one 1), (201, 79, 79, ck_one 4), (201, 80, 80, ck_one 3), (201, 81, 81, ck_one 2), (201, 82, 82, ck_one 3), (201, 83, 83, ck_one 6), (201, 84, 84, ck_one 0), (201, 85, 85, ck_one 9), (201, 86, 86, ck_one 1), (201, 87, 87, ck_one 1), (201, 88, 88, ck_one 6), (201, 89, 89, ck_one 1), (201, 90, 90, ck_one 0), (201, 91, 91, ck_one 5), (201, 92, 92, ck_one 9), (201, 93, 93, ck_one 4), (201, 94, 94, ck_one 5), (201, 95, 95, ck_one 3), (201, 96, 96, ck_one 4), (201, 97, 97, ck_one 9), (201, 98, 98, ck_one 8), (201, 99, 99, ck_one 1), (201, 100, 100, ck_one 2), (201, 101, 101, ck_one 1), (201, 102, 102, ck_one 4), (201, 103, 103, ck_one 7), (201, 104, 104, ck_one 2), (201, 105, 105, ck_one 5), (201, 106, 106, ck_one 6), (201, 107, 107, ck_one 3), (201, 108, 108, ck_one 6), (201, 109, 109, ck_one 4), (201, 110, 110, ck_one 1), (201, 111, 111, ck_one 8), (201, 112, 112, ck_one 3), (201, 113, 113, ck_one 4), (201, 114, 114, ck_one 3), (201, 115, 115, ck_one 0), (201, 116, 116, ck_one 8), (201, 117, 117, ck_one 0), (201, 118, 118, ck_one 0), (201, 119, 119, ck_one 9), (201, 120, 120, ck_one 6), (201, 121, 121, ck_one 2), (201, 122, 122, ck_one 6), (201, 123, 123, ck_one 7), (201, 124, 124, ck_one 3), (201, 125, 125, ck_one 0), (201, 126, 126, ck_one 1), (201, 127, 127, ck_one 9), (201, 128, 128, ck_one 6), (201, 129, 129, ck_one 5), (201, 130, 130, ck_one 5), (201, 131, 131, ck_one 2), (201, 132, 132, ck_one 0), (201, 133, 133, ck_one 0), (201, 134, 134, ck_one 2), (201, 135, 135, ck_one 5), (201, 136, 136, ck_one 0), (201, 137, 137, ck_one 0), (201, 138, 138, ck_one 9), (201, 139, 139, ck_one 4), (201, 140, 140, ck_one 5), (201, 141, 141, ck_one 5), (201, 142, 142, ck_one 5), (201, 143, 143, ck_one 5), (201, 144, 144, ck_one 4), (201, 145, 145, ck_one 1), (201, 146, 146, ck_one 6), (201, 147, 147, ck_one 7), (201, 148, 148, ck_one 3), (201, 149, 149, ck_one 7), (201, 150, 150, ck_one 9), (201, 151, 151, ck_one 7), (201, 152, 152, ck_one 3), (201, 153, 153, ck_one 9), (201, 154, 154, ck_one 5), (201, 155, 155, ck_one 6), (201, 156, 156, ck_one 3), (201, 157, 157, ck_one 1), (201, 158, 158, ck_one 3), (201, 159, 159, ck_one 7), (201, 160, 160, ck_one 9), (201, 161, 161, ck_one 7), (201, 162, 162, ck_one 3), (201, 163, 163, ck_one 8), (201, 164, 164, ck_one 6), (201, 165, 165, ck_one 1), (201, 166, 166, ck_one 6), (201, 167, 167, ck_one 6), (201, 168, 168, ck_one 6), (201, 169, 169, ck_one 8), (201, 170, 170, ck_one 8), (201, 171, 171, ck_one 6), (201, 172, 172, ck_one 3), (201, 173, 173, ck_one 7), (201, 174, 174, ck_one 1), (201, 175, 175, ck_one 7), (201, 176, 176, ck_one 2), (201, 177, 177, ck_one 8), (201, 178, 178, ck_one 1), (201, 179, 179, ck_one 3), (201, 180, 180, ck_one 2), (201, 181, 181, ck_one 4), (201, 182, 182, ck_one 8), (201, 183, 183, ck_one 5), (201, 184, 184, ck_one 3), (201, 185, 185, ck_one 9), (201, 186, 186, ck_one 1), (201, 187, 187, ck_one 6), (201, 188, 188, ck_one 5), (201, 189, 189, ck_one 8), (201, 190, 190, ck_one 3), (201, 191, 191, ck_one 5), (201, 192, 192, ck_one 4), (201, 193, 193, ck_one 9), (201, 194, 194, ck_one 3), (201, 195, 195, ck_one 1), (201, 196, 196, ck_one 1), (201, 197, 197, ck_one 6), (201, 198, 198, ck_one 5), (201, 199, 199, ck_one 6), (201, 200, 200, ck_one 3), (201, 201, 201, ck_one 0), (201, 202, 202, ck_one 0), (201, 203, 203, ck_one 9), (201, 204, 204, ck_one 9), (201, 205, 205, ck_one 0), (201, 206, 206, ck_one 7), (201, 207, 207, ck_one 8), (201, 208, 208, ck_one 5), (201, 209, 209, ck_one 7), (201, 210, 210, ck_one 2), (201, 211, 211, ck_one 4), (201, 212, 212, ck_one 1), (201, 213, 213, ck_one 2), (201, 214, 214, ck_one 2), (201, 215, 215, ck_one 4), (201, 216, 216, ck_one 4), (201, 217, 217, ck_one 5), (201, 218, 218, ck_one 7), (201, 219, 219, ck_one 6), (201, 220, 220, ck_one 8), (201, 221, 221, ck_one 5), (201, 222, 222, ck_one 6), (201, 223, 223, ck_one 6), (201, 224, 224, ck_one 2), (201, 225, 225, ck_one 1), (201, 226, 226, ck_one 8), (201, 227, 227, ck_one 3), (201, 228, 228, ck_one 1), (201, 229, 229, ck_one 3), (201, 230, 230, ck_one 2), (201, 231, 231, ck_one 6), (201, 232, 232, ck_one 1), (201, 233, 233, ck_one 4), (201, 234, 234, ck_one 8), (201, 235, 235, ck_one 4), (201, 236, 236, ck_one 9), (201, 237, 237, ck_one 4), (201, 238, 238, ck_one 1), (201, 239, 239, ck_one 9), (201, 240, 240, ck_one 5), (201, 241, 241, ck_one 5), (201, 242, 242, ck_one 4), (201, 243, 243, ck_one 0), (201, 244, 244, ck_one 2), (201, 245, 245, ck_one 5), (201, 246, 246, ck_one 9), (201, 247, 247, ck_one 2), (201, 248, 248, ck_one 0), (201, 249, 249, ck_one 0), (201, 250, 250, ck_one 5), (201, 251, 251, ck_one 8), (201, 252, 252, ck_one 1), (201, 253, 253, ck_one 9), (201, 254, 254, ck_one 1), (201, 255, 255, ck_one 2), (201, 256, 256, ck_one 0), (201, 257, 257, ck_one 6), (201, 258, 258, ck_one 1), (201, 259, 259, ck_one 0), (201, 260, 260, ck_one 1), (201, 261, 261, ck_one 7), (201, 262, 262, ck_one 9), (201, 263, 263, ck_one 0), (201, 264, 264, ck_one 6), (201, 265, 265, ck_one 3), (201, 266, 266, ck_one 8), (201, 267, 267, ck_one 3), (201, 268, 268, ck_one 1), (201, 269, 269, ck_one 1), (201, 270, 270, ck_one 9), (201, 271, 271, ck_one 6), (201, 272, 272, ck_one 4), (201, 273, 273, ck_one 9), (201, 274, 274, ck_one 2), (201, 275, 275, ck_one 7), (201, 276, 276, ck_one 8), (201, 277, 277, ck_one 2), (201, 278, 278, ck_one 5), (201, 279, 279, ck_one 0), (201, 280, 280, ck_one 9), (201, 281, 281, ck_one 5), (201, 282, 282, ck_one 9), (201, 283, 283, ck_one 1), (201, 284, 284, ck_one 8), (201, 285, 285, ck_one 2), (201, 286, 286, ck_one 3), (201, 287, 287, ck_one 5), (201, 288, 288, ck_one 9), (201, 289, 289, ck_one 2), (201, 290, 290, ck_one 4), (201, 291, 291, ck_one 2), (201, 292, 292, ck_one 9), (201, 293, 293, ck_one 3), (201, 294, 294, ck_one 7), (201, 295, 295, ck_one 2), (201, 296, 296, ck_one 1), (201, 297, 297, ck_one 5), (201, 298, 298, ck_one 4), (201, 299, 299, ck_one 9), (226, 0, 0, ck_one 0), (234, 0, 0, ck_one 8), (234, 1, 1, ck_one 8), (234, 2, 2, ck_one 3), (234, 3, 3, ck_one 5), (234, 4, 4, ck_one 1), (234, 5, 5, ck_one 7), (234, 6, 6, ck_one 0), (234, 7, 7, ck_one 9), (234, 8, 8, ck_one 2), (234, 9, 9, ck_one 6), (234, 10, 10, ck_one 9), (234, 11, 11, ck_one 7), (234, 12, 12, ck_one 4), (234, 13, 13, ck_one 0), (234, 14, 14, ck_one 5), (234, 15, 15, ck_one 3), (234, 16, 16, ck_one 9), (234, 17, 17, ck_one 3), (234, 18, 18, ck_one 7), (234, 19, 19, ck_one 6), (234, 20, 20, ck_one 6), (234, 21, 21, ck_one 8), (234, 22, 22, ck_one 5), (234, 23, 23, ck_one 1), (234, 24, 24, ck_one 7), (234, 25, 25, ck_one 4), (234, 26, 26, ck_one 1), (234, 27, 27, ck_one 5), (234, 28, 28, ck_one 2), (234, 29, 29, ck_one 6), (234, 30, 30, ck_one 4), (234, 31, 31, ck_one 5), (234, 32, 32, ck_one 4), (234, 33, 33, ck_one 2), (234, 34, 34, ck_one 1), (234, 35, 35, ck_one 7), (234, 36, 36, ck_one 4), (234, 37, 37, ck_one 3), (234, 38, 38, ck_one 1), (234, 39, 39, ck_one 6), (234, 40, 40, ck_one 8), (234, 41, 41, ck_one 8), (234, 42, 42, ck_one 5), (234, 43, 43, ck_one 3), (234, 44, 44, ck_one 7), (234, 45, 45, ck_one 6), (234, 46, 46, ck_one 5), (234, 47, 47, ck_one 3), (234, 48, 48, ck_one 2), (234, 49, 49, ck_one 4), (234, 50, 50, ck_one 3), (234, 51, 51, ck_one 0), (234, 52, 52, ck_one 4), (234, 53, 53, ck_one 3), (234, 54, 54, ck_one 2), (234, 55, 55, ck_one 8), (234, 56, 56, ck_one 2), (234, 57, 57, ck_one 7), (234, 58, 58, ck_one 7), (234, 59, 59, ck_one 5), (234, 60, 60, ck_one 9), (234, 61, 61, ck_one 3), (234, 62, 62, ck_one 1), (234, 63, 63, ck_one 4), (234, 64, 64, ck_one 0), (234, 65, 65, ck_one 9), (234, 66, 66, ck_one 8), (234, 67, 67, ck_one 7), (234, 68, 68, ck_one 9), (234, 69, 69, ck_one 6), (234, 70, 70, ck_one 6), (234, 71, 71, ck_one 0), (234, 72, 72, ck_one 8), (234, 73, 73, ck_one 6), (234, 74, 74, ck_one 4), (234, 75, 75, ck_one 2), (234, 76, 76, ck_one 6), (234, 77, 77, ck_one 5), (234, 78, 78, ck_one 1), (234, 79, 79, ck_one 4), (234, 80, 80, ck_one 3), (234, 81, 81, ck_one 2), (234, 82, 82, ck_one 3), (234, 83, 83, ck_one 6), (234, 84, 84, ck_one 0), (234, 85, 85, ck_one 9), (234, 86, 86, ck_one 1), (234, 87, 87, ck_one 1), (234, 88, 88, ck_one 6), (234, 89, 89, ck_one 1), (234, 90, 90, ck_one 0), (234, 91, 91, ck_one 5), (234, 92, 92, ck_one 9), (234, 93, 93, ck_one 4), (234, 94, 94, ck_one 5), (234, 95, 95, ck_one 3), (234, 96, 96, ck_one 4), (234, 97, 97, ck_one 9), (234, 98, 98, ck_one 8), (234, 99, 99, ck_one 1), (234, 100, 100, ck_one 2), (234, 101, 101, ck_one 1), (234, 102, 102, ck_one 4), (234, 103, 103, ck_one 7), (234, 104, 104, ck_one 2), (234, 105, 105, ck_one 5), (234, 106, 106, ck_one 6), (234, 107, 107, ck_one 3), (234, 108, 108, ck_one 6), (234, 109, 109, ck_one 4), (234, 110, 110, ck_one 1), (234, 111, 111, ck_one 8), (234, 112, 112, ck_one 3), (234, 113, 113, ck_one 4), (234, 114, 114, ck_one 3), (234, 115, 115, ck_one 0), (234, 116, 116, ck_one 8), (234, 117, 117, ck_one 0), (234, 118, 118, ck_one 0), (234, 119, 119, ck_one 9), (234, 120, 120, ck_one 6), (234, 121, 121, ck_one 2), (234, 122, 122, ck_one 6), (234, 123, 123, ck_one 7), (234, 124, 124, ck_one 3), (234, 125, 125, ck_one 0), (234, 126, 126, ck_one 1), (234, 127, 127, ck_one 9), (234, 128, 128, ck_one 6), (234, 129, 129, ck_one 5), (234, 130, 130, ck_one 5), (234, 131, 131, ck_one 2), (234, 132, 132, ck_one 0), (234, 133, 133, ck_one 0), (234, 134, 134, ck_one 2), (234, 135, 135, ck_one 5), (234, 136, 136, ck_one 0), (234, 137, 137, ck_one 0), (234, 138, 138, ck_one 9), (234, 139, 139, ck_one 4), (234, 140, 140, ck_one 5), (234, 141, 141, ck_one 5), (234, 142, 142, ck_one 5), (234, 143, 143, ck_one 5), (234, 144, 144, ck_one 4), (234, 145, 145, ck_one 1), (234, 146, 146, ck_one 6), (234, 147, 147, ck_one 7), (234, 148, 148, ck_one 3), (234, 149, 149, ck_one 7), (234, 150, 150, ck_one 9), (234, 151, 151, ck_one 7), (234, 152, 152, ck_one 3), (234, 153, 153, ck_one 9), (234, 154, 154, ck_one 5), (234, 155, 155, ck_one 6), (234, 156, 156, ck_one 3), (234, 157, 157, ck_one 1), (234, 158, 158, ck_one 3), (234, 159, 159, ck_one 7), (234, 160, 160, ck_one 9), (234, 161, 161, ck_one 7), (234, 162, 162, ck_one 3), (234, 163, 163, ck_one 8), (234, 164, 164, ck_one 6), (234, 165, 165, ck_one 1), (234, 166, 166, ck_one 6), (234, 167, 167, ck_one 6), (234, 168, 168, ck_one 6), (234, 169, 169, ck_one 8), (234, 170, 170, ck_one 8), (234, 171, 171, ck_one 6), (234, 172, 172, ck_one 3), (234, 173, 173, ck_one 7), (234, 174, 174, ck_one 1), (234, 175, 175, ck_one 7), (234, 176, 176, ck_one 2), (234, 177, 177, ck_one 8), (234, 178, 178, ck_one 1), (234, 179, 179, ck_one 3), (234, 180, 180, ck_one 2), (234, 181, 181, ck_one 4), (234, 182, 182, ck_one 8), (234, 183, 183, ck_one 5), (234, 184, 184, ck_one 3), (234, 185, 185, ck_one 9), (234, 186, 186, ck_one 1), (234, 187, 187, ck_one 6), (234, 188, 188, ck_one 5), (234, 189, 189, ck_one 8), (234, 190, 190, ck_one 3), (234, 191, 191, ck_one 5), (234, 192, 192, ck_one 4), (234, 193, 193, ck_one 9), (234, 194, 194, ck_one 3), (234, 195, 195, ck_one 1), (234, 196, 196, ck_one 1), (234, 197, 197, ck_one 6), (234, 198, 198, ck_one 5), (234, 199, 199, ck_one 6), (234, 200, 200, ck_one 3), (234, 201, 201, ck_one 0), (234, 202, 202, ck_one 0), (234, 203, 203, ck_one 9), (234, 204, 204, ck_one 9), (234, 205, 205, ck_one 0), (234, 206, 206, ck_one 7), (234, 207, 207, ck_one 8), (234, 208, 208, ck_one 5), (234, 209, 209, ck_one 7), (234, 210, 210, ck_one 2), (234, 211, 211, ck_one 4), (234, 212, 212, ck_one 1), (234, 213, 213, ck_one 2), (234, 214, 214, ck_one 2), (234, 215, 215, ck_one 4), (234, 216, 216, ck_one 4), (234, 217, 217, ck_one 5), (234, 218, 218, ck_one 7), (234, 219, 219, ck_one 6), (234, 220, 220, ck_one 8), (234, 221, 221, ck_one 5), (234, 222, 222, ck_one 6), (234, 223, 223, ck_one 6), (234, 224, 224, ck_one 2), (234, 225, 225, ck_one 1), (234, 226, 226, ck_one 8), (234, 227, 227, ck_one 3), (234, 228, 228, ck_one 1), (234, 229, 229, ck_one 3), (234, 230, 230, ck_one 2), (234, 231, 231, ck_one 6), (234, 232, 232, ck_one 1), (234, 233, 233, ck_one 4), (234, 234, 234, ck_one 8), (234, 235, 235, ck_one 4), (234, 236, 236, ck_one 9), (234, 237, 237, ck_one 4), (234, 238, 238, ck_one 1), (234, 239, 239, ck_one 9), (234, 240, 240, ck_one 5), (234, 241, 241, ck_one 5), (234, 242, 242, ck_one 4), (234, 243, 243, ck_one 0), (234, 244, 244, ck_one 2), (234, 245, 245, ck_one 5), (234, 246, 246, ck_one 9), (234, 247, 247, ck_one 2), (234, 248, 248, ck_one 0), (234, 249, 249, ck_one 0), (234, 250, 250, ck_one 5), (234, 251, 251, ck_one 8), (234, 252, 252, ck_one 1), (234, 253, 253, ck_one 9), (234, 254, 254, ck_one 1), (234, 255, 255, ck_one 2), (234, 256, 256, ck_one 0), (234, 257, 257, ck_one 6), (234, 258, 258, ck_one 1), (234, 259, 259, ck_one 0), (234, 260, 260, ck_one 1), (234, 261, 261, ck_one 7), (234, 262, 262, ck_one 9), (234, 263, 263, ck_one 0), (234, 264, 264, ck_one 6), (234, 265, 265, ck_one 3), (234, 266, 266, ck_one 8), (234, 267, 267, ck_one 3), (234, 268, 268, ck_one 1), (234, 269, 269, ck_one 1), (234, 270, 270, ck_one 9), (234, 271, 271, ck_one 6), (234, 272, 272, ck_one 4), (234, 273, 273, ck_one 9), (234, 274, 274, ck_one 2), (234, 275, 275, ck_one 7), (234, 276, 276, ck_one 8), (234, 277, 277, ck_one 2), (234, 278, 278, ck_one 5), (234, 279, 279, ck_one 0), (234, 280, 280, ck_one 9), (234, 281, 281, ck_one 5), (234, 282, 282, ck_one 9), (234, 283, 283, ck_one 1), (234, 284, 284, ck_one 8), (234, 285, 285, ck_one 2), (234, 286, 286, ck_one 3), (234, 287, 287, ck_one 5), (234, 288, 288, ck_one 9), (234, 289, 289, ck_one 2), (234, 290, 290, ck_one 4), (234, 291, 291, ck_one 2), (234, 292, 292, ck_one 9), (234, 293, 293, ck_one 3), (234, 294, 294, ck_one 7), (234, 295, 295, ck_one 2), (234, 296, 296, ck_one 1), (234, 297, 297, ck_one 5), (234, 298, 298, ck_one 4), (234, 299, 299, ck_one 9), (245, 0, 0, ck_one 0)])
set_option maxRecDepth 100000 in
theorem p5_l0 : ck_leF p1_O p5_F p5y0_F = true := by decide +kernel
set_option maxRecDepth 100000 in
theorem p5_l1 : ck_leF p1_O p5_F p5y1_F = true := by decide +kernel
set_option maxRecDepth 100000 in
theorem p5_l2 : ck_leF p1_O p5_F p5y2_F = true := by decide +kernel
set_option maxRecDepth 100000 in
theorem p5_l3 : ck_leF p1_O p5_F p5y3_F = true := by decide +kernel
set_option maxRecDepth 100000 in
theorem p5_l4 : ck_leF p1_O p5_F p5y4_F = true := by decide +kernel
set_option maxRecDepth 100000 in
theorem p5_l5 : ck_leF p1_O p5_F p5y5_F = true := by decide +kernel
theorem p5_s {X : Int → Int} {LX : Nat} (hLX : 6 = LX) (hX : ∀ j, gm_ir (X j)) {σ : Nat → Int} {L : gm_L} {K0 K : gm_K} {R0 R : gm_R} {M0 M : gm_M} (hS : ck_St p1_O σ p1_W 245 K0 R0 M0 p1_L [] p5_F L [] 245 K R M) : gm_Wp X LX 280 1000 2000 370 443 L [] 245 K R M (ck_Q p1_O σ p1_W 245 K0 R0 M0 p1_outs) := by
  obtain ⟨hF, hl, hs, hf, hfr⟩ := hS
  by_cases g0 : X 1 ≤ 49
  · exact p5y0_s hLX hX (hX 1).1 g0 ⟨hF, hl, hs, ck_leF_s hF hf p5_l0, hfr⟩
  by_cases g1 : X 1 ≤ 100
  · exact p5y1_s hLX hX (by omega) g1 ⟨hF, hl, hs, ck_leF_s hF hf p5_l1, hfr⟩
  by_cases g2 : X 1 ≤ 151
  · exact p5y2_s hLX hX (by omega) g2 ⟨hF, hl, hs, ck_leF_s hF hf p5_l2, hfr⟩
  by_cases g3 : X 1 ≤ 202
  · exact p5y3_s hLX hX (by omega) g3 ⟨hF, hl, hs, ck_leF_s hF hf p5_l3, hfr⟩
  by_cases g4 : X 1 ≤ 253
  · exact p5y4_s hLX hX (by omega) g4 ⟨hF, hl, hs, ck_leF_s hF hf p5_l4, hfr⟩
  exact p5y5_s hLX hX (by omega) (by have := (hX 1).2; omega) ⟨hF, hl, hs, ck_leF_s hF hf p5_l5, hfr⟩
