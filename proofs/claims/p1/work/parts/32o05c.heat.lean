/-! heat, on a new object, piece 2: laid by wip/am/p1g.py. -/
set_option maxRecDepth 100000 in
def p5y2_850 : ck_Sum := ((0, 0, 0), 245, [.inr (.inr (.inl 1)), .inl (ck_one 101)], ([], [], []), ([], []), [(.inr none, 245, ([], [], []))])
set_option maxRecDepth 100000 in
theorem p5y2_850_e : ck_ok p1_O none [] [] 129 [] 82 p5y2_850 = true := by decide +kernel
theorem p5y2_850_s {X : Int → Int} {LX : Nat} : ck_Ok p1_O X LX 129 p5y2_850 := ck_ok_s (ck_E0) ck_X0 ck_l0 p5y2_850_e
set_option maxRecDepth 100000 in
def p5y2_851 : ck_Sum := ((0, 0, 0), 245, [.inr (.inr (.inl 200)), .inl (ck_one 101)], ([], [], [(201, 101, 101, ck_one 1)]), ([], []), [(.inr (some (.inl (ck_one 1))), 245, ([], [], []))])
set_option maxRecDepth 100000 in
theorem p5y2_851_e : ck_ok p1_O none [] [] 34 [] 92 p5y2_851 = true := by decide +kernel
theorem p5y2_851_s {X : Int → Int} {LX : Nat} : ck_Ok p1_O X LX 34 p5y2_851 := ck_ok_s (ck_E0) ck_X0 ck_l0 p5y2_851_e
set_option maxRecDepth 100000 in
def p5y2_852 : ck_Sum := ((1, 0, 0), 245, [.inr (.inr (.inl 1)), .inl (ck_one 101)], ([], [], [(201, 101, 101, ck_one 1)]), ([], []), [(.inr (some (.inl (ck_one 1))), 245, ([], [], []))])
set_option maxRecDepth 100000 in
theorem p5y2_852_e : ck_ok p1_O none [] [(129, [p5y2_850]), (34, [p5y2_851])] 128 [] 86 p5y2_852 = true := by decide +kernel
theorem p5y2_852_s {X : Int → Int} {LX : Nat} : ck_Ok p1_O X LX 128 p5y2_852 := ck_ok_s (ck_E1 (ck_S1 p5y2_850_s ck_S0) (ck_E1 (ck_S1 p5y2_851_s ck_S0) ck_E0)) ck_X0 ck_l0 p5y2_852_e
set_option maxRecDepth 100000 in
def p5y2_853 : ck_Sum := ((2, 0, 0), 245, [.inr (.inr (.inl 1)), .inl (ck_one 101), .inr (.inr (.inl 245))], ([], [], [(201, 101, 101, ck_one 1)]), ([(245, 0, 0)], []), [(.inr (some (.inl (ck_one 0))), 245, ([], [], [(245, 0, 0, ck_one 1)]))])
set_option maxRecDepth 100000 in
theorem p5y2_853_e : ck_ok p1_O none [] [(128, [p5y2_852])] 127 [] 90 p5y2_853 = true := by decide +kernel
theorem p5y2_853_s {X : Int → Int} {LX : Nat} : ck_Ok p1_O X LX 127 p5y2_853 := ck_ok_s (ck_E1 (ck_S1 p5y2_852_s ck_S0) ck_E0) ck_X0 ck_l0 p5y2_853_e
set_option maxRecDepth 100000 in
def p5y2_857 : ck_Sum := ((0, 0, 0), 245, [.inr (.inr (.inl 1)), .inl (ck_one 102)], ([], [], []), ([], []), [(.inr none, 245, ([], [], []))])
set_option maxRecDepth 100000 in
theorem p5y2_857_e : ck_ok p1_O none [] [] 129 [] 82 p5y2_857 = true := by decide +kernel
theorem p5y2_857_s {X : Int → Int} {LX : Nat} : ck_Ok p1_O X LX 129 p5y2_857 := ck_ok_s (ck_E0) ck_X0 ck_l0 p5y2_857_e
set_option maxRecDepth 100000 in
def p5y2_858 : ck_Sum := ((0, 0, 0), 245, [.inr (.inr (.inl 200)), .inl (ck_one 102)], ([], [], [(201, 102, 102, ck_one 4)]), ([], []), [(.inr (some (.inl (ck_one 4))), 245, ([], [], []))])
set_option maxRecDepth 100000 in
theorem p5y2_858_e : ck_ok p1_O none [] [] 34 [] 92 p5y2_858 = true := by decide +kernel
theorem p5y2_858_s {X : Int → Int} {LX : Nat} : ck_Ok p1_O X LX 34 p5y2_858 := ck_ok_s (ck_E0) ck_X0 ck_l0 p5y2_858_e
set_option maxRecDepth 100000 in
def p5y2_859 : ck_Sum := ((1, 0, 0), 245, [.inr (.inr (.inl 1)), .inl (ck_one 102)], ([], [], [(201, 102, 102, ck_one 4)]), ([], []), [(.inr (some (.inl (ck_one 4))), 245, ([], [], []))])
set_option maxRecDepth 100000 in
theorem p5y2_859_e : ck_ok p1_O none [] [(129, [p5y2_857]), (34, [p5y2_858])] 128 [] 86 p5y2_859 = true := by decide +kernel
theorem p5y2_859_s {X : Int → Int} {LX : Nat} : ck_Ok p1_O X LX 128 p5y2_859 := ck_ok_s (ck_E1 (ck_S1 p5y2_857_s ck_S0) (ck_E1 (ck_S1 p5y2_858_s ck_S0) ck_E0)) ck_X0 ck_l0 p5y2_859_e
set_option maxRecDepth 100000 in
def p5y2_860 : ck_Sum := ((2, 0, 0), 245, [.inr (.inr (.inl 1)), .inl (ck_one 102), .inr (.inr (.inl 245))], ([], [], [(201, 102, 102, ck_one 4)]), ([(245, 0, 0)], []), [(.inr (some (.inl (ck_one 0))), 245, ([], [], [(245, 0, 0, ck_one 4)]))])
set_option maxRecDepth 100000 in
theorem p5y2_860_e : ck_ok p1_O none [] [(128, [p5y2_859])] 127 [] 90 p5y2_860 = true := by decide +kernel
theorem p5y2_860_s {X : Int → Int} {LX : Nat} : ck_Ok p1_O X LX 127 p5y2_860 := ck_ok_s (ck_E1 (ck_S1 p5y2_859_s ck_S0) ck_E0) ck_X0 ck_l0 p5y2_860_e
set_option maxRecDepth 100000 in
def p5y2_864 : ck_Sum := ((0, 0, 0), 245, [.inr (.inr (.inl 1)), .inl (ck_one 103)], ([], [], []), ([], []), [(.inr none, 245, ([], [], []))])
set_option maxRecDepth 100000 in
theorem p5y2_864_e : ck_ok p1_O none [] [] 129 [] 82 p5y2_864 = true := by decide +kernel
theorem p5y2_864_s {X : Int → Int} {LX : Nat} : ck_Ok p1_O X LX 129 p5y2_864 := ck_ok_s (ck_E0) ck_X0 ck_l0 p5y2_864_e
set_option maxRecDepth 100000 in
def p5y2_865 : ck_Sum := ((0, 0, 0), 245, [.inr (.inr (.inl 200)), .inl (ck_one 103)], ([], [], [(201, 103, 103, ck_one 7)]), ([], []), [(.inr (some (.inl (ck_one 7))), 245, ([], [], []))])
set_option maxRecDepth 100000 in
theorem p5y2_865_e : ck_ok p1_O none [] [] 34 [] 92 p5y2_865 = true := by decide +kernel
theorem p5y2_865_s {X : Int → Int} {LX : Nat} : ck_Ok p1_O X LX 34 p5y2_865 := ck_ok_s (ck_E0) ck_X0 ck_l0 p5y2_865_e
set_option maxRecDepth 100000 in
def p5y2_866 : ck_Sum := ((1, 0, 0), 245, [.inr (.inr (.inl 1)), .inl (ck_one 103)], ([], [], [(201, 103, 103, ck_one 7)]), ([], []), [(.inr (some (.inl (ck_one 7))), 245, ([], [], []))])
set_option maxRecDepth 100000 in
theorem p5y2_866_e : ck_ok p1_O none [] [(129, [p5y2_864]), (34, [p5y2_865])] 128 [] 86 p5y2_866 = true := by decide +kernel
theorem p5y2_866_s {X : Int → Int} {LX : Nat} : ck_Ok p1_O X LX 128 p5y2_866 := ck_ok_s (ck_E1 (ck_S1 p5y2_864_s ck_S0) (ck_E1 (ck_S1 p5y2_865_s ck_S0) ck_E0)) ck_X0 ck_l0 p5y2_866_e
set_option maxRecDepth 100000 in
def p5y2_867 : ck_Sum := ((2, 0, 0), 245, [.inr (.inr (.inl 1)), .inl (ck_one 103), .inr (.inr (.inl 245))], ([], [], [(201, 103, 103, ck_one 7)]), ([(245, 0, 0)], []), [(.inr (some (.inl (ck_one 0))), 245, ([], [], [(245, 0, 0, ck_one 7)]))])
set_option maxRecDepth 100000 in
theorem p5y2_867_e : ck_ok p1_O none [] [(128, [p5y2_866])] 127 [] 90 p5y2_867 = true := by decide +kernel
theorem p5y2_867_s {X : Int → Int} {LX : Nat} : ck_Ok p1_O X LX 127 p5y2_867 := ck_ok_s (ck_E1 (ck_S1 p5y2_866_s ck_S0) ck_E0) ck_X0 ck_l0 p5y2_867_e
set_option maxRecDepth 100000 in
def p5y2_871 : ck_Sum := ((0, 0, 0), 245, [.inr (.inr (.inl 1)), .inl (ck_one 104)], ([], [], []), ([], []), [(.inr none, 245, ([], [], []))])
set_option maxRecDepth 100000 in
theorem p5y2_871_e : ck_ok p1_O none [] [] 129 [] 82 p5y2_871 = true := by decide +kernel
theorem p5y2_871_s {X : Int → Int} {LX : Nat} : ck_Ok p1_O X LX 129 p5y2_871 := ck_ok_s (ck_E0) ck_X0 ck_l0 p5y2_871_e
set_option maxRecDepth 100000 in
def p5y2_872 : ck_Sum := ((0, 0, 0), 245, [.inr (.inr (.inl 200)), .inl (ck_one 104)], ([], [], [(201, 104, 104, ck_one 2)]), ([], []), [(.inr (some (.inl (ck_one 2))), 245, ([], [], []))])
set_option maxRecDepth 100000 in
theorem p5y2_872_e : ck_ok p1_O none [] [] 34 [] 92 p5y2_872 = true := by decide +kernel
theorem p5y2_872_s {X : Int → Int} {LX : Nat} : ck_Ok p1_O X LX 34 p5y2_872 := ck_ok_s (ck_E0) ck_X0 ck_l0 p5y2_872_e
set_option maxRecDepth 100000 in
def p5y2_873 : ck_Sum := ((1, 0, 0), 245, [.inr (.inr (.inl 1)), .inl (ck_one 104)], ([], [], [(201, 104, 104, ck_one 2)]), ([], []), [(.inr (some (.inl (ck_one 2))), 245, ([], [], []))])
set_option maxRecDepth 100000 in
theorem p5y2_873_e : ck_ok p1_O none [] [(129, [p5y2_871]), (34, [p5y2_872])] 128 [] 86 p5y2_873 = true := by decide +kernel
theorem p5y2_873_s {X : Int → Int} {LX : Nat} : ck_Ok p1_O X LX 128 p5y2_873 := ck_ok_s (ck_E1 (ck_S1 p5y2_871_s ck_S0) (ck_E1 (ck_S1 p5y2_872_s ck_S0) ck_E0)) ck_X0 ck_l0 p5y2_873_e
set_option maxRecDepth 100000 in
def p5y2_874 : ck_Sum := ((2, 0, 0), 245, [.inr (.inr (.inl 1)), .inl (ck_one 104), .inr (.inr (.inl 245))], ([], [], [(201, 104, 104, ck_one 2)]), ([(245, 0, 0)], []), [(.inr (some (.inl (ck_one 0))), 245, ([], [], [(245, 0, 0, ck_one 2)]))])
set_option maxRecDepth 100000 in
theorem p5y2_874_e : ck_ok p1_O none [] [(128, [p5y2_873])] 127 [] 90 p5y2_874 = true := by decide +kernel
theorem p5y2_874_s {X : Int → Int} {LX : Nat} : ck_Ok p1_O X LX 127 p5y2_874 := ck_ok_s (ck_E1 (ck_S1 p5y2_873_s ck_S0) ck_E0) ck_X0 ck_l0 p5y2_874_e
set_option maxRecDepth 100000 in
def p5y2_878 : ck_Sum := ((0, 0, 0), 245, [.inr (.inr (.inl 1)), .inl (ck_one 105)], ([], [], []), ([], []), [(.inr none, 245, ([], [], []))])
set_option maxRecDepth 100000 in
theorem p5y2_878_e : ck_ok p1_O none [] [] 129 [] 82 p5y2_878 = true := by decide +kernel
theorem p5y2_878_s {X : Int → Int} {LX : Nat} : ck_Ok p1_O X LX 129 p5y2_878 := ck_ok_s (ck_E0) ck_X0 ck_l0 p5y2_878_e
set_option maxRecDepth 100000 in
def p5y2_879 : ck_Sum := ((0, 0, 0), 245, [.inr (.inr (.inl 200)), .inl (ck_one 105)], ([], [], [(201, 105, 105, ck_one 5)]), ([], []), [(.inr (some (.inl (ck_one 5))), 245, ([], [], []))])
set_option maxRecDepth 100000 in
theorem p5y2_879_e : ck_ok p1_O none [] [] 34 [] 92 p5y2_879 = true := by decide +kernel
theorem p5y2_879_s {X : Int → Int} {LX : Nat} : ck_Ok p1_O X LX 34 p5y2_879 := ck_ok_s (ck_E0) ck_X0 ck_l0 p5y2_879_e
set_option maxRecDepth 100000 in
def p5y2_880 : ck_Sum := ((1, 0, 0), 245, [.inr (.inr (.inl 1)), .inl (ck_one 105)], ([], [], [(201, 105, 105, ck_one 5)]), ([], []), [(.inr (some (.inl (ck_one 5))), 245, ([], [], []))])
set_option maxRecDepth 100000 in
theorem p5y2_880_e : ck_ok p1_O none [] [(129, [p5y2_878]), (34, [p5y2_879])] 128 [] 86 p5y2_880 = true := by decide +kernel
theorem p5y2_880_s {X : Int → Int} {LX : Nat} : ck_Ok p1_O X LX 128 p5y2_880 := ck_ok_s (ck_E1 (ck_S1 p5y2_878_s ck_S0) (ck_E1 (ck_S1 p5y2_879_s ck_S0) ck_E0)) ck_X0 ck_l0 p5y2_880_e
set_option maxRecDepth 100000 in
def p5y2_881 : ck_Sum := ((2, 0, 0), 245, [.inr (.inr (.inl 1)), .inl (ck_one 105), .inr (.inr (.inl 245))], ([], [], [(201, 105, 105, ck_one 5)]), ([(245, 0, 0)], []), [(.inr (some (.inl (ck_one 0))), 245, ([], [], [(245, 0, 0, ck_one 5)]))])
set_option maxRecDepth 100000 in
theorem p5y2_881_e : ck_ok p1_O none [] [(128, [p5y2_880])] 127 [] 90 p5y2_881 = true := by decide +kernel
theorem p5y2_881_s {X : Int → Int} {LX : Nat} : ck_Ok p1_O X LX 127 p5y2_881 := ck_ok_s (ck_E1 (ck_S1 p5y2_880_s ck_S0) ck_E0) ck_X0 ck_l0 p5y2_881_e
set_option maxRecDepth 100000 in
def p5y2_885 : ck_Sum := ((0, 0, 0), 245, [.inr (.inr (.inl 1)), .inl (ck_one 106)], ([], [], []), ([], []), [(.inr none, 245, ([], [], []))])
set_option maxRecDepth 100000 in
theorem p5y2_885_e : ck_ok p1_O none [] [] 129 [] 82 p5y2_885 = true := by decide +kernel
theorem p5y2_885_s {X : Int → Int} {LX : Nat} : ck_Ok p1_O X LX 129 p5y2_885 := ck_ok_s (ck_E0) ck_X0 ck_l0 p5y2_885_e
set_option maxRecDepth 100000 in
def p5y2_886 : ck_Sum := ((0, 0, 0), 245, [.inr (.inr (.inl 200)), .inl (ck_one 106)], ([], [], [(201, 106, 106, ck_one 6)]), ([], []), [(.inr (some (.inl (ck_one 6))), 245, ([], [], []))])
set_option maxRecDepth 100000 in
theorem p5y2_886_e : ck_ok p1_O none [] [] 34 [] 92 p5y2_886 = true := by decide +kernel
theorem p5y2_886_s {X : Int → Int} {LX : Nat} : ck_Ok p1_O X LX 34 p5y2_886 := ck_ok_s (ck_E0) ck_X0 ck_l0 p5y2_886_e
set_option maxRecDepth 100000 in
def p5y2_887 : ck_Sum := ((1, 0, 0), 245, [.inr (.inr (.inl 1)), .inl (ck_one 106)], ([], [], [(201, 106, 106, ck_one 6)]), ([], []), [(.inr (some (.inl (ck_one 6))), 245, ([], [], []))])
set_option maxRecDepth 100000 in
theorem p5y2_887_e : ck_ok p1_O none [] [(129, [p5y2_885]), (34, [p5y2_886])] 128 [] 86 p5y2_887 = true := by decide +kernel
theorem p5y2_887_s {X : Int → Int} {LX : Nat} : ck_Ok p1_O X LX 128 p5y2_887 := ck_ok_s (ck_E1 (ck_S1 p5y2_885_s ck_S0) (ck_E1 (ck_S1 p5y2_886_s ck_S0) ck_E0)) ck_X0 ck_l0 p5y2_887_e
set_option maxRecDepth 100000 in
def p5y2_888 : ck_Sum := ((2, 0, 0), 245, [.inr (.inr (.inl 1)), .inl (ck_one 106), .inr (.inr (.inl 245))], ([], [], [(201, 106, 106, ck_one 6)]), ([(245, 0, 0)], []), [(.inr (some (.inl (ck_one 0))), 245, ([], [], [(245, 0, 0, ck_one 6)]))])
set_option maxRecDepth 100000 in
theorem p5y2_888_e : ck_ok p1_O none [] [(128, [p5y2_887])] 127 [] 90 p5y2_888 = true := by decide +kernel
theorem p5y2_888_s {X : Int → Int} {LX : Nat} : ck_Ok p1_O X LX 127 p5y2_888 := ck_ok_s (ck_E1 (ck_S1 p5y2_887_s ck_S0) ck_E0) ck_X0 ck_l0 p5y2_888_e
set_option maxRecDepth 100000 in
def p5y2_892 : ck_Sum := ((0, 0, 0), 245, [.inr (.inr (.inl 1)), .inl (ck_one 107)], ([], [], []), ([], []), [(.inr none, 245, ([], [], []))])
set_option maxRecDepth 100000 in
theorem p5y2_892_e : ck_ok p1_O none [] [] 129 [] 82 p5y2_892 = true := by decide +kernel
theorem p5y2_892_s {X : Int → Int} {LX : Nat} : ck_Ok p1_O X LX 129 p5y2_892 := ck_ok_s (ck_E0) ck_X0 ck_l0 p5y2_892_e
set_option maxRecDepth 100000 in
def p5y2_893 : ck_Sum := ((0, 0, 0), 245, [.inr (.inr (.inl 200)), .inl (ck_one 107)], ([], [], [(201, 107, 107, ck_one 3)]), ([], []), [(.inr (some (.inl (ck_one 3))), 245, ([], [], []))])
set_option maxRecDepth 100000 in
theorem p5y2_893_e : ck_ok p1_O none [] [] 34 [] 92 p5y2_893 = true := by decide +kernel
theorem p5y2_893_s {X : Int → Int} {LX : Nat} : ck_Ok p1_O X LX 34 p5y2_893 := ck_ok_s (ck_E0) ck_X0 ck_l0 p5y2_893_e
set_option maxRecDepth 100000 in
def p5y2_894 : ck_Sum := ((1, 0, 0), 245, [.inr (.inr (.inl 1)), .inl (ck_one 107)], ([], [], [(201, 107, 107, ck_one 3)]), ([], []), [(.inr (some (.inl (ck_one 3))), 245, ([], [], []))])
set_option maxRecDepth 100000 in
theorem p5y2_894_e : ck_ok p1_O none [] [(129, [p5y2_892]), (34, [p5y2_893])] 128 [] 86 p5y2_894 = true := by decide +kernel
theorem p5y2_894_s {X : Int → Int} {LX : Nat} : ck_Ok p1_O X LX 128 p5y2_894 := ck_ok_s (ck_E1 (ck_S1 p5y2_892_s ck_S0) (ck_E1 (ck_S1 p5y2_893_s ck_S0) ck_E0)) ck_X0 ck_l0 p5y2_894_e
set_option maxRecDepth 100000 in
def p5y2_895 : ck_Sum := ((2, 0, 0), 245, [.inr (.inr (.inl 1)), .inl (ck_one 107), .inr (.inr (.inl 245))], ([], [], [(201, 107, 107, ck_one 3)]), ([(245, 0, 0)], []), [(.inr (some (.inl (ck_one 0))), 245, ([], [], [(245, 0, 0, ck_one 3)]))])
set_option maxRecDepth 100000 in
theorem p5y2_895_e : ck_ok p1_O none [] [(128, [p5y2_894])] 127 [] 90 p5y2_895 = true := by decide +kernel
theorem p5y2_895_s {X : Int → Int} {LX : Nat} : ck_Ok p1_O X LX 127 p5y2_895 := ck_ok_s (ck_E1 (ck_S1 p5y2_894_s ck_S0) ck_E0) ck_X0 ck_l0 p5y2_895_e
set_option maxRecDepth 100000 in
def p5y2_899 : ck_Sum := ((0, 0, 0), 245, [.inr (.inr (.inl 1)), .inl (ck_one 108)], ([], [], []), ([], []), [(.inr none, 245, ([], [], []))])
set_option maxRecDepth 100000 in
theorem p5y2_899_e : ck_ok p1_O none [] [] 129 [] 82 p5y2_899 = true := by decide +kernel
theorem p5y2_899_s {X : Int → Int} {LX : Nat} : ck_Ok p1_O X LX 129 p5y2_899 := ck_ok_s (ck_E0) ck_X0 ck_l0 p5y2_899_e
set_option maxRecDepth 100000 in
def p5y2_900 : ck_Sum := ((0, 0, 0), 245, [.inr (.inr (.inl 200)), .inl (ck_one 108)], ([], [], [(201, 108, 108, ck_one 6)]), ([], []), [(.inr (some (.inl (ck_one 6))), 245, ([], [], []))])
set_option maxRecDepth 100000 in
theorem p5y2_900_e : ck_ok p1_O none [] [] 34 [] 92 p5y2_900 = true := by decide +kernel
theorem p5y2_900_s {X : Int → Int} {LX : Nat} : ck_Ok p1_O X LX 34 p5y2_900 := ck_ok_s (ck_E0) ck_X0 ck_l0 p5y2_900_e
set_option maxRecDepth 100000 in
def p5y2_901 : ck_Sum := ((1, 0, 0), 245, [.inr (.inr (.inl 1)), .inl (ck_one 108)], ([], [], [(201, 108, 108, ck_one 6)]), ([], []), [(.inr (some (.inl (ck_one 6))), 245, ([], [], []))])
set_option maxRecDepth 100000 in
theorem p5y2_901_e : ck_ok p1_O none [] [(129, [p5y2_899]), (34, [p5y2_900])] 128 [] 86 p5y2_901 = true := by decide +kernel
theorem p5y2_901_s {X : Int → Int} {LX : Nat} : ck_Ok p1_O X LX 128 p5y2_901 := ck_ok_s (ck_E1 (ck_S1 p5y2_899_s ck_S0) (ck_E1 (ck_S1 p5y2_900_s ck_S0) ck_E0)) ck_X0 ck_l0 p5y2_901_e
set_option maxRecDepth 100000 in
def p5y2_902 : ck_Sum := ((2, 0, 0), 245, [.inr (.inr (.inl 1)), .inl (ck_one 108), .inr (.inr (.inl 245))], ([], [], [(201, 108, 108, ck_one 6)]), ([(245, 0, 0)], []), [(.inr (some (.inl (ck_one 0))), 245, ([], [], [(245, 0, 0, ck_one 6)]))])
set_option maxRecDepth 100000 in
theorem p5y2_902_e : ck_ok p1_O none [] [(128, [p5y2_901])] 127 [] 90 p5y2_902 = true := by decide +kernel
theorem p5y2_902_s {X : Int → Int} {LX : Nat} : ck_Ok p1_O X LX 127 p5y2_902 := ck_ok_s (ck_E1 (ck_S1 p5y2_901_s ck_S0) ck_E0) ck_X0 ck_l0 p5y2_902_e
set_option maxRecDepth 100000 in
def p5y2_906 : ck_Sum := ((0, 0, 0), 245, [.inr (.inr (.inl 1)), .inl (ck_one 109)], ([], [], []), ([], []), [(.inr none, 245, ([], [], []))])
set_option maxRecDepth 100000 in
theorem p5y2_906_e : ck_ok p1_O none [] [] 129 [] 82 p5y2_906 = true := by decide +kernel
theorem p5y2_906_s {X : Int → Int} {LX : Nat} : ck_Ok p1_O X LX 129 p5y2_906 := ck_ok_s (ck_E0) ck_X0 ck_l0 p5y2_906_e
set_option maxRecDepth 100000 in
def p5y2_907 : ck_Sum := ((0, 0, 0), 245, [.inr (.inr (.inl 200)), .inl (ck_one 109)], ([], [], [(201, 109, 109, ck_one 4)]), ([], []), [(.inr (some (.inl (ck_one 4))), 245, ([], [], []))])
set_option maxRecDepth 100000 in
theorem p5y2_907_e : ck_ok p1_O none [] [] 34 [] 92 p5y2_907 = true := by decide +kernel
theorem p5y2_907_s {X : Int → Int} {LX : Nat} : ck_Ok p1_O X LX 34 p5y2_907 := ck_ok_s (ck_E0) ck_X0 ck_l0 p5y2_907_e
set_option maxRecDepth 100000 in
def p5y2_908 : ck_Sum := ((1, 0, 0), 245, [.inr (.inr (.inl 1)), .inl (ck_one 109)], ([], [], [(201, 109, 109, ck_one 4)]), ([], []), [(.inr (some (.inl (ck_one 4))), 245, ([], [], []))])
set_option maxRecDepth 100000 in
theorem p5y2_908_e : ck_ok p1_O none [] [(129, [p5y2_906]), (34, [p5y2_907])] 128 [] 86 p5y2_908 = true := by decide +kernel
theorem p5y2_908_s {X : Int → Int} {LX : Nat} : ck_Ok p1_O X LX 128 p5y2_908 := ck_ok_s (ck_E1 (ck_S1 p5y2_906_s ck_S0) (ck_E1 (ck_S1 p5y2_907_s ck_S0) ck_E0)) ck_X0 ck_l0 p5y2_908_e
set_option maxRecDepth 100000 in
def p5y2_909 : ck_Sum := ((2, 0, 0), 245, [.inr (.inr (.inl 1)), .inl (ck_one 109), .inr (.inr (.inl 245))], ([], [], [(201, 109, 109, ck_one 4)]), ([(245, 0, 0)], []), [(.inr (some (.inl (ck_one 0))), 245, ([], [], [(245, 0, 0, ck_one 4)]))])
set_option maxRecDepth 100000 in
theorem p5y2_909_e : ck_ok p1_O none [] [(128, [p5y2_908])] 127 [] 90 p5y2_909 = true := by decide +kernel
theorem p5y2_909_s {X : Int → Int} {LX : Nat} : ck_Ok p1_O X LX 127 p5y2_909 := ck_ok_s (ck_E1 (ck_S1 p5y2_908_s ck_S0) ck_E0) ck_X0 ck_l0 p5y2_909_e
set_option maxRecDepth 100000 in
def p5y2_913 : ck_Sum := ((0, 0, 0), 245, [.inr (.inr (.inl 1)), .inl (ck_one 110)], ([], [], []), ([], []), [(.inr none, 245, ([], [], []))])
set_option maxRecDepth 100000 in
theorem p5y2_913_e : ck_ok p1_O none [] [] 129 [] 82 p5y2_913 = true := by decide +kernel
theorem p5y2_913_s {X : Int → Int} {LX : Nat} : ck_Ok p1_O X LX 129 p5y2_913 := ck_ok_s (ck_E0) ck_X0 ck_l0 p5y2_913_e
set_option maxRecDepth 100000 in
def p5y2_914 : ck_Sum := ((0, 0, 0), 245, [.inr (.inr (.inl 200)), .inl (ck_one 110)], ([], [], [(201, 110, 110, ck_one 1)]), ([], []), [(.inr (some (.inl (ck_one 1))), 245, ([], [], []))])
set_option maxRecDepth 100000 in
theorem p5y2_914_e : ck_ok p1_O none [] [] 34 [] 92 p5y2_914 = true := by decide +kernel
theorem p5y2_914_s {X : Int → Int} {LX : Nat} : ck_Ok p1_O X LX 34 p5y2_914 := ck_ok_s (ck_E0) ck_X0 ck_l0 p5y2_914_e
set_option maxRecDepth 100000 in
def p5y2_915 : ck_Sum := ((1, 0, 0), 245, [.inr (.inr (.inl 1)), .inl (ck_one 110)], ([], [], [(201, 110, 110, ck_one 1)]), ([], []), [(.inr (some (.inl (ck_one 1))), 245, ([], [], []))])
set_option maxRecDepth 100000 in
theorem p5y2_915_e : ck_ok p1_O none [] [(129, [p5y2_913]), (34, [p5y2_914])] 128 [] 86 p5y2_915 = true := by decide +kernel
theorem p5y2_915_s {X : Int → Int} {LX : Nat} : ck_Ok p1_O X LX 128 p5y2_915 := ck_ok_s (ck_E1 (ck_S1 p5y2_913_s ck_S0) (ck_E1 (ck_S1 p5y2_914_s ck_S0) ck_E0)) ck_X0 ck_l0 p5y2_915_e
set_option maxRecDepth 100000 in
def p5y2_916 : ck_Sum := ((2, 0, 0), 245, [.inr (.inr (.inl 1)), .inl (ck_one 110), .inr (.inr (.inl 245))], ([], [], [(201, 110, 110, ck_one 1)]), ([(245, 0, 0)], []), [(.inr (some (.inl (ck_one 0))), 245, ([], [], [(245, 0, 0, ck_one 1)]))])
set_option maxRecDepth 100000 in
theorem p5y2_916_e : ck_ok p1_O none [] [(128, [p5y2_915])] 127 [] 90 p5y2_916 = true := by decide +kernel
theorem p5y2_916_s {X : Int → Int} {LX : Nat} : ck_Ok p1_O X LX 127 p5y2_916 := ck_ok_s (ck_E1 (ck_S1 p5y2_915_s ck_S0) ck_E0) ck_X0 ck_l0 p5y2_916_e
set_option maxRecDepth 100000 in
def p5y2_920 : ck_Sum := ((0, 0, 0), 245, [.inr (.inr (.inl 1)), .inl (ck_one 111)], ([], [], []), ([], []), [(.inr none, 245, ([], [], []))])
set_option maxRecDepth 100000 in
theorem p5y2_920_e : ck_ok p1_O none [] [] 129 [] 82 p5y2_920 = true := by decide +kernel
theorem p5y2_920_s {X : Int → Int} {LX : Nat} : ck_Ok p1_O X LX 129 p5y2_920 := ck_ok_s (ck_E0) ck_X0 ck_l0 p5y2_920_e
set_option maxRecDepth 100000 in
def p5y2_921 : ck_Sum := ((0, 0, 0), 245, [.inr (.inr (.inl 200)), .inl (ck_one 111)], ([], [], [(201, 111, 111, ck_one 8)]), ([], []), [(.inr (some (.inl (ck_one 8))), 245, ([], [], []))])
set_option maxRecDepth 100000 in
theorem p5y2_921_e : ck_ok p1_O none [] [] 34 [] 92 p5y2_921 = true := by decide +kernel
theorem p5y2_921_s {X : Int → Int} {LX : Nat} : ck_Ok p1_O X LX 34 p5y2_921 := ck_ok_s (ck_E0) ck_X0 ck_l0 p5y2_921_e
set_option maxRecDepth 100000 in
def p5y2_922 : ck_Sum := ((1, 0, 0), 245, [.inr (.inr (.inl 1)), .inl (ck_one 111)], ([], [], [(201, 111, 111, ck_one 8)]), ([], []), [(.inr (some (.inl (ck_one 8))), 245, ([], [], []))])
set_option maxRecDepth 100000 in
theorem p5y2_922_e : ck_ok p1_O none [] [(129, [p5y2_920]), (34, [p5y2_921])] 128 [] 86 p5y2_922 = true := by decide +kernel
theorem p5y2_922_s {X : Int → Int} {LX : Nat} : ck_Ok p1_O X LX 128 p5y2_922 := ck_ok_s (ck_E1 (ck_S1 p5y2_920_s ck_S0) (ck_E1 (ck_S1 p5y2_921_s ck_S0) ck_E0)) ck_X0 ck_l0 p5y2_922_e
set_option maxRecDepth 100000 in
def p5y2_923 : ck_Sum := ((2, 0, 0), 245, [.inr (.inr (.inl 1)), .inl (ck_one 111), .inr (.inr (.inl 245))], ([], [], [(201, 111, 111, ck_one 8)]), ([(245, 0, 0)], []), [(.inr (some (.inl (ck_one 0))), 245, ([], [], [(245, 0, 0, ck_one 8)]))])
set_option maxRecDepth 100000 in
theorem p5y2_923_e : ck_ok p1_O none [] [(128, [p5y2_922])] 127 [] 90 p5y2_923 = true := by decide +kernel
theorem p5y2_923_s {X : Int → Int} {LX : Nat} : ck_Ok p1_O X LX 127 p5y2_923 := ck_ok_s (ck_E1 (ck_S1 p5y2_922_s ck_S0) ck_E0) ck_X0 ck_l0 p5y2_923_e
set_option maxRecDepth 100000 in
def p5y2_927 : ck_Sum := ((0, 0, 0), 245, [.inr (.inr (.inl 1)), .inl (ck_one 112)], ([], [], []), ([], []), [(.inr none, 245, ([], [], []))])
set_option maxRecDepth 100000 in
theorem p5y2_927_e : ck_ok p1_O none [] [] 129 [] 82 p5y2_927 = true := by decide +kernel
theorem p5y2_927_s {X : Int → Int} {LX : Nat} : ck_Ok p1_O X LX 129 p5y2_927 := ck_ok_s (ck_E0) ck_X0 ck_l0 p5y2_927_e
set_option maxRecDepth 100000 in
def p5y2_928 : ck_Sum := ((0, 0, 0), 245, [.inr (.inr (.inl 200)), .inl (ck_one 112)], ([], [], [(201, 112, 112, ck_one 3)]), ([], []), [(.inr (some (.inl (ck_one 3))), 245, ([], [], []))])
set_option maxRecDepth 100000 in
theorem p5y2_928_e : ck_ok p1_O none [] [] 34 [] 92 p5y2_928 = true := by decide +kernel
theorem p5y2_928_s {X : Int → Int} {LX : Nat} : ck_Ok p1_O X LX 34 p5y2_928 := ck_ok_s (ck_E0) ck_X0 ck_l0 p5y2_928_e
set_option maxRecDepth 100000 in
def p5y2_929 : ck_Sum := ((1, 0, 0), 245, [.inr (.inr (.inl 1)), .inl (ck_one 112)], ([], [], [(201, 112, 112, ck_one 3)]), ([], []), [(.inr (some (.inl (ck_one 3))), 245, ([], [], []))])
set_option maxRecDepth 100000 in
theorem p5y2_929_e : ck_ok p1_O none [] [(129, [p5y2_927]), (34, [p5y2_928])] 128 [] 86 p5y2_929 = true := by decide +kernel
theorem p5y2_929_s {X : Int → Int} {LX : Nat} : ck_Ok p1_O X LX 128 p5y2_929 := ck_ok_s (ck_E1 (ck_S1 p5y2_927_s ck_S0) (ck_E1 (ck_S1 p5y2_928_s ck_S0) ck_E0)) ck_X0 ck_l0 p5y2_929_e
set_option maxRecDepth 100000 in
def p5y2_930 : ck_Sum := ((2, 0, 0), 245, [.inr (.inr (.inl 1)), .inl (ck_one 112), .inr (.inr (.inl 245))], ([], [], [(201, 112, 112, ck_one 3)]), ([(245, 0, 0)], []), [(.inr (some (.inl (ck_one 0))), 245, ([], [], [(245, 0, 0, ck_one 3)]))])
set_option maxRecDepth 100000 in
theorem p5y2_930_e : ck_ok p1_O none [] [(128, [p5y2_929])] 127 [] 90 p5y2_930 = true := by decide +kernel
theorem p5y2_930_s {X : Int → Int} {LX : Nat} : ck_Ok p1_O X LX 127 p5y2_930 := ck_ok_s (ck_E1 (ck_S1 p5y2_929_s ck_S0) ck_E0) ck_X0 ck_l0 p5y2_930_e
set_option maxRecDepth 100000 in
def p5y2_934 : ck_Sum := ((0, 0, 0), 245, [.inr (.inr (.inl 1)), .inl (ck_one 113)], ([], [], []), ([], []), [(.inr none, 245, ([], [], []))])
set_option maxRecDepth 100000 in
theorem p5y2_934_e : ck_ok p1_O none [] [] 129 [] 82 p5y2_934 = true := by decide +kernel
theorem p5y2_934_s {X : Int → Int} {LX : Nat} : ck_Ok p1_O X LX 129 p5y2_934 := ck_ok_s (ck_E0) ck_X0 ck_l0 p5y2_934_e
set_option maxRecDepth 100000 in
def p5y2_935 : ck_Sum := ((0, 0, 0), 245, [.inr (.inr (.inl 200)), .inl (ck_one 113)], ([], [], [(201, 113, 113, ck_one 4)]), ([], []), [(.inr (some (.inl (ck_one 4))), 245, ([], [], []))])
set_option maxRecDepth 100000 in
theorem p5y2_935_e : ck_ok p1_O none [] [] 34 [] 92 p5y2_935 = true := by decide +kernel
theorem p5y2_935_s {X : Int → Int} {LX : Nat} : ck_Ok p1_O X LX 34 p5y2_935 := ck_ok_s (ck_E0) ck_X0 ck_l0 p5y2_935_e
set_option maxRecDepth 100000 in
def p5y2_936 : ck_Sum := ((1, 0, 0), 245, [.inr (.inr (.inl 1)), .inl (ck_one 113)], ([], [], [(201, 113, 113, ck_one 4)]), ([], []), [(.inr (some (.inl (ck_one 4))), 245, ([], [], []))])
set_option maxRecDepth 100000 in
theorem p5y2_936_e : ck_ok p1_O none [] [(129, [p5y2_934]), (34, [p5y2_935])] 128 [] 86 p5y2_936 = true := by decide +kernel
theorem p5y2_936_s {X : Int → Int} {LX : Nat} : ck_Ok p1_O X LX 128 p5y2_936 := ck_ok_s (ck_E1 (ck_S1 p5y2_934_s ck_S0) (ck_E1 (ck_S1 p5y2_935_s ck_S0) ck_E0)) ck_X0 ck_l0 p5y2_936_e
set_option maxRecDepth 100000 in
def p5y2_937 : ck_Sum := ((2, 0, 0), 245, [.inr (.inr (.inl 1)), .inl (ck_one 113), .inr (.inr (.inl 245))], ([], [], [(201, 113, 113, ck_one 4)]), ([(245, 0, 0)], []), [(.inr (some (.inl (ck_one 0))), 245, ([], [], [(245, 0, 0, ck_one 4)]))])
set_option maxRecDepth 100000 in
theorem p5y2_937_e : ck_ok p1_O none [] [(128, [p5y2_936])] 127 [] 90 p5y2_937 = true := by decide +kernel
theorem p5y2_937_s {X : Int → Int} {LX : Nat} : ck_Ok p1_O X LX 127 p5y2_937 := ck_ok_s (ck_E1 (ck_S1 p5y2_936_s ck_S0) ck_E0) ck_X0 ck_l0 p5y2_937_e
set_option maxRecDepth 100000 in
def p5y2_941 : ck_Sum := ((0, 0, 0), 245, [.inr (.inr (.inl 1)), .inl (ck_one 114)], ([], [], []), ([], []), [(.inr none, 245, ([], [], []))])
set_option maxRecDepth 100000 in
theorem p5y2_941_e : ck_ok p1_O none [] [] 129 [] 82 p5y2_941 = true := by decide +kernel
theorem p5y2_941_s {X : Int → Int} {LX : Nat} : ck_Ok p1_O X LX 129 p5y2_941 := ck_ok_s (ck_E0) ck_X0 ck_l0 p5y2_941_e
set_option maxRecDepth 100000 in
def p5y2_942 : ck_Sum := ((0, 0, 0), 245, [.inr (.inr (.inl 200)), .inl (ck_one 114)], ([], [], [(201, 114, 114, ck_one 3)]), ([], []), [(.inr (some (.inl (ck_one 3))), 245, ([], [], []))])
set_option maxRecDepth 100000 in
theorem p5y2_942_e : ck_ok p1_O none [] [] 34 [] 92 p5y2_942 = true := by decide +kernel
theorem p5y2_942_s {X : Int → Int} {LX : Nat} : ck_Ok p1_O X LX 34 p5y2_942 := ck_ok_s (ck_E0) ck_X0 ck_l0 p5y2_942_e
set_option maxRecDepth 100000 in
def p5y2_943 : ck_Sum := ((1, 0, 0), 245, [.inr (.inr (.inl 1)), .inl (ck_one 114)], ([], [], [(201, 114, 114, ck_one 3)]), ([], []), [(.inr (some (.inl (ck_one 3))), 245, ([], [], []))])
set_option maxRecDepth 100000 in
theorem p5y2_943_e : ck_ok p1_O none [] [(129, [p5y2_941]), (34, [p5y2_942])] 128 [] 86 p5y2_943 = true := by decide +kernel
theorem p5y2_943_s {X : Int → Int} {LX : Nat} : ck_Ok p1_O X LX 128 p5y2_943 := ck_ok_s (ck_E1 (ck_S1 p5y2_941_s ck_S0) (ck_E1 (ck_S1 p5y2_942_s ck_S0) ck_E0)) ck_X0 ck_l0 p5y2_943_e
set_option maxRecDepth 100000 in
def p5y2_944 : ck_Sum := ((2, 0, 0), 245, [.inr (.inr (.inl 1)), .inl (ck_one 114), .inr (.inr (.inl 245))], ([], [], [(201, 114, 114, ck_one 3)]), ([(245, 0, 0)], []), [(.inr (some (.inl (ck_one 0))), 245, ([], [], [(245, 0, 0, ck_one 3)]))])
set_option maxRecDepth 100000 in
theorem p5y2_944_e : ck_ok p1_O none [] [(128, [p5y2_943])] 127 [] 90 p5y2_944 = true := by decide +kernel
theorem p5y2_944_s {X : Int → Int} {LX : Nat} : ck_Ok p1_O X LX 127 p5y2_944 := ck_ok_s (ck_E1 (ck_S1 p5y2_943_s ck_S0) ck_E0) ck_X0 ck_l0 p5y2_944_e
set_option maxRecDepth 100000 in
def p5y2_948 : ck_Sum := ((0, 0, 0), 245, [.inr (.inr (.inl 1)), .inl (ck_one 115)], ([], [], []), ([], []), [(.inr none, 245, ([], [], []))])
set_option maxRecDepth 100000 in
theorem p5y2_948_e : ck_ok p1_O none [] [] 129 [] 82 p5y2_948 = true := by decide +kernel
theorem p5y2_948_s {X : Int → Int} {LX : Nat} : ck_Ok p1_O X LX 129 p5y2_948 := ck_ok_s (ck_E0) ck_X0 ck_l0 p5y2_948_e
set_option maxRecDepth 100000 in
def p5y2_949 : ck_Sum := ((0, 0, 0), 245, [.inr (.inr (.inl 200)), .inl (ck_one 115)], ([], [], [(201, 115, 115, ck_one 0)]), ([], []), [(.inr (some (.inl (ck_one 0))), 245, ([], [], []))])
set_option maxRecDepth 100000 in
theorem p5y2_949_e : ck_ok p1_O none [] [] 34 [] 92 p5y2_949 = true := by decide +kernel
theorem p5y2_949_s {X : Int → Int} {LX : Nat} : ck_Ok p1_O X LX 34 p5y2_949 := ck_ok_s (ck_E0) ck_X0 ck_l0 p5y2_949_e
set_option maxRecDepth 100000 in
def p5y2_950 : ck_Sum := ((1, 0, 0), 245, [.inr (.inr (.inl 1)), .inl (ck_one 115)], ([], [], [(201, 115, 115, ck_one 0)]), ([], []), [(.inr (some (.inl (ck_one 0))), 245, ([], [], []))])
set_option maxRecDepth 100000 in
theorem p5y2_950_e : ck_ok p1_O none [] [(129, [p5y2_948]), (34, [p5y2_949])] 128 [] 86 p5y2_950 = true := by decide +kernel
theorem p5y2_950_s {X : Int → Int} {LX : Nat} : ck_Ok p1_O X LX 128 p5y2_950 := ck_ok_s (ck_E1 (ck_S1 p5y2_948_s ck_S0) (ck_E1 (ck_S1 p5y2_949_s ck_S0) ck_E0)) ck_X0 ck_l0 p5y2_950_e
set_option maxRecDepth 100000 in
def p5y2_951 : ck_Sum := ((2, 0, 0), 245, [.inr (.inr (.inl 1)), .inl (ck_one 115), .inr (.inr (.inl 245))], ([], [], [(201, 115, 115, ck_one 0)]), ([(245, 0, 0)], []), [(.inr (some (.inl (ck_one 0))), 245, ([], [], [(245, 0, 0, ck_one 0)]))])
set_option maxRecDepth 100000 in
theorem p5y2_951_e : ck_ok p1_O none [] [(128, [p5y2_950])] 127 [] 90 p5y2_951 = true := by decide +kernel
theorem p5y2_951_s {X : Int → Int} {LX : Nat} : ck_Ok p1_O X LX 127 p5y2_951 := ck_ok_s (ck_E1 (ck_S1 p5y2_950_s ck_S0) ck_E0) ck_X0 ck_l0 p5y2_951_e
set_option maxRecDepth 100000 in
def p5y2_955 : ck_Sum := ((0, 0, 0), 245, [.inr (.inr (.inl 1)), .inl (ck_one 116)], ([], [], []), ([], []), [(.inr none, 245, ([], [], []))])
set_option maxRecDepth 100000 in
theorem p5y2_955_e : ck_ok p1_O none [] [] 129 [] 82 p5y2_955 = true := by decide +kernel
theorem p5y2_955_s {X : Int → Int} {LX : Nat} : ck_Ok p1_O X LX 129 p5y2_955 := ck_ok_s (ck_E0) ck_X0 ck_l0 p5y2_955_e
set_option maxRecDepth 100000 in
def p5y2_956 : ck_Sum := ((0, 0, 0), 245, [.inr (.inr (.inl 200)), .inl (ck_one 116)], ([], [], [(201, 116, 116, ck_one 8)]), ([], []), [(.inr (some (.inl (ck_one 8))), 245, ([], [], []))])
set_option maxRecDepth 100000 in
theorem p5y2_956_e : ck_ok p1_O none [] [] 34 [] 92 p5y2_956 = true := by decide +kernel
theorem p5y2_956_s {X : Int → Int} {LX : Nat} : ck_Ok p1_O X LX 34 p5y2_956 := ck_ok_s (ck_E0) ck_X0 ck_l0 p5y2_956_e
set_option maxRecDepth 100000 in
def p5y2_957 : ck_Sum := ((1, 0, 0), 245, [.inr (.inr (.inl 1)), .inl (ck_one 116)], ([], [], [(201, 116, 116, ck_one 8)]), ([], []), [(.inr (some (.inl (ck_one 8))), 245, ([], [], []))])
set_option maxRecDepth 100000 in
theorem p5y2_957_e : ck_ok p1_O none [] [(129, [p5y2_955]), (34, [p5y2_956])] 128 [] 86 p5y2_957 = true := by decide +kernel
theorem p5y2_957_s {X : Int → Int} {LX : Nat} : ck_Ok p1_O X LX 128 p5y2_957 := ck_ok_s (ck_E1 (ck_S1 p5y2_955_s ck_S0) (ck_E1 (ck_S1 p5y2_956_s ck_S0) ck_E0)) ck_X0 ck_l0 p5y2_957_e
set_option maxRecDepth 100000 in
def p5y2_958 : ck_Sum := ((2, 0, 0), 245, [.inr (.inr (.inl 1)), .inl (ck_one 116), .inr (.inr (.inl 245))], ([], [], [(201, 116, 116, ck_one 8)]), ([(245, 0, 0)], []), [(.inr (some (.inl (ck_one 0))), 245, ([], [], [(245, 0, 0, ck_one 8)]))])
set_option maxRecDepth 100000 in
theorem p5y2_958_e : ck_ok p1_O none [] [(128, [p5y2_957])] 127 [] 90 p5y2_958 = true := by decide +kernel
theorem p5y2_958_s {X : Int → Int} {LX : Nat} : ck_Ok p1_O X LX 127 p5y2_958 := ck_ok_s (ck_E1 (ck_S1 p5y2_957_s ck_S0) ck_E0) ck_X0 ck_l0 p5y2_958_e
set_option maxRecDepth 100000 in
def p5y2_962 : ck_Sum := ((0, 0, 0), 245, [.inr (.inr (.inl 1)), .inl (ck_one 117)], ([], [], []), ([], []), [(.inr none, 245, ([], [], []))])
set_option maxRecDepth 100000 in
theorem p5y2_962_e : ck_ok p1_O none [] [] 129 [] 82 p5y2_962 = true := by decide +kernel
theorem p5y2_962_s {X : Int → Int} {LX : Nat} : ck_Ok p1_O X LX 129 p5y2_962 := ck_ok_s (ck_E0) ck_X0 ck_l0 p5y2_962_e
set_option maxRecDepth 100000 in
def p5y2_963 : ck_Sum := ((0, 0, 0), 245, [.inr (.inr (.inl 200)), .inl (ck_one 117)], ([], [], [(201, 117, 117, ck_one 0)]), ([], []), [(.inr (some (.inl (ck_one 0))), 245, ([], [], []))])
set_option maxRecDepth 100000 in
theorem p5y2_963_e : ck_ok p1_O none [] [] 34 [] 92 p5y2_963 = true := by decide +kernel
theorem p5y2_963_s {X : Int → Int} {LX : Nat} : ck_Ok p1_O X LX 34 p5y2_963 := ck_ok_s (ck_E0) ck_X0 ck_l0 p5y2_963_e
set_option maxRecDepth 100000 in
def p5y2_964 : ck_Sum := ((1, 0, 0), 245, [.inr (.inr (.inl 1)), .inl (ck_one 117)], ([], [], [(201, 117, 117, ck_one 0)]), ([], []), [(.inr (some (.inl (ck_one 0))), 245, ([], [], []))])
set_option maxRecDepth 100000 in
theorem p5y2_964_e : ck_ok p1_O none [] [(129, [p5y2_962]), (34, [p5y2_963])] 128 [] 86 p5y2_964 = true := by decide +kernel
theorem p5y2_964_s {X : Int → Int} {LX : Nat} : ck_Ok p1_O X LX 128 p5y2_964 := ck_ok_s (ck_E1 (ck_S1 p5y2_962_s ck_S0) (ck_E1 (ck_S1 p5y2_963_s ck_S0) ck_E0)) ck_X0 ck_l0 p5y2_964_e
set_option maxRecDepth 100000 in
def p5y2_965 : ck_Sum := ((2, 0, 0), 245, [.inr (.inr (.inl 1)), .inl (ck_one 117), .inr (.inr (.inl 245))], ([], [], [(201, 117, 117, ck_one 0)]), ([(245, 0, 0)], []), [(.inr (some (.inl (ck_one 0))), 245, ([], [], [(245, 0, 0, ck_one 0)]))])
set_option maxRecDepth 100000 in
theorem p5y2_965_e : ck_ok p1_O none [] [(128, [p5y2_964])] 127 [] 90 p5y2_965 = true := by decide +kernel
theorem p5y2_965_s {X : Int → Int} {LX : Nat} : ck_Ok p1_O X LX 127 p5y2_965 := ck_ok_s (ck_E1 (ck_S1 p5y2_964_s ck_S0) ck_E0) ck_X0 ck_l0 p5y2_965_e
set_option maxRecDepth 100000 in
def p5y2_969 : ck_Sum := ((0, 0, 0), 245, [.inr (.inr (.inl 1)), .inl (ck_one 118)], ([], [], []), ([], []), [(.inr none, 245, ([], [], []))])
set_option maxRecDepth 100000 in
theorem p5y2_969_e : ck_ok p1_O none [] [] 129 [] 82 p5y2_969 = true := by decide +kernel
theorem p5y2_969_s {X : Int → Int} {LX : Nat} : ck_Ok p1_O X LX 129 p5y2_969 := ck_ok_s (ck_E0) ck_X0 ck_l0 p5y2_969_e
set_option maxRecDepth 100000 in
def p5y2_970 : ck_Sum := ((0, 0, 0), 245, [.inr (.inr (.inl 200)), .inl (ck_one 118)], ([], [], [(201, 118, 118, ck_one 0)]), ([], []), [(.inr (some (.inl (ck_one 0))), 245, ([], [], []))])
set_option maxRecDepth 100000 in
theorem p5y2_970_e : ck_ok p1_O none [] [] 34 [] 92 p5y2_970 = true := by decide +kernel
theorem p5y2_970_s {X : Int → Int} {LX : Nat} : ck_Ok p1_O X LX 34 p5y2_970 := ck_ok_s (ck_E0) ck_X0 ck_l0 p5y2_970_e
set_option maxRecDepth 100000 in
def p5y2_971 : ck_Sum := ((1, 0, 0), 245, [.inr (.inr (.inl 1)), .inl (ck_one 118)], ([], [], [(201, 118, 118, ck_one 0)]), ([], []), [(.inr (some (.inl (ck_one 0))), 245, ([], [], []))])
set_option maxRecDepth 100000 in
theorem p5y2_971_e : ck_ok p1_O none [] [(129, [p5y2_969]), (34, [p5y2_970])] 128 [] 86 p5y2_971 = true := by decide +kernel
theorem p5y2_971_s {X : Int → Int} {LX : Nat} : ck_Ok p1_O X LX 128 p5y2_971 := ck_ok_s (ck_E1 (ck_S1 p5y2_969_s ck_S0) (ck_E1 (ck_S1 p5y2_970_s ck_S0) ck_E0)) ck_X0 ck_l0 p5y2_971_e
set_option maxRecDepth 100000 in
def p5y2_972 : ck_Sum := ((2, 0, 0), 245, [.inr (.inr (.inl 1)), .inl (ck_one 118), .inr (.inr (.inl 245))], ([], [], [(201, 118, 118, ck_one 0)]), ([(245, 0, 0)], []), [(.inr (some (.inl (ck_one 0))), 245, ([], [], [(245, 0, 0, ck_one 0)]))])
set_option maxRecDepth 100000 in
theorem p5y2_972_e : ck_ok p1_O none [] [(128, [p5y2_971])] 127 [] 90 p5y2_972 = true := by decide +kernel
theorem p5y2_972_s {X : Int → Int} {LX : Nat} : ck_Ok p1_O X LX 127 p5y2_972 := ck_ok_s (ck_E1 (ck_S1 p5y2_971_s ck_S0) ck_E0) ck_X0 ck_l0 p5y2_972_e
set_option maxRecDepth 100000 in
def p5y2_976 : ck_Sum := ((0, 0, 0), 245, [.inr (.inr (.inl 1)), .inl (ck_one 119)], ([], [], []), ([], []), [(.inr none, 245, ([], [], []))])
set_option maxRecDepth 100000 in
theorem p5y2_976_e : ck_ok p1_O none [] [] 129 [] 82 p5y2_976 = true := by decide +kernel
theorem p5y2_976_s {X : Int → Int} {LX : Nat} : ck_Ok p1_O X LX 129 p5y2_976 := ck_ok_s (ck_E0) ck_X0 ck_l0 p5y2_976_e
set_option maxRecDepth 100000 in
def p5y2_977 : ck_Sum := ((0, 0, 0), 245, [.inr (.inr (.inl 200)), .inl (ck_one 119)], ([], [], [(201, 119, 119, ck_one 9)]), ([], []), [(.inr (some (.inl (ck_one 9))), 245, ([], [], []))])
set_option maxRecDepth 100000 in
theorem p5y2_977_e : ck_ok p1_O none [] [] 34 [] 92 p5y2_977 = true := by decide +kernel
theorem p5y2_977_s {X : Int → Int} {LX : Nat} : ck_Ok p1_O X LX 34 p5y2_977 := ck_ok_s (ck_E0) ck_X0 ck_l0 p5y2_977_e
set_option maxRecDepth 100000 in
def p5y2_978 : ck_Sum := ((1, 0, 0), 245, [.inr (.inr (.inl 1)), .inl (ck_one 119)], ([], [], [(201, 119, 119, ck_one 9)]), ([], []), [(.inr (some (.inl (ck_one 9))), 245, ([], [], []))])
set_option maxRecDepth 100000 in
theorem p5y2_978_e : ck_ok p1_O none [] [(129, [p5y2_976]), (34, [p5y2_977])] 128 [] 86 p5y2_978 = true := by decide +kernel
theorem p5y2_978_s {X : Int → Int} {LX : Nat} : ck_Ok p1_O X LX 128 p5y2_978 := ck_ok_s (ck_E1 (ck_S1 p5y2_976_s ck_S0) (ck_E1 (ck_S1 p5y2_977_s ck_S0) ck_E0)) ck_X0 ck_l0 p5y2_978_e
set_option maxRecDepth 100000 in
def p5y2_979 : ck_Sum := ((2, 0, 0), 245, [.inr (.inr (.inl 1)), .inl (ck_one 119), .inr (.inr (.inl 245))], ([], [], [(201, 119, 119, ck_one 9)]), ([(245, 0, 0)], []), [(.inr (some (.inl (ck_one 0))), 245, ([], [], [(245, 0, 0, ck_one 9)]))])
set_option maxRecDepth 100000 in
theorem p5y2_979_e : ck_ok p1_O none [] [(128, [p5y2_978])] 127 [] 90 p5y2_979 = true := by decide +kernel
theorem p5y2_979_s {X : Int → Int} {LX : Nat} : ck_Ok p1_O X LX 127 p5y2_979 := ck_ok_s (ck_E1 (ck_S1 p5y2_978_s ck_S0) ck_E0) ck_X0 ck_l0 p5y2_979_e
set_option maxRecDepth 100000 in
def p5y2_983 : ck_Sum := ((0, 0, 0), 245, [.inr (.inr (.inl 1)), .inl (ck_one 120)], ([], [], []), ([], []), [(.inr none, 245, ([], [], []))])
set_option maxRecDepth 100000 in
theorem p5y2_983_e : ck_ok p1_O none [] [] 129 [] 82 p5y2_983 = true := by decide +kernel
theorem p5y2_983_s {X : Int → Int} {LX : Nat} : ck_Ok p1_O X LX 129 p5y2_983 := ck_ok_s (ck_E0) ck_X0 ck_l0 p5y2_983_e
set_option maxRecDepth 100000 in
def p5y2_984 : ck_Sum := ((0, 0, 0), 245, [.inr (.inr (.inl 200)), .inl (ck_one 120)], ([], [], [(201, 120, 120, ck_one 6)]), ([], []), [(.inr (some (.inl (ck_one 6))), 245, ([], [], []))])
set_option maxRecDepth 100000 in
theorem p5y2_984_e : ck_ok p1_O none [] [] 34 [] 92 p5y2_984 = true := by decide +kernel
theorem p5y2_984_s {X : Int → Int} {LX : Nat} : ck_Ok p1_O X LX 34 p5y2_984 := ck_ok_s (ck_E0) ck_X0 ck_l0 p5y2_984_e
set_option maxRecDepth 100000 in
def p5y2_985 : ck_Sum := ((1, 0, 0), 245, [.inr (.inr (.inl 1)), .inl (ck_one 120)], ([], [], [(201, 120, 120, ck_one 6)]), ([], []), [(.inr (some (.inl (ck_one 6))), 245, ([], [], []))])
set_option maxRecDepth 100000 in
theorem p5y2_985_e : ck_ok p1_O none [] [(129, [p5y2_983]), (34, [p5y2_984])] 128 [] 86 p5y2_985 = true := by decide +kernel
theorem p5y2_985_s {X : Int → Int} {LX : Nat} : ck_Ok p1_O X LX 128 p5y2_985 := ck_ok_s (ck_E1 (ck_S1 p5y2_983_s ck_S0) (ck_E1 (ck_S1 p5y2_984_s ck_S0) ck_E0)) ck_X0 ck_l0 p5y2_985_e
set_option maxRecDepth 100000 in
def p5y2_986 : ck_Sum := ((2, 0, 0), 245, [.inr (.inr (.inl 1)), .inl (ck_one 120), .inr (.inr (.inl 245))], ([], [], [(201, 120, 120, ck_one 6)]), ([(245, 0, 0)], []), [(.inr (some (.inl (ck_one 0))), 245, ([], [], [(245, 0, 0, ck_one 6)]))])
set_option maxRecDepth 100000 in
theorem p5y2_986_e : ck_ok p1_O none [] [(128, [p5y2_985])] 127 [] 90 p5y2_986 = true := by decide +kernel
theorem p5y2_986_s {X : Int → Int} {LX : Nat} : ck_Ok p1_O X LX 127 p5y2_986 := ck_ok_s (ck_E1 (ck_S1 p5y2_985_s ck_S0) ck_E0) ck_X0 ck_l0 p5y2_986_e
set_option maxRecDepth 100000 in
def p5y2_990 : ck_Sum := ((0, 0, 0), 245, [.inr (.inr (.inl 1)), .inl (ck_one 121)], ([], [], []), ([], []), [(.inr none, 245, ([], [], []))])
set_option maxRecDepth 100000 in
theorem p5y2_990_e : ck_ok p1_O none [] [] 129 [] 82 p5y2_990 = true := by decide +kernel
theorem p5y2_990_s {X : Int → Int} {LX : Nat} : ck_Ok p1_O X LX 129 p5y2_990 := ck_ok_s (ck_E0) ck_X0 ck_l0 p5y2_990_e
set_option maxRecDepth 100000 in
def p5y2_991 : ck_Sum := ((0, 0, 0), 245, [.inr (.inr (.inl 200)), .inl (ck_one 121)], ([], [], [(201, 121, 121, ck_one 2)]), ([], []), [(.inr (some (.inl (ck_one 2))), 245, ([], [], []))])
set_option maxRecDepth 100000 in
theorem p5y2_991_e : ck_ok p1_O none [] [] 34 [] 92 p5y2_991 = true := by decide +kernel
theorem p5y2_991_s {X : Int → Int} {LX : Nat} : ck_Ok p1_O X LX 34 p5y2_991 := ck_ok_s (ck_E0) ck_X0 ck_l0 p5y2_991_e
set_option maxRecDepth 100000 in
def p5y2_992 : ck_Sum := ((1, 0, 0), 245, [.inr (.inr (.inl 1)), .inl (ck_one 121)], ([], [], [(201, 121, 121, ck_one 2)]), ([], []), [(.inr (some (.inl (ck_one 2))), 245, ([], [], []))])
set_option maxRecDepth 100000 in
theorem p5y2_992_e : ck_ok p1_O none [] [(129, [p5y2_990]), (34, [p5y2_991])] 128 [] 86 p5y2_992 = true := by decide +kernel
theorem p5y2_992_s {X : Int → Int} {LX : Nat} : ck_Ok p1_O X LX 128 p5y2_992 := ck_ok_s (ck_E1 (ck_S1 p5y2_990_s ck_S0) (ck_E1 (ck_S1 p5y2_991_s ck_S0) ck_E0)) ck_X0 ck_l0 p5y2_992_e
set_option maxRecDepth 100000 in
def p5y2_993 : ck_Sum := ((2, 0, 0), 245, [.inr (.inr (.inl 1)), .inl (ck_one 121), .inr (.inr (.inl 245))], ([], [], [(201, 121, 121, ck_one 2)]), ([(245, 0, 0)], []), [(.inr (some (.inl (ck_one 0))), 245, ([], [], [(245, 0, 0, ck_one 2)]))])
set_option maxRecDepth 100000 in
theorem p5y2_993_e : ck_ok p1_O none [] [(128, [p5y2_992])] 127 [] 90 p5y2_993 = true := by decide +kernel
theorem p5y2_993_s {X : Int → Int} {LX : Nat} : ck_Ok p1_O X LX 127 p5y2_993 := ck_ok_s (ck_E1 (ck_S1 p5y2_992_s ck_S0) ck_E0) ck_X0 ck_l0 p5y2_993_e
set_option maxRecDepth 100000 in
def p5y2_997 : ck_Sum := ((0, 0, 0), 245, [.inr (.inr (.inl 1)), .inl (ck_one 122)], ([], [], []), ([], []), [(.inr none, 245, ([], [], []))])
set_option maxRecDepth 100000 in
theorem p5y2_997_e : ck_ok p1_O none [] [] 129 [] 82 p5y2_997 = true := by decide +kernel
theorem p5y2_997_s {X : Int → Int} {LX : Nat} : ck_Ok p1_O X LX 129 p5y2_997 := ck_ok_s (ck_E0) ck_X0 ck_l0 p5y2_997_e
set_option maxRecDepth 100000 in
def p5y2_998 : ck_Sum := ((0, 0, 0), 245, [.inr (.inr (.inl 200)), .inl (ck_one 122)], ([], [], [(201, 122, 122, ck_one 6)]), ([], []), [(.inr (some (.inl (ck_one 6))), 245, ([], [], []))])
set_option maxRecDepth 100000 in
theorem p5y2_998_e : ck_ok p1_O none [] [] 34 [] 92 p5y2_998 = true := by decide +kernel
theorem p5y2_998_s {X : Int → Int} {LX : Nat} : ck_Ok p1_O X LX 34 p5y2_998 := ck_ok_s (ck_E0) ck_X0 ck_l0 p5y2_998_e
set_option maxRecDepth 100000 in
def p5y2_999 : ck_Sum := ((1, 0, 0), 245, [.inr (.inr (.inl 1)), .inl (ck_one 122)], ([], [], [(201, 122, 122, ck_one 6)]), ([], []), [(.inr (some (.inl (ck_one 6))), 245, ([], [], []))])
set_option maxRecDepth 100000 in
theorem p5y2_999_e : ck_ok p1_O none [] [(129, [p5y2_997]), (34, [p5y2_998])] 128 [] 86 p5y2_999 = true := by decide +kernel
theorem p5y2_999_s {X : Int → Int} {LX : Nat} : ck_Ok p1_O X LX 128 p5y2_999 := ck_ok_s (ck_E1 (ck_S1 p5y2_997_s ck_S0) (ck_E1 (ck_S1 p5y2_998_s ck_S0) ck_E0)) ck_X0 ck_l0 p5y2_999_e
set_option maxRecDepth 100000 in
def p5y2_1000 : ck_Sum := ((2, 0, 0), 245, [.inr (.inr (.inl 1)), .inl (ck_one 122), .inr (.inr (.inl 245))], ([], [], [(201, 122, 122, ck_one 6)]), ([(245, 0, 0)], []), [(.inr (some (.inl (ck_one 0))), 245, ([], [], [(245, 0, 0, ck_one 6)]))])
set_option maxRecDepth 100000 in
theorem p5y2_1000_e : ck_ok p1_O none [] [(128, [p5y2_999])] 127 [] 90 p5y2_1000 = true := by decide +kernel
theorem p5y2_1000_s {X : Int → Int} {LX : Nat} : ck_Ok p1_O X LX 127 p5y2_1000 := ck_ok_s (ck_E1 (ck_S1 p5y2_999_s ck_S0) ck_E0) ck_X0 ck_l0 p5y2_1000_e
set_option maxRecDepth 100000 in
def p5y2_1004 : ck_Sum := ((0, 0, 0), 245, [.inr (.inr (.inl 1)), .inl (ck_one 123)], ([], [], []), ([], []), [(.inr none, 245, ([], [], []))])
set_option maxRecDepth 100000 in
theorem p5y2_1004_e : ck_ok p1_O none [] [] 129 [] 82 p5y2_1004 = true := by decide +kernel
theorem p5y2_1004_s {X : Int → Int} {LX : Nat} : ck_Ok p1_O X LX 129 p5y2_1004 := ck_ok_s (ck_E0) ck_X0 ck_l0 p5y2_1004_e
set_option maxRecDepth 100000 in
def p5y2_1005 : ck_Sum := ((0, 0, 0), 245, [.inr (.inr (.inl 200)), .inl (ck_one 123)], ([], [], [(201, 123, 123, ck_one 7)]), ([], []), [(.inr (some (.inl (ck_one 7))), 245, ([], [], []))])
set_option maxRecDepth 100000 in
theorem p5y2_1005_e : ck_ok p1_O none [] [] 34 [] 92 p5y2_1005 = true := by decide +kernel
theorem p5y2_1005_s {X : Int → Int} {LX : Nat} : ck_Ok p1_O X LX 34 p5y2_1005 := ck_ok_s (ck_E0) ck_X0 ck_l0 p5y2_1005_e
set_option maxRecDepth 100000 in
def p5y2_1006 : ck_Sum := ((1, 0, 0), 245, [.inr (.inr (.inl 1)), .inl (ck_one 123)], ([], [], [(201, 123, 123, ck_one 7)]), ([], []), [(.inr (some (.inl (ck_one 7))), 245, ([], [], []))])
set_option maxRecDepth 100000 in
theorem p5y2_1006_e : ck_ok p1_O none [] [(129, [p5y2_1004]), (34, [p5y2_1005])] 128 [] 86 p5y2_1006 = true := by decide +kernel
theorem p5y2_1006_s {X : Int → Int} {LX : Nat} : ck_Ok p1_O X LX 128 p5y2_1006 := ck_ok_s (ck_E1 (ck_S1 p5y2_1004_s ck_S0) (ck_E1 (ck_S1 p5y2_1005_s ck_S0) ck_E0)) ck_X0 ck_l0 p5y2_1006_e
set_option maxRecDepth 100000 in
def p5y2_1007 : ck_Sum := ((2, 0, 0), 245, [.inr (.inr (.inl 1)), .inl (ck_one 123), .inr (.inr (.inl 245))], ([], [], [(201, 123, 123, ck_one 7)]), ([(245, 0, 0)], []), [(.inr (some (.inl (ck_one 0))), 245, ([], [], [(245, 0, 0, ck_one 7)]))])
set_option maxRecDepth 100000 in
theorem p5y2_1007_e : ck_ok p1_O none [] [(128, [p5y2_1006])] 127 [] 90 p5y2_1007 = true := by decide +kernel
theorem p5y2_1007_s {X : Int → Int} {LX : Nat} : ck_Ok p1_O X LX 127 p5y2_1007 := ck_ok_s (ck_E1 (ck_S1 p5y2_1006_s ck_S0) ck_E0) ck_X0 ck_l0 p5y2_1007_e
set_option maxRecDepth 100000 in
def p5y2_1011 : ck_Sum := ((0, 0, 0), 245, [.inr (.inr (.inl 1)), .inl (ck_one 124)], ([], [], []), ([], []), [(.inr none, 245, ([], [], []))])
set_option maxRecDepth 100000 in
theorem p5y2_1011_e : ck_ok p1_O none [] [] 129 [] 82 p5y2_1011 = true := by decide +kernel
theorem p5y2_1011_s {X : Int → Int} {LX : Nat} : ck_Ok p1_O X LX 129 p5y2_1011 := ck_ok_s (ck_E0) ck_X0 ck_l0 p5y2_1011_e
set_option maxRecDepth 100000 in
def p5y2_1012 : ck_Sum := ((0, 0, 0), 245, [.inr (.inr (.inl 200)), .inl (ck_one 124)], ([], [], [(201, 124, 124, ck_one 3)]), ([], []), [(.inr (some (.inl (ck_one 3))), 245, ([], [], []))])
set_option maxRecDepth 100000 in
theorem p5y2_1012_e : ck_ok p1_O none [] [] 34 [] 92 p5y2_1012 = true := by decide +kernel
theorem p5y2_1012_s {X : Int → Int} {LX : Nat} : ck_Ok p1_O X LX 34 p5y2_1012 := ck_ok_s (ck_E0) ck_X0 ck_l0 p5y2_1012_e
set_option maxRecDepth 100000 in
def p5y2_1013 : ck_Sum := ((1, 0, 0), 245, [.inr (.inr (.inl 1)), .inl (ck_one 124)], ([], [], [(201, 124, 124, ck_one 3)]), ([], []), [(.inr (some (.inl (ck_one 3))), 245, ([], [], []))])
set_option maxRecDepth 100000 in
theorem p5y2_1013_e : ck_ok p1_O none [] [(129, [p5y2_1011]), (34, [p5y2_1012])] 128 [] 86 p5y2_1013 = true := by decide +kernel
theorem p5y2_1013_s {X : Int → Int} {LX : Nat} : ck_Ok p1_O X LX 128 p5y2_1013 := ck_ok_s (ck_E1 (ck_S1 p5y2_1011_s ck_S0) (ck_E1 (ck_S1 p5y2_1012_s ck_S0) ck_E0)) ck_X0 ck_l0 p5y2_1013_e
set_option maxRecDepth 100000 in
def p5y2_1014 : ck_Sum := ((2, 0, 0), 245, [.inr (.inr (.inl 1)), .inl (ck_one 124), .inr (.inr (.inl 245))], ([], [], [(201, 124, 124, ck_one 3)]), ([(245, 0, 0)], []), [(.inr (some (.inl (ck_one 0))), 245, ([], [], [(245, 0, 0, ck_one 3)]))])
set_option maxRecDepth 100000 in
theorem p5y2_1014_e : ck_ok p1_O none [] [(128, [p5y2_1013])] 127 [] 90 p5y2_1014 = true := by decide +kernel
theorem p5y2_1014_s {X : Int → Int} {LX : Nat} : ck_Ok p1_O X LX 127 p5y2_1014 := ck_ok_s (ck_E1 (ck_S1 p5y2_1013_s ck_S0) ck_E0) ck_X0 ck_l0 p5y2_1014_e
set_option maxRecDepth 100000 in
def p5y2_1018 : ck_Sum := ((0, 0, 0), 245, [.inr (.inr (.inl 1)), .inl (ck_one 125)], ([], [], []), ([], []), [(.inr none, 245, ([], [], []))])
set_option maxRecDepth 100000 in
theorem p5y2_1018_e : ck_ok p1_O none [] [] 129 [] 82 p5y2_1018 = true := by decide +kernel
theorem p5y2_1018_s {X : Int → Int} {LX : Nat} : ck_Ok p1_O X LX 129 p5y2_1018 := ck_ok_s (ck_E0) ck_X0 ck_l0 p5y2_1018_e
set_option maxRecDepth 100000 in
def p5y2_1019 : ck_Sum := ((0, 0, 0), 245, [.inr (.inr (.inl 200)), .inl (ck_one 125)], ([], [], [(201, 125, 125, ck_one 0)]), ([], []), [(.inr (some (.inl (ck_one 0))), 245, ([], [], []))])
set_option maxRecDepth 100000 in
theorem p5y2_1019_e : ck_ok p1_O none [] [] 34 [] 92 p5y2_1019 = true := by decide +kernel
theorem p5y2_1019_s {X : Int → Int} {LX : Nat} : ck_Ok p1_O X LX 34 p5y2_1019 := ck_ok_s (ck_E0) ck_X0 ck_l0 p5y2_1019_e
set_option maxRecDepth 100000 in
def p5y2_1020 : ck_Sum := ((1, 0, 0), 245, [.inr (.inr (.inl 1)), .inl (ck_one 125)], ([], [], [(201, 125, 125, ck_one 0)]), ([], []), [(.inr (some (.inl (ck_one 0))), 245, ([], [], []))])
set_option maxRecDepth 100000 in
theorem p5y2_1020_e : ck_ok p1_O none [] [(129, [p5y2_1018]), (34, [p5y2_1019])] 128 [] 86 p5y2_1020 = true := by decide +kernel
theorem p5y2_1020_s {X : Int → Int} {LX : Nat} : ck_Ok p1_O X LX 128 p5y2_1020 := ck_ok_s (ck_E1 (ck_S1 p5y2_1018_s ck_S0) (ck_E1 (ck_S1 p5y2_1019_s ck_S0) ck_E0)) ck_X0 ck_l0 p5y2_1020_e
set_option maxRecDepth 100000 in
def p5y2_1021 : ck_Sum := ((2, 0, 0), 245, [.inr (.inr (.inl 1)), .inl (ck_one 125), .inr (.inr (.inl 245))], ([], [], [(201, 125, 125, ck_one 0)]), ([(245, 0, 0)], []), [(.inr (some (.inl (ck_one 0))), 245, ([], [], [(245, 0, 0, ck_one 0)]))])
set_option maxRecDepth 100000 in
theorem p5y2_1021_e : ck_ok p1_O none [] [(128, [p5y2_1020])] 127 [] 90 p5y2_1021 = true := by decide +kernel
theorem p5y2_1021_s {X : Int → Int} {LX : Nat} : ck_Ok p1_O X LX 127 p5y2_1021 := ck_ok_s (ck_E1 (ck_S1 p5y2_1020_s ck_S0) ck_E0) ck_X0 ck_l0 p5y2_1021_e
set_option maxRecDepth 100000 in
def p5y2_1025 : ck_Sum := ((0, 0, 0), 245, [.inr (.inr (.inl 1)), .inl (ck_one 126)], ([], [], []), ([], []), [(.inr none, 245, ([], [], []))])
set_option maxRecDepth 100000 in
theorem p5y2_1025_e : ck_ok p1_O none [] [] 129 [] 82 p5y2_1025 = true := by decide +kernel
theorem p5y2_1025_s {X : Int → Int} {LX : Nat} : ck_Ok p1_O X LX 129 p5y2_1025 := ck_ok_s (ck_E0) ck_X0 ck_l0 p5y2_1025_e
set_option maxRecDepth 100000 in
def p5y2_1026 : ck_Sum := ((0, 0, 0), 245, [.inr (.inr (.inl 200)), .inl (ck_one 126)], ([], [], [(201, 126, 126, ck_one 1)]), ([], []), [(.inr (some (.inl (ck_one 1))), 245, ([], [], []))])
set_option maxRecDepth 100000 in
theorem p5y2_1026_e : ck_ok p1_O none [] [] 34 [] 92 p5y2_1026 = true := by decide +kernel
theorem p5y2_1026_s {X : Int → Int} {LX : Nat} : ck_Ok p1_O X LX 34 p5y2_1026 := ck_ok_s (ck_E0) ck_X0 ck_l0 p5y2_1026_e
set_option maxRecDepth 100000 in
def p5y2_1027 : ck_Sum := ((1, 0, 0), 245, [.inr (.inr (.inl 1)), .inl (ck_one 126)], ([], [], [(201, 126, 126, ck_one 1)]), ([], []), [(.inr (some (.inl (ck_one 1))), 245, ([], [], []))])
set_option maxRecDepth 100000 in
theorem p5y2_1027_e : ck_ok p1_O none [] [(129, [p5y2_1025]), (34, [p5y2_1026])] 128 [] 86 p5y2_1027 = true := by decide +kernel
theorem p5y2_1027_s {X : Int → Int} {LX : Nat} : ck_Ok p1_O X LX 128 p5y2_1027 := ck_ok_s (ck_E1 (ck_S1 p5y2_1025_s ck_S0) (ck_E1 (ck_S1 p5y2_1026_s ck_S0) ck_E0)) ck_X0 ck_l0 p5y2_1027_e
set_option maxRecDepth 100000 in
def p5y2_1028 : ck_Sum := ((2, 0, 0), 245, [.inr (.inr (.inl 1)), .inl (ck_one 126), .inr (.inr (.inl 245))], ([], [], [(201, 126, 126, ck_one 1)]), ([(245, 0, 0)], []), [(.inr (some (.inl (ck_one 0))), 245, ([], [], [(245, 0, 0, ck_one 1)]))])
set_option maxRecDepth 100000 in
theorem p5y2_1028_e : ck_ok p1_O none [] [(128, [p5y2_1027])] 127 [] 90 p5y2_1028 = true := by decide +kernel
theorem p5y2_1028_s {X : Int → Int} {LX : Nat} : ck_Ok p1_O X LX 127 p5y2_1028 := ck_ok_s (ck_E1 (ck_S1 p5y2_1027_s ck_S0) ck_E0) ck_X0 ck_l0 p5y2_1028_e
set_option maxRecDepth 100000 in
def p5y2_1032 : ck_Sum := ((0, 0, 0), 245, [.inr (.inr (.inl 1)), .inl (ck_one 127)], ([], [], []), ([], []), [(.inr none, 245, ([], [], []))])
set_option maxRecDepth 100000 in
theorem p5y2_1032_e : ck_ok p1_O none [] [] 129 [] 82 p5y2_1032 = true := by decide +kernel
theorem p5y2_1032_s {X : Int → Int} {LX : Nat} : ck_Ok p1_O X LX 129 p5y2_1032 := ck_ok_s (ck_E0) ck_X0 ck_l0 p5y2_1032_e
set_option maxRecDepth 100000 in
def p5y2_1033 : ck_Sum := ((0, 0, 0), 245, [.inr (.inr (.inl 200)), .inl (ck_one 127)], ([], [], [(201, 127, 127, ck_one 9)]), ([], []), [(.inr (some (.inl (ck_one 9))), 245, ([], [], []))])
set_option maxRecDepth 100000 in
theorem p5y2_1033_e : ck_ok p1_O none [] [] 34 [] 92 p5y2_1033 = true := by decide +kernel
theorem p5y2_1033_s {X : Int → Int} {LX : Nat} : ck_Ok p1_O X LX 34 p5y2_1033 := ck_ok_s (ck_E0) ck_X0 ck_l0 p5y2_1033_e
set_option maxRecDepth 100000 in
def p5y2_1034 : ck_Sum := ((1, 0, 0), 245, [.inr (.inr (.inl 1)), .inl (ck_one 127)], ([], [], [(201, 127, 127, ck_one 9)]), ([], []), [(.inr (some (.inl (ck_one 9))), 245, ([], [], []))])
set_option maxRecDepth 100000 in
theorem p5y2_1034_e : ck_ok p1_O none [] [(129, [p5y2_1032]), (34, [p5y2_1033])] 128 [] 86 p5y2_1034 = true := by decide +kernel
theorem p5y2_1034_s {X : Int → Int} {LX : Nat} : ck_Ok p1_O X LX 128 p5y2_1034 := ck_ok_s (ck_E1 (ck_S1 p5y2_1032_s ck_S0) (ck_E1 (ck_S1 p5y2_1033_s ck_S0) ck_E0)) ck_X0 ck_l0 p5y2_1034_e
set_option maxRecDepth 100000 in
def p5y2_1035 : ck_Sum := ((2, 0, 0), 245, [.inr (.inr (.inl 1)), .inl (ck_one 127), .inr (.inr (.inl 245))], ([], [], [(201, 127, 127, ck_one 9)]), ([(245, 0, 0)], []), [(.inr (some (.inl (ck_one 0))), 245, ([], [], [(245, 0, 0, ck_one 9)]))])
set_option maxRecDepth 100000 in
theorem p5y2_1035_e : ck_ok p1_O none [] [(128, [p5y2_1034])] 127 [] 90 p5y2_1035 = true := by decide +kernel
theorem p5y2_1035_s {X : Int → Int} {LX : Nat} : ck_Ok p1_O X LX 127 p5y2_1035 := ck_ok_s (ck_E1 (ck_S1 p5y2_1034_s ck_S0) ck_E0) ck_X0 ck_l0 p5y2_1035_e
set_option maxRecDepth 100000 in
def p5y2_1039 : ck_Sum := ((0, 0, 0), 245, [.inr (.inr (.inl 1)), .inl (ck_one 128)], ([], [], []), ([], []), [(.inr none, 245, ([], [], []))])
set_option maxRecDepth 100000 in
theorem p5y2_1039_e : ck_ok p1_O none [] [] 129 [] 82 p5y2_1039 = true := by decide +kernel
theorem p5y2_1039_s {X : Int → Int} {LX : Nat} : ck_Ok p1_O X LX 129 p5y2_1039 := ck_ok_s (ck_E0) ck_X0 ck_l0 p5y2_1039_e
set_option maxRecDepth 100000 in
def p5y2_1040 : ck_Sum := ((0, 0, 0), 245, [.inr (.inr (.inl 200)), .inl (ck_one 128)], ([], [], [(201, 128, 128, ck_one 6)]), ([], []), [(.inr (some (.inl (ck_one 6))), 245, ([], [], []))])
set_option maxRecDepth 100000 in
theorem p5y2_1040_e : ck_ok p1_O none [] [] 34 [] 92 p5y2_1040 = true := by decide +kernel
theorem p5y2_1040_s {X : Int → Int} {LX : Nat} : ck_Ok p1_O X LX 34 p5y2_1040 := ck_ok_s (ck_E0) ck_X0 ck_l0 p5y2_1040_e
set_option maxRecDepth 100000 in
def p5y2_1041 : ck_Sum := ((1, 0, 0), 245, [.inr (.inr (.inl 1)), .inl (ck_one 128)], ([], [], [(201, 128, 128, ck_one 6)]), ([], []), [(.inr (some (.inl (ck_one 6))), 245, ([], [], []))])
set_option maxRecDepth 100000 in
theorem p5y2_1041_e : ck_ok p1_O none [] [(129, [p5y2_1039]), (34, [p5y2_1040])] 128 [] 86 p5y2_1041 = true := by decide +kernel
theorem p5y2_1041_s {X : Int → Int} {LX : Nat} : ck_Ok p1_O X LX 128 p5y2_1041 := ck_ok_s (ck_E1 (ck_S1 p5y2_1039_s ck_S0) (ck_E1 (ck_S1 p5y2_1040_s ck_S0) ck_E0)) ck_X0 ck_l0 p5y2_1041_e
set_option maxRecDepth 100000 in
def p5y2_1042 : ck_Sum := ((2, 0, 0), 245, [.inr (.inr (.inl 1)), .inl (ck_one 128), .inr (.inr (.inl 245))], ([], [], [(201, 128, 128, ck_one 6)]), ([(245, 0, 0)], []), [(.inr (some (.inl (ck_one 0))), 245, ([], [], [(245, 0, 0, ck_one 6)]))])
set_option maxRecDepth 100000 in
theorem p5y2_1042_e : ck_ok p1_O none [] [(128, [p5y2_1041])] 127 [] 90 p5y2_1042 = true := by decide +kernel
theorem p5y2_1042_s {X : Int → Int} {LX : Nat} : ck_Ok p1_O X LX 127 p5y2_1042 := ck_ok_s (ck_E1 (ck_S1 p5y2_1041_s ck_S0) ck_E0) ck_X0 ck_l0 p5y2_1042_e
set_option maxRecDepth 100000 in
def p5y2_1046 : ck_Sum := ((0, 0, 0), 245, [.inr (.inr (.inl 1)), .inl (ck_one 129)], ([], [], []), ([], []), [(.inr none, 245, ([], [], []))])
set_option maxRecDepth 100000 in
theorem p5y2_1046_e : ck_ok p1_O none [] [] 129 [] 82 p5y2_1046 = true := by decide +kernel
theorem p5y2_1046_s {X : Int → Int} {LX : Nat} : ck_Ok p1_O X LX 129 p5y2_1046 := ck_ok_s (ck_E0) ck_X0 ck_l0 p5y2_1046_e
set_option maxRecDepth 100000 in
def p5y2_1047 : ck_Sum := ((0, 0, 0), 245, [.inr (.inr (.inl 200)), .inl (ck_one 129)], ([], [], [(201, 129, 129, ck_one 5)]), ([], []), [(.inr (some (.inl (ck_one 5))), 245, ([], [], []))])
set_option maxRecDepth 100000 in
theorem p5y2_1047_e : ck_ok p1_O none [] [] 34 [] 92 p5y2_1047 = true := by decide +kernel
theorem p5y2_1047_s {X : Int → Int} {LX : Nat} : ck_Ok p1_O X LX 34 p5y2_1047 := ck_ok_s (ck_E0) ck_X0 ck_l0 p5y2_1047_e
set_option maxRecDepth 100000 in
def p5y2_1048 : ck_Sum := ((1, 0, 0), 245, [.inr (.inr (.inl 1)), .inl (ck_one 129)], ([], [], [(201, 129, 129, ck_one 5)]), ([], []), [(.inr (some (.inl (ck_one 5))), 245, ([], [], []))])
set_option maxRecDepth 100000 in
theorem p5y2_1048_e : ck_ok p1_O none [] [(129, [p5y2_1046]), (34, [p5y2_1047])] 128 [] 86 p5y2_1048 = true := by decide +kernel
theorem p5y2_1048_s {X : Int → Int} {LX : Nat} : ck_Ok p1_O X LX 128 p5y2_1048 := ck_ok_s (ck_E1 (ck_S1 p5y2_1046_s ck_S0) (ck_E1 (ck_S1 p5y2_1047_s ck_S0) ck_E0)) ck_X0 ck_l0 p5y2_1048_e
set_option maxRecDepth 100000 in
def p5y2_1049 : ck_Sum := ((2, 0, 0), 245, [.inr (.inr (.inl 1)), .inl (ck_one 129), .inr (.inr (.inl 245))], ([], [], [(201, 129, 129, ck_one 5)]), ([(245, 0, 0)], []), [(.inr (some (.inl (ck_one 0))), 245, ([], [], [(245, 0, 0, ck_one 5)]))])
set_option maxRecDepth 100000 in
theorem p5y2_1049_e : ck_ok p1_O none [] [(128, [p5y2_1048])] 127 [] 90 p5y2_1049 = true := by decide +kernel
theorem p5y2_1049_s {X : Int → Int} {LX : Nat} : ck_Ok p1_O X LX 127 p5y2_1049 := ck_ok_s (ck_E1 (ck_S1 p5y2_1048_s ck_S0) ck_E0) ck_X0 ck_l0 p5y2_1049_e
set_option maxRecDepth 100000 in
def p5y2_1053 : ck_Sum := ((0, 0, 0), 245, [.inr (.inr (.inl 1)), .inl (ck_one 130)], ([], [], []), ([], []), [(.inr none, 245, ([], [], []))])
set_option maxRecDepth 100000 in
theorem p5y2_1053_e : ck_ok p1_O none [] [] 129 [] 82 p5y2_1053 = true := by decide +kernel
theorem p5y2_1053_s {X : Int → Int} {LX : Nat} : ck_Ok p1_O X LX 129 p5y2_1053 := ck_ok_s (ck_E0) ck_X0 ck_l0 p5y2_1053_e
set_option maxRecDepth 100000 in
def p5y2_1054 : ck_Sum := ((0, 0, 0), 245, [.inr (.inr (.inl 200)), .inl (ck_one 130)], ([], [], [(201, 130, 130, ck_one 5)]), ([], []), [(.inr (some (.inl (ck_one 5))), 245, ([], [], []))])
set_option maxRecDepth 100000 in
theorem p5y2_1054_e : ck_ok p1_O none [] [] 34 [] 92 p5y2_1054 = true := by decide +kernel
theorem p5y2_1054_s {X : Int → Int} {LX : Nat} : ck_Ok p1_O X LX 34 p5y2_1054 := ck_ok_s (ck_E0) ck_X0 ck_l0 p5y2_1054_e
set_option maxRecDepth 100000 in
def p5y2_1055 : ck_Sum := ((1, 0, 0), 245, [.inr (.inr (.inl 1)), .inl (ck_one 130)], ([], [], [(201, 130, 130, ck_one 5)]), ([], []), [(.inr (some (.inl (ck_one 5))), 245, ([], [], []))])
set_option maxRecDepth 100000 in
theorem p5y2_1055_e : ck_ok p1_O none [] [(129, [p5y2_1053]), (34, [p5y2_1054])] 128 [] 86 p5y2_1055 = true := by decide +kernel
theorem p5y2_1055_s {X : Int → Int} {LX : Nat} : ck_Ok p1_O X LX 128 p5y2_1055 := ck_ok_s (ck_E1 (ck_S1 p5y2_1053_s ck_S0) (ck_E1 (ck_S1 p5y2_1054_s ck_S0) ck_E0)) ck_X0 ck_l0 p5y2_1055_e
set_option maxRecDepth 100000 in
def p5y2_1056 : ck_Sum := ((2, 0, 0), 245, [.inr (.inr (.inl 1)), .inl (ck_one 130), .inr (.inr (.inl 245))], ([], [], [(201, 130, 130, ck_one 5)]), ([(245, 0, 0)], []), [(.inr (some (.inl (ck_one 0))), 245, ([], [], [(245, 0, 0, ck_one 5)]))])
set_option maxRecDepth 100000 in
theorem p5y2_1056_e : ck_ok p1_O none [] [(128, [p5y2_1055])] 127 [] 90 p5y2_1056 = true := by decide +kernel
theorem p5y2_1056_s {X : Int → Int} {LX : Nat} : ck_Ok p1_O X LX 127 p5y2_1056 := ck_ok_s (ck_E1 (ck_S1 p5y2_1055_s ck_S0) ck_E0) ck_X0 ck_l0 p5y2_1056_e
set_option maxRecDepth 100000 in
def p5y2_1060 : ck_Sum := ((0, 0, 0), 245, [.inr (.inr (.inl 1)), .inl (ck_one 131)], ([], [], []), ([], []), [(.inr none, 245, ([], [], []))])
set_option maxRecDepth 100000 in
theorem p5y2_1060_e : ck_ok p1_O none [] [] 129 [] 82 p5y2_1060 = true := by decide +kernel
theorem p5y2_1060_s {X : Int → Int} {LX : Nat} : ck_Ok p1_O X LX 129 p5y2_1060 := ck_ok_s (ck_E0) ck_X0 ck_l0 p5y2_1060_e
set_option maxRecDepth 100000 in
def p5y2_1061 : ck_Sum := ((0, 0, 0), 245, [.inr (.inr (.inl 200)), .inl (ck_one 131)], ([], [], [(201, 131, 131, ck_one 2)]), ([], []), [(.inr (some (.inl (ck_one 2))), 245, ([], [], []))])
set_option maxRecDepth 100000 in
theorem p5y2_1061_e : ck_ok p1_O none [] [] 34 [] 92 p5y2_1061 = true := by decide +kernel
theorem p5y2_1061_s {X : Int → Int} {LX : Nat} : ck_Ok p1_O X LX 34 p5y2_1061 := ck_ok_s (ck_E0) ck_X0 ck_l0 p5y2_1061_e
set_option maxRecDepth 100000 in
def p5y2_1062 : ck_Sum := ((1, 0, 0), 245, [.inr (.inr (.inl 1)), .inl (ck_one 131)], ([], [], [(201, 131, 131, ck_one 2)]), ([], []), [(.inr (some (.inl (ck_one 2))), 245, ([], [], []))])
set_option maxRecDepth 100000 in
theorem p5y2_1062_e : ck_ok p1_O none [] [(129, [p5y2_1060]), (34, [p5y2_1061])] 128 [] 86 p5y2_1062 = true := by decide +kernel
theorem p5y2_1062_s {X : Int → Int} {LX : Nat} : ck_Ok p1_O X LX 128 p5y2_1062 := ck_ok_s (ck_E1 (ck_S1 p5y2_1060_s ck_S0) (ck_E1 (ck_S1 p5y2_1061_s ck_S0) ck_E0)) ck_X0 ck_l0 p5y2_1062_e
set_option maxRecDepth 100000 in
def p5y2_1063 : ck_Sum := ((2, 0, 0), 245, [.inr (.inr (.inl 1)), .inl (ck_one 131), .inr (.inr (.inl 245))], ([], [], [(201, 131, 131, ck_one 2)]), ([(245, 0, 0)], []), [(.inr (some (.inl (ck_one 0))), 245, ([], [], [(245, 0, 0, ck_one 2)]))])
set_option maxRecDepth 100000 in
theorem p5y2_1063_e : ck_ok p1_O none [] [(128, [p5y2_1062])] 127 [] 90 p5y2_1063 = true := by decide +kernel
theorem p5y2_1063_s {X : Int → Int} {LX : Nat} : ck_Ok p1_O X LX 127 p5y2_1063 := ck_ok_s (ck_E1 (ck_S1 p5y2_1062_s ck_S0) ck_E0) ck_X0 ck_l0 p5y2_1063_e
set_option maxRecDepth 100000 in
def p5y2_1067 : ck_Sum := ((0, 0, 0), 245, [.inr (.inr (.inl 1)), .inl (ck_one 132)], ([], [], []), ([], []), [(.inr none, 245, ([], [], []))])
set_option maxRecDepth 100000 in
theorem p5y2_1067_e : ck_ok p1_O none [] [] 129 [] 82 p5y2_1067 = true := by decide +kernel
theorem p5y2_1067_s {X : Int → Int} {LX : Nat} : ck_Ok p1_O X LX 129 p5y2_1067 := ck_ok_s (ck_E0) ck_X0 ck_l0 p5y2_1067_e
set_option maxRecDepth 100000 in
def p5y2_1068 : ck_Sum := ((0, 0, 0), 245, [.inr (.inr (.inl 200)), .inl (ck_one 132)], ([], [], [(201, 132, 132, ck_one 0)]), ([], []), [(.inr (some (.inl (ck_one 0))), 245, ([], [], []))])
set_option maxRecDepth 100000 in
theorem p5y2_1068_e : ck_ok p1_O none [] [] 34 [] 92 p5y2_1068 = true := by decide +kernel
theorem p5y2_1068_s {X : Int → Int} {LX : Nat} : ck_Ok p1_O X LX 34 p5y2_1068 := ck_ok_s (ck_E0) ck_X0 ck_l0 p5y2_1068_e
set_option maxRecDepth 100000 in
def p5y2_1069 : ck_Sum := ((1, 0, 0), 245, [.inr (.inr (.inl 1)), .inl (ck_one 132)], ([], [], [(201, 132, 132, ck_one 0)]), ([], []), [(.inr (some (.inl (ck_one 0))), 245, ([], [], []))])
set_option maxRecDepth 100000 in
theorem p5y2_1069_e : ck_ok p1_O none [] [(129, [p5y2_1067]), (34, [p5y2_1068])] 128 [] 86 p5y2_1069 = true := by decide +kernel
theorem p5y2_1069_s {X : Int → Int} {LX : Nat} : ck_Ok p1_O X LX 128 p5y2_1069 := ck_ok_s (ck_E1 (ck_S1 p5y2_1067_s ck_S0) (ck_E1 (ck_S1 p5y2_1068_s ck_S0) ck_E0)) ck_X0 ck_l0 p5y2_1069_e
set_option maxRecDepth 100000 in
def p5y2_1070 : ck_Sum := ((2, 0, 0), 245, [.inr (.inr (.inl 1)), .inl (ck_one 132), .inr (.inr (.inl 245))], ([], [], [(201, 132, 132, ck_one 0)]), ([(245, 0, 0)], []), [(.inr (some (.inl (ck_one 0))), 245, ([], [], [(245, 0, 0, ck_one 0)]))])
set_option maxRecDepth 100000 in
theorem p5y2_1070_e : ck_ok p1_O none [] [(128, [p5y2_1069])] 127 [] 90 p5y2_1070 = true := by decide +kernel
theorem p5y2_1070_s {X : Int → Int} {LX : Nat} : ck_Ok p1_O X LX 127 p5y2_1070 := ck_ok_s (ck_E1 (ck_S1 p5y2_1069_s ck_S0) ck_E0) ck_X0 ck_l0 p5y2_1070_e
set_option maxRecDepth 100000 in
def p5y2_1074 : ck_Sum := ((0, 0, 0), 245, [.inr (.inr (.inl 1)), .inl (ck_one 133)], ([], [], []), ([], []), [(.inr none, 245, ([], [], []))])
set_option maxRecDepth 100000 in
theorem p5y2_1074_e : ck_ok p1_O none [] [] 129 [] 82 p5y2_1074 = true := by decide +kernel
theorem p5y2_1074_s {X : Int → Int} {LX : Nat} : ck_Ok p1_O X LX 129 p5y2_1074 := ck_ok_s (ck_E0) ck_X0 ck_l0 p5y2_1074_e
set_option maxRecDepth 100000 in
def p5y2_1075 : ck_Sum := ((0, 0, 0), 245, [.inr (.inr (.inl 200)), .inl (ck_one 133)], ([], [], [(201, 133, 133, ck_one 0)]), ([], []), [(.inr (some (.inl (ck_one 0))), 245, ([], [], []))])
set_option maxRecDepth 100000 in
theorem p5y2_1075_e : ck_ok p1_O none [] [] 34 [] 92 p5y2_1075 = true := by decide +kernel
theorem p5y2_1075_s {X : Int → Int} {LX : Nat} : ck_Ok p1_O X LX 34 p5y2_1075 := ck_ok_s (ck_E0) ck_X0 ck_l0 p5y2_1075_e
set_option maxRecDepth 100000 in
def p5y2_1076 : ck_Sum := ((1, 0, 0), 245, [.inr (.inr (.inl 1)), .inl (ck_one 133)], ([], [], [(201, 133, 133, ck_one 0)]), ([], []), [(.inr (some (.inl (ck_one 0))), 245, ([], [], []))])
set_option maxRecDepth 100000 in
theorem p5y2_1076_e : ck_ok p1_O none [] [(129, [p5y2_1074]), (34, [p5y2_1075])] 128 [] 86 p5y2_1076 = true := by decide +kernel
theorem p5y2_1076_s {X : Int → Int} {LX : Nat} : ck_Ok p1_O X LX 128 p5y2_1076 := ck_ok_s (ck_E1 (ck_S1 p5y2_1074_s ck_S0) (ck_E1 (ck_S1 p5y2_1075_s ck_S0) ck_E0)) ck_X0 ck_l0 p5y2_1076_e
set_option maxRecDepth 100000 in
def p5y2_1077 : ck_Sum := ((2, 0, 0), 245, [.inr (.inr (.inl 1)), .inl (ck_one 133), .inr (.inr (.inl 245))], ([], [], [(201, 133, 133, ck_one 0)]), ([(245, 0, 0)], []), [(.inr (some (.inl (ck_one 0))), 245, ([], [], [(245, 0, 0, ck_one 0)]))])
set_option maxRecDepth 100000 in
theorem p5y2_1077_e : ck_ok p1_O none [] [(128, [p5y2_1076])] 127 [] 90 p5y2_1077 = true := by decide +kernel
theorem p5y2_1077_s {X : Int → Int} {LX : Nat} : ck_Ok p1_O X LX 127 p5y2_1077 := ck_ok_s (ck_E1 (ck_S1 p5y2_1076_s ck_S0) ck_E0) ck_X0 ck_l0 p5y2_1077_e
set_option maxRecDepth 100000 in
def p5y2_1081 : ck_Sum := ((0, 0, 0), 245, [.inr (.inr (.inl 1)), .inl (ck_one 134)], ([], [], []), ([], []), [(.inr none, 245, ([], [], []))])
set_option maxRecDepth 100000 in
theorem p5y2_1081_e : ck_ok p1_O none [] [] 129 [] 82 p5y2_1081 = true := by decide +kernel
theorem p5y2_1081_s {X : Int → Int} {LX : Nat} : ck_Ok p1_O X LX 129 p5y2_1081 := ck_ok_s (ck_E0) ck_X0 ck_l0 p5y2_1081_e
set_option maxRecDepth 100000 in
def p5y2_1082 : ck_Sum := ((0, 0, 0), 245, [.inr (.inr (.inl 200)), .inl (ck_one 134)], ([], [], [(201, 134, 134, ck_one 2)]), ([], []), [(.inr (some (.inl (ck_one 2))), 245, ([], [], []))])
set_option maxRecDepth 100000 in
theorem p5y2_1082_e : ck_ok p1_O none [] [] 34 [] 92 p5y2_1082 = true := by decide +kernel
theorem p5y2_1082_s {X : Int → Int} {LX : Nat} : ck_Ok p1_O X LX 34 p5y2_1082 := ck_ok_s (ck_E0) ck_X0 ck_l0 p5y2_1082_e
set_option maxRecDepth 100000 in
def p5y2_1083 : ck_Sum := ((1, 0, 0), 245, [.inr (.inr (.inl 1)), .inl (ck_one 134)], ([], [], [(201, 134, 134, ck_one 2)]), ([], []), [(.inr (some (.inl (ck_one 2))), 245, ([], [], []))])
set_option maxRecDepth 100000 in
theorem p5y2_1083_e : ck_ok p1_O none [] [(129, [p5y2_1081]), (34, [p5y2_1082])] 128 [] 86 p5y2_1083 = true := by decide +kernel
theorem p5y2_1083_s {X : Int → Int} {LX : Nat} : ck_Ok p1_O X LX 128 p5y2_1083 := ck_ok_s (ck_E1 (ck_S1 p5y2_1081_s ck_S0) (ck_E1 (ck_S1 p5y2_1082_s ck_S0) ck_E0)) ck_X0 ck_l0 p5y2_1083_e
set_option maxRecDepth 100000 in
def p5y2_1084 : ck_Sum := ((2, 0, 0), 245, [.inr (.inr (.inl 1)), .inl (ck_one 134), .inr (.inr (.inl 245))], ([], [], [(201, 134, 134, ck_one 2)]), ([(245, 0, 0)], []), [(.inr (some (.inl (ck_one 0))), 245, ([], [], [(245, 0, 0, ck_one 2)]))])
set_option maxRecDepth 100000 in
theorem p5y2_1084_e : ck_ok p1_O none [] [(128, [p5y2_1083])] 127 [] 90 p5y2_1084 = true := by decide +kernel
theorem p5y2_1084_s {X : Int → Int} {LX : Nat} : ck_Ok p1_O X LX 127 p5y2_1084 := ck_ok_s (ck_E1 (ck_S1 p5y2_1083_s ck_S0) ck_E0) ck_X0 ck_l0 p5y2_1084_e
set_option maxRecDepth 100000 in
def p5y2_1088 : ck_Sum := ((0, 0, 0), 245, [.inr (.inr (.inl 1)), .inl (ck_one 135)], ([], [], []), ([], []), [(.inr none, 245, ([], [], []))])
set_option maxRecDepth 100000 in
theorem p5y2_1088_e : ck_ok p1_O none [] [] 129 [] 82 p5y2_1088 = true := by decide +kernel
theorem p5y2_1088_s {X : Int → Int} {LX : Nat} : ck_Ok p1_O X LX 129 p5y2_1088 := ck_ok_s (ck_E0) ck_X0 ck_l0 p5y2_1088_e
set_option maxRecDepth 100000 in
def p5y2_1089 : ck_Sum := ((0, 0, 0), 245, [.inr (.inr (.inl 200)), .inl (ck_one 135)], ([], [], [(201, 135, 135, ck_one 5)]), ([], []), [(.inr (some (.inl (ck_one 5))), 245, ([], [], []))])
set_option maxRecDepth 100000 in
theorem p5y2_1089_e : ck_ok p1_O none [] [] 34 [] 92 p5y2_1089 = true := by decide +kernel
theorem p5y2_1089_s {X : Int → Int} {LX : Nat} : ck_Ok p1_O X LX 34 p5y2_1089 := ck_ok_s (ck_E0) ck_X0 ck_l0 p5y2_1089_e
set_option maxRecDepth 100000 in
def p5y2_1090 : ck_Sum := ((1, 0, 0), 245, [.inr (.inr (.inl 1)), .inl (ck_one 135)], ([], [], [(201, 135, 135, ck_one 5)]), ([], []), [(.inr (some (.inl (ck_one 5))), 245, ([], [], []))])
set_option maxRecDepth 100000 in
theorem p5y2_1090_e : ck_ok p1_O none [] [(129, [p5y2_1088]), (34, [p5y2_1089])] 128 [] 86 p5y2_1090 = true := by decide +kernel
theorem p5y2_1090_s {X : Int → Int} {LX : Nat} : ck_Ok p1_O X LX 128 p5y2_1090 := ck_ok_s (ck_E1 (ck_S1 p5y2_1088_s ck_S0) (ck_E1 (ck_S1 p5y2_1089_s ck_S0) ck_E0)) ck_X0 ck_l0 p5y2_1090_e
set_option maxRecDepth 100000 in
def p5y2_1091 : ck_Sum := ((2, 0, 0), 245, [.inr (.inr (.inl 1)), .inl (ck_one 135), .inr (.inr (.inl 245))], ([], [], [(201, 135, 135, ck_one 5)]), ([(245, 0, 0)], []), [(.inr (some (.inl (ck_one 0))), 245, ([], [], [(245, 0, 0, ck_one 5)]))])
set_option maxRecDepth 100000 in
theorem p5y2_1091_e : ck_ok p1_O none [] [(128, [p5y2_1090])] 127 [] 90 p5y2_1091 = true := by decide +kernel
theorem p5y2_1091_s {X : Int → Int} {LX : Nat} : ck_Ok p1_O X LX 127 p5y2_1091 := ck_ok_s (ck_E1 (ck_S1 p5y2_1090_s ck_S0) ck_E0) ck_X0 ck_l0 p5y2_1091_e
set_option maxRecDepth 100000 in
def p5y2_1095 : ck_Sum := ((0, 0, 0), 245, [.inr (.inr (.inl 1)), .inl (ck_one 136)], ([], [], []), ([], []), [(.inr none, 245, ([], [], []))])
set_option maxRecDepth 100000 in
theorem p5y2_1095_e : ck_ok p1_O none [] [] 129 [] 82 p5y2_1095 = true := by decide +kernel
theorem p5y2_1095_s {X : Int → Int} {LX : Nat} : ck_Ok p1_O X LX 129 p5y2_1095 := ck_ok_s (ck_E0) ck_X0 ck_l0 p5y2_1095_e
set_option maxRecDepth 100000 in
def p5y2_1096 : ck_Sum := ((0, 0, 0), 245, [.inr (.inr (.inl 200)), .inl (ck_one 136)], ([], [], [(201, 136, 136, ck_one 0)]), ([], []), [(.inr (some (.inl (ck_one 0))), 245, ([], [], []))])
set_option maxRecDepth 100000 in
theorem p5y2_1096_e : ck_ok p1_O none [] [] 34 [] 92 p5y2_1096 = true := by decide +kernel
theorem p5y2_1096_s {X : Int → Int} {LX : Nat} : ck_Ok p1_O X LX 34 p5y2_1096 := ck_ok_s (ck_E0) ck_X0 ck_l0 p5y2_1096_e
set_option maxRecDepth 100000 in
def p5y2_1097 : ck_Sum := ((1, 0, 0), 245, [.inr (.inr (.inl 1)), .inl (ck_one 136)], ([], [], [(201, 136, 136, ck_one 0)]), ([], []), [(.inr (some (.inl (ck_one 0))), 245, ([], [], []))])
set_option maxRecDepth 100000 in
theorem p5y2_1097_e : ck_ok p1_O none [] [(129, [p5y2_1095]), (34, [p5y2_1096])] 128 [] 86 p5y2_1097 = true := by decide +kernel
theorem p5y2_1097_s {X : Int → Int} {LX : Nat} : ck_Ok p1_O X LX 128 p5y2_1097 := ck_ok_s (ck_E1 (ck_S1 p5y2_1095_s ck_S0) (ck_E1 (ck_S1 p5y2_1096_s ck_S0) ck_E0)) ck_X0 ck_l0 p5y2_1097_e
set_option maxRecDepth 100000 in
def p5y2_1098 : ck_Sum := ((2, 0, 0), 245, [.inr (.inr (.inl 1)), .inl (ck_one 136), .inr (.inr (.inl 245))], ([], [], [(201, 136, 136, ck_one 0)]), ([(245, 0, 0)], []), [(.inr (some (.inl (ck_one 0))), 245, ([], [], [(245, 0, 0, ck_one 0)]))])
set_option maxRecDepth 100000 in
theorem p5y2_1098_e : ck_ok p1_O none [] [(128, [p5y2_1097])] 127 [] 90 p5y2_1098 = true := by decide +kernel
theorem p5y2_1098_s {X : Int → Int} {LX : Nat} : ck_Ok p1_O X LX 127 p5y2_1098 := ck_ok_s (ck_E1 (ck_S1 p5y2_1097_s ck_S0) ck_E0) ck_X0 ck_l0 p5y2_1098_e
set_option maxRecDepth 100000 in
def p5y2_1102 : ck_Sum := ((0, 0, 0), 245, [.inr (.inr (.inl 1)), .inl (ck_one 137)], ([], [], []), ([], []), [(.inr none, 245, ([], [], []))])
set_option maxRecDepth 100000 in
theorem p5y2_1102_e : ck_ok p1_O none [] [] 129 [] 82 p5y2_1102 = true := by decide +kernel
theorem p5y2_1102_s {X : Int → Int} {LX : Nat} : ck_Ok p1_O X LX 129 p5y2_1102 := ck_ok_s (ck_E0) ck_X0 ck_l0 p5y2_1102_e
set_option maxRecDepth 100000 in
def p5y2_1103 : ck_Sum := ((0, 0, 0), 245, [.inr (.inr (.inl 200)), .inl (ck_one 137)], ([], [], [(201, 137, 137, ck_one 0)]), ([], []), [(.inr (some (.inl (ck_one 0))), 245, ([], [], []))])
set_option maxRecDepth 100000 in
theorem p5y2_1103_e : ck_ok p1_O none [] [] 34 [] 92 p5y2_1103 = true := by decide +kernel
theorem p5y2_1103_s {X : Int → Int} {LX : Nat} : ck_Ok p1_O X LX 34 p5y2_1103 := ck_ok_s (ck_E0) ck_X0 ck_l0 p5y2_1103_e
set_option maxRecDepth 100000 in
def p5y2_1104 : ck_Sum := ((1, 0, 0), 245, [.inr (.inr (.inl 1)), .inl (ck_one 137)], ([], [], [(201, 137, 137, ck_one 0)]), ([], []), [(.inr (some (.inl (ck_one 0))), 245, ([], [], []))])
set_option maxRecDepth 100000 in
theorem p5y2_1104_e : ck_ok p1_O none [] [(129, [p5y2_1102]), (34, [p5y2_1103])] 128 [] 86 p5y2_1104 = true := by decide +kernel
theorem p5y2_1104_s {X : Int → Int} {LX : Nat} : ck_Ok p1_O X LX 128 p5y2_1104 := ck_ok_s (ck_E1 (ck_S1 p5y2_1102_s ck_S0) (ck_E1 (ck_S1 p5y2_1103_s ck_S0) ck_E0)) ck_X0 ck_l0 p5y2_1104_e
set_option maxRecDepth 100000 in
def p5y2_1105 : ck_Sum := ((2, 0, 0), 245, [.inr (.inr (.inl 1)), .inl (ck_one 137), .inr (.inr (.inl 245))], ([], [], [(201, 137, 137, ck_one 0)]), ([(245, 0, 0)], []), [(.inr (some (.inl (ck_one 0))), 245, ([], [], [(245, 0, 0, ck_one 0)]))])
set_option maxRecDepth 100000 in
theorem p5y2_1105_e : ck_ok p1_O none [] [(128, [p5y2_1104])] 127 [] 90 p5y2_1105 = true := by decide +kernel
theorem p5y2_1105_s {X : Int → Int} {LX : Nat} : ck_Ok p1_O X LX 127 p5y2_1105 := ck_ok_s (ck_E1 (ck_S1 p5y2_1104_s ck_S0) ck_E0) ck_X0 ck_l0 p5y2_1105_e
set_option maxRecDepth 100000 in
def p5y2_1109 : ck_Sum := ((0, 0, 0), 245, [.inr (.inr (.inl 1)), .inl (ck_one 138)], ([], [], []), ([], []), [(.inr none, 245, ([], [], []))])
set_option maxRecDepth 100000 in
theorem p5y2_1109_e : ck_ok p1_O none [] [] 129 [] 82 p5y2_1109 = true := by decide +kernel
theorem p5y2_1109_s {X : Int → Int} {LX : Nat} : ck_Ok p1_O X LX 129 p5y2_1109 := ck_ok_s (ck_E0) ck_X0 ck_l0 p5y2_1109_e
set_option maxRecDepth 100000 in
def p5y2_1110 : ck_Sum := ((0, 0, 0), 245, [.inr (.inr (.inl 200)), .inl (ck_one 138)], ([], [], [(201, 138, 138, ck_one 9)]), ([], []), [(.inr (some (.inl (ck_one 9))), 245, ([], [], []))])
set_option maxRecDepth 100000 in
theorem p5y2_1110_e : ck_ok p1_O none [] [] 34 [] 92 p5y2_1110 = true := by decide +kernel
theorem p5y2_1110_s {X : Int → Int} {LX : Nat} : ck_Ok p1_O X LX 34 p5y2_1110 := ck_ok_s (ck_E0) ck_X0 ck_l0 p5y2_1110_e
set_option maxRecDepth 100000 in
def p5y2_1111 : ck_Sum := ((1, 0, 0), 245, [.inr (.inr (.inl 1)), .inl (ck_one 138)], ([], [], [(201, 138, 138, ck_one 9)]), ([], []), [(.inr (some (.inl (ck_one 9))), 245, ([], [], []))])
set_option maxRecDepth 100000 in
theorem p5y2_1111_e : ck_ok p1_O none [] [(129, [p5y2_1109]), (34, [p5y2_1110])] 128 [] 86 p5y2_1111 = true := by decide +kernel
theorem p5y2_1111_s {X : Int → Int} {LX : Nat} : ck_Ok p1_O X LX 128 p5y2_1111 := ck_ok_s (ck_E1 (ck_S1 p5y2_1109_s ck_S0) (ck_E1 (ck_S1 p5y2_1110_s ck_S0) ck_E0)) ck_X0 ck_l0 p5y2_1111_e
set_option maxRecDepth 100000 in
def p5y2_1112 : ck_Sum := ((2, 0, 0), 245, [.inr (.inr (.inl 1)), .inl (ck_one 138), .inr (.inr (.inl 245))], ([], [], [(201, 138, 138, ck_one 9)]), ([(245, 0, 0)], []), [(.inr (some (.inl (ck_one 0))), 245, ([], [], [(245, 0, 0, ck_one 9)]))])
set_option maxRecDepth 100000 in
theorem p5y2_1112_e : ck_ok p1_O none [] [(128, [p5y2_1111])] 127 [] 90 p5y2_1112 = true := by decide +kernel
theorem p5y2_1112_s {X : Int → Int} {LX : Nat} : ck_Ok p1_O X LX 127 p5y2_1112 := ck_ok_s (ck_E1 (ck_S1 p5y2_1111_s ck_S0) ck_E0) ck_X0 ck_l0 p5y2_1112_e
set_option maxRecDepth 100000 in
def p5y2_1116 : ck_Sum := ((0, 0, 0), 245, [.inr (.inr (.inl 1)), .inl (ck_one 139)], ([], [], []), ([], []), [(.inr none, 245, ([], [], []))])
set_option maxRecDepth 100000 in
theorem p5y2_1116_e : ck_ok p1_O none [] [] 129 [] 82 p5y2_1116 = true := by decide +kernel
theorem p5y2_1116_s {X : Int → Int} {LX : Nat} : ck_Ok p1_O X LX 129 p5y2_1116 := ck_ok_s (ck_E0) ck_X0 ck_l0 p5y2_1116_e
set_option maxRecDepth 100000 in
def p5y2_1117 : ck_Sum := ((0, 0, 0), 245, [.inr (.inr (.inl 200)), .inl (ck_one 139)], ([], [], [(201, 139, 139, ck_one 4)]), ([], []), [(.inr (some (.inl (ck_one 4))), 245, ([], [], []))])
set_option maxRecDepth 100000 in
theorem p5y2_1117_e : ck_ok p1_O none [] [] 34 [] 92 p5y2_1117 = true := by decide +kernel
theorem p5y2_1117_s {X : Int → Int} {LX : Nat} : ck_Ok p1_O X LX 34 p5y2_1117 := ck_ok_s (ck_E0) ck_X0 ck_l0 p5y2_1117_e
set_option maxRecDepth 100000 in
def p5y2_1118 : ck_Sum := ((1, 0, 0), 245, [.inr (.inr (.inl 1)), .inl (ck_one 139)], ([], [], [(201, 139, 139, ck_one 4)]), ([], []), [(.inr (some (.inl (ck_one 4))), 245, ([], [], []))])
set_option maxRecDepth 100000 in
theorem p5y2_1118_e : ck_ok p1_O none [] [(129, [p5y2_1116]), (34, [p5y2_1117])] 128 [] 86 p5y2_1118 = true := by decide +kernel
theorem p5y2_1118_s {X : Int → Int} {LX : Nat} : ck_Ok p1_O X LX 128 p5y2_1118 := ck_ok_s (ck_E1 (ck_S1 p5y2_1116_s ck_S0) (ck_E1 (ck_S1 p5y2_1117_s ck_S0) ck_E0)) ck_X0 ck_l0 p5y2_1118_e
set_option maxRecDepth 100000 in
def p5y2_1119 : ck_Sum := ((2, 0, 0), 245, [.inr (.inr (.inl 1)), .inl (ck_one 139), .inr (.inr (.inl 245))], ([], [], [(201, 139, 139, ck_one 4)]), ([(245, 0, 0)], []), [(.inr (some (.inl (ck_one 0))), 245, ([], [], [(245, 0, 0, ck_one 4)]))])
set_option maxRecDepth 100000 in
theorem p5y2_1119_e : ck_ok p1_O none [] [(128, [p5y2_1118])] 127 [] 90 p5y2_1119 = true := by decide +kernel
theorem p5y2_1119_s {X : Int → Int} {LX : Nat} : ck_Ok p1_O X LX 127 p5y2_1119 := ck_ok_s (ck_E1 (ck_S1 p5y2_1118_s ck_S0) ck_E0) ck_X0 ck_l0 p5y2_1119_e
set_option maxRecDepth 100000 in
def p5y2_1123 : ck_Sum := ((0, 0, 0), 245, [.inr (.inr (.inl 1)), .inl (ck_one 140)], ([], [], []), ([], []), [(.inr none, 245, ([], [], []))])
set_option maxRecDepth 100000 in
theorem p5y2_1123_e : ck_ok p1_O none [] [] 129 [] 82 p5y2_1123 = true := by decide +kernel
theorem p5y2_1123_s {X : Int → Int} {LX : Nat} : ck_Ok p1_O X LX 129 p5y2_1123 := ck_ok_s (ck_E0) ck_X0 ck_l0 p5y2_1123_e
set_option maxRecDepth 100000 in
def p5y2_1124 : ck_Sum := ((0, 0, 0), 245, [.inr (.inr (.inl 200)), .inl (ck_one 140)], ([], [], [(201, 140, 140, ck_one 5)]), ([], []), [(.inr (some (.inl (ck_one 5))), 245, ([], [], []))])
set_option maxRecDepth 100000 in
theorem p5y2_1124_e : ck_ok p1_O none [] [] 34 [] 92 p5y2_1124 = true := by decide +kernel
theorem p5y2_1124_s {X : Int → Int} {LX : Nat} : ck_Ok p1_O X LX 34 p5y2_1124 := ck_ok_s (ck_E0) ck_X0 ck_l0 p5y2_1124_e
set_option maxRecDepth 100000 in
def p5y2_1125 : ck_Sum := ((1, 0, 0), 245, [.inr (.inr (.inl 1)), .inl (ck_one 140)], ([], [], [(201, 140, 140, ck_one 5)]), ([], []), [(.inr (some (.inl (ck_one 5))), 245, ([], [], []))])
set_option maxRecDepth 100000 in
theorem p5y2_1125_e : ck_ok p1_O none [] [(129, [p5y2_1123]), (34, [p5y2_1124])] 128 [] 86 p5y2_1125 = true := by decide +kernel
theorem p5y2_1125_s {X : Int → Int} {LX : Nat} : ck_Ok p1_O X LX 128 p5y2_1125 := ck_ok_s (ck_E1 (ck_S1 p5y2_1123_s ck_S0) (ck_E1 (ck_S1 p5y2_1124_s ck_S0) ck_E0)) ck_X0 ck_l0 p5y2_1125_e
set_option maxRecDepth 100000 in
def p5y2_1126 : ck_Sum := ((2, 0, 0), 245, [.inr (.inr (.inl 1)), .inl (ck_one 140), .inr (.inr (.inl 245))], ([], [], [(201, 140, 140, ck_one 5)]), ([(245, 0, 0)], []), [(.inr (some (.inl (ck_one 0))), 245, ([], [], [(245, 0, 0, ck_one 5)]))])
set_option maxRecDepth 100000 in
theorem p5y2_1126_e : ck_ok p1_O none [] [(128, [p5y2_1125])] 127 [] 90 p5y2_1126 = true := by decide +kernel
theorem p5y2_1126_s {X : Int → Int} {LX : Nat} : ck_Ok p1_O X LX 127 p5y2_1126 := ck_ok_s (ck_E1 (ck_S1 p5y2_1125_s ck_S0) ck_E0) ck_X0 ck_l0 p5y2_1126_e
set_option maxRecDepth 100000 in
def p5y2_1130 : ck_Sum := ((0, 0, 0), 245, [.inr (.inr (.inl 1)), .inl (ck_one 141)], ([], [], []), ([], []), [(.inr none, 245, ([], [], []))])
set_option maxRecDepth 100000 in
theorem p5y2_1130_e : ck_ok p1_O none [] [] 129 [] 82 p5y2_1130 = true := by decide +kernel
theorem p5y2_1130_s {X : Int → Int} {LX : Nat} : ck_Ok p1_O X LX 129 p5y2_1130 := ck_ok_s (ck_E0) ck_X0 ck_l0 p5y2_1130_e
set_option maxRecDepth 100000 in
def p5y2_1131 : ck_Sum := ((0, 0, 0), 245, [.inr (.inr (.inl 200)), .inl (ck_one 141)], ([], [], [(201, 141, 141, ck_one 5)]), ([], []), [(.inr (some (.inl (ck_one 5))), 245, ([], [], []))])
set_option maxRecDepth 100000 in
theorem p5y2_1131_e : ck_ok p1_O none [] [] 34 [] 92 p5y2_1131 = true := by decide +kernel
theorem p5y2_1131_s {X : Int → Int} {LX : Nat} : ck_Ok p1_O X LX 34 p5y2_1131 := ck_ok_s (ck_E0) ck_X0 ck_l0 p5y2_1131_e
set_option maxRecDepth 100000 in
def p5y2_1132 : ck_Sum := ((1, 0, 0), 245, [.inr (.inr (.inl 1)), .inl (ck_one 141)], ([], [], [(201, 141, 141, ck_one 5)]), ([], []), [(.inr (some (.inl (ck_one 5))), 245, ([], [], []))])
set_option maxRecDepth 100000 in
theorem p5y2_1132_e : ck_ok p1_O none [] [(129, [p5y2_1130]), (34, [p5y2_1131])] 128 [] 86 p5y2_1132 = true := by decide +kernel
theorem p5y2_1132_s {X : Int → Int} {LX : Nat} : ck_Ok p1_O X LX 128 p5y2_1132 := ck_ok_s (ck_E1 (ck_S1 p5y2_1130_s ck_S0) (ck_E1 (ck_S1 p5y2_1131_s ck_S0) ck_E0)) ck_X0 ck_l0 p5y2_1132_e
set_option maxRecDepth 100000 in
def p5y2_1133 : ck_Sum := ((2, 0, 0), 245, [.inr (.inr (.inl 1)), .inl (ck_one 141), .inr (.inr (.inl 245))], ([], [], [(201, 141, 141, ck_one 5)]), ([(245, 0, 0)], []), [(.inr (some (.inl (ck_one 0))), 245, ([], [], [(245, 0, 0, ck_one 5)]))])
set_option maxRecDepth 100000 in
theorem p5y2_1133_e : ck_ok p1_O none [] [(128, [p5y2_1132])] 127 [] 90 p5y2_1133 = true := by decide +kernel
theorem p5y2_1133_s {X : Int → Int} {LX : Nat} : ck_Ok p1_O X LX 127 p5y2_1133 := ck_ok_s (ck_E1 (ck_S1 p5y2_1132_s ck_S0) ck_E0) ck_X0 ck_l0 p5y2_1133_e
set_option maxRecDepth 100000 in
def p5y2_1137 : ck_Sum := ((0, 0, 0), 245, [.inr (.inr (.inl 1)), .inl (ck_one 142)], ([], [], []), ([], []), [(.inr none, 245, ([], [], []))])
set_option maxRecDepth 100000 in
theorem p5y2_1137_e : ck_ok p1_O none [] [] 129 [] 82 p5y2_1137 = true := by decide +kernel
theorem p5y2_1137_s {X : Int → Int} {LX : Nat} : ck_Ok p1_O X LX 129 p5y2_1137 := ck_ok_s (ck_E0) ck_X0 ck_l0 p5y2_1137_e
set_option maxRecDepth 100000 in
def p5y2_1138 : ck_Sum := ((0, 0, 0), 245, [.inr (.inr (.inl 200)), .inl (ck_one 142)], ([], [], [(201, 142, 142, ck_one 5)]), ([], []), [(.inr (some (.inl (ck_one 5))), 245, ([], [], []))])
set_option maxRecDepth 100000 in
theorem p5y2_1138_e : ck_ok p1_O none [] [] 34 [] 92 p5y2_1138 = true := by decide +kernel
theorem p5y2_1138_s {X : Int → Int} {LX : Nat} : ck_Ok p1_O X LX 34 p5y2_1138 := ck_ok_s (ck_E0) ck_X0 ck_l0 p5y2_1138_e
set_option maxRecDepth 100000 in
def p5y2_1139 : ck_Sum := ((1, 0, 0), 245, [.inr (.inr (.inl 1)), .inl (ck_one 142)], ([], [], [(201, 142, 142, ck_one 5)]), ([], []), [(.inr (some (.inl (ck_one 5))), 245, ([], [], []))])
set_option maxRecDepth 100000 in
theorem p5y2_1139_e : ck_ok p1_O none [] [(129, [p5y2_1137]), (34, [p5y2_1138])] 128 [] 86 p5y2_1139 = true := by decide +kernel
theorem p5y2_1139_s {X : Int → Int} {LX : Nat} : ck_Ok p1_O X LX 128 p5y2_1139 := ck_ok_s (ck_E1 (ck_S1 p5y2_1137_s ck_S0) (ck_E1 (ck_S1 p5y2_1138_s ck_S0) ck_E0)) ck_X0 ck_l0 p5y2_1139_e
set_option maxRecDepth 100000 in
def p5y2_1140 : ck_Sum := ((2, 0, 0), 245, [.inr (.inr (.inl 1)), .inl (ck_one 142), .inr (.inr (.inl 245))], ([], [], [(201, 142, 142, ck_one 5)]), ([(245, 0, 0)], []), [(.inr (some (.inl (ck_one 0))), 245, ([], [], [(245, 0, 0, ck_one 5)]))])
set_option maxRecDepth 100000 in
theorem p5y2_1140_e : ck_ok p1_O none [] [(128, [p5y2_1139])] 127 [] 90 p5y2_1140 = true := by decide +kernel
theorem p5y2_1140_s {X : Int → Int} {LX : Nat} : ck_Ok p1_O X LX 127 p5y2_1140 := ck_ok_s (ck_E1 (ck_S1 p5y2_1139_s ck_S0) ck_E0) ck_X0 ck_l0 p5y2_1140_e
set_option maxRecDepth 100000 in
def p5y2_1144 : ck_Sum := ((0, 0, 0), 245, [.inr (.inr (.inl 1)), .inl (ck_one 143)], ([], [], []), ([], []), [(.inr none, 245, ([], [], []))])
set_option maxRecDepth 100000 in
theorem p5y2_1144_e : ck_ok p1_O none [] [] 129 [] 82 p5y2_1144 = true := by decide +kernel
theorem p5y2_1144_s {X : Int → Int} {LX : Nat} : ck_Ok p1_O X LX 129 p5y2_1144 := ck_ok_s (ck_E0) ck_X0 ck_l0 p5y2_1144_e
set_option maxRecDepth 100000 in
def p5y2_1145 : ck_Sum := ((0, 0, 0), 245, [.inr (.inr (.inl 200)), .inl (ck_one 143)], ([], [], [(201, 143, 143, ck_one 5)]), ([], []), [(.inr (some (.inl (ck_one 5))), 245, ([], [], []))])
set_option maxRecDepth 100000 in
theorem p5y2_1145_e : ck_ok p1_O none [] [] 34 [] 92 p5y2_1145 = true := by decide +kernel
theorem p5y2_1145_s {X : Int → Int} {LX : Nat} : ck_Ok p1_O X LX 34 p5y2_1145 := ck_ok_s (ck_E0) ck_X0 ck_l0 p5y2_1145_e
set_option maxRecDepth 100000 in
def p5y2_1146 : ck_Sum := ((1, 0, 0), 245, [.inr (.inr (.inl 1)), .inl (ck_one 143)], ([], [], [(201, 143, 143, ck_one 5)]), ([], []), [(.inr (some (.inl (ck_one 5))), 245, ([], [], []))])
set_option maxRecDepth 100000 in
theorem p5y2_1146_e : ck_ok p1_O none [] [(129, [p5y2_1144]), (34, [p5y2_1145])] 128 [] 86 p5y2_1146 = true := by decide +kernel
theorem p5y2_1146_s {X : Int → Int} {LX : Nat} : ck_Ok p1_O X LX 128 p5y2_1146 := ck_ok_s (ck_E1 (ck_S1 p5y2_1144_s ck_S0) (ck_E1 (ck_S1 p5y2_1145_s ck_S0) ck_E0)) ck_X0 ck_l0 p5y2_1146_e
set_option maxRecDepth 100000 in
def p5y2_1147 : ck_Sum := ((2, 0, 0), 245, [.inr (.inr (.inl 1)), .inl (ck_one 143), .inr (.inr (.inl 245))], ([], [], [(201, 143, 143, ck_one 5)]), ([(245, 0, 0)], []), [(.inr (some (.inl (ck_one 0))), 245, ([], [], [(245, 0, 0, ck_one 5)]))])
set_option maxRecDepth 100000 in
theorem p5y2_1147_e : ck_ok p1_O none [] [(128, [p5y2_1146])] 127 [] 90 p5y2_1147 = true := by decide +kernel
theorem p5y2_1147_s {X : Int → Int} {LX : Nat} : ck_Ok p1_O X LX 127 p5y2_1147 := ck_ok_s (ck_E1 (ck_S1 p5y2_1146_s ck_S0) ck_E0) ck_X0 ck_l0 p5y2_1147_e
set_option maxRecDepth 100000 in
def p5y2_1151 : ck_Sum := ((0, 0, 0), 245, [.inr (.inr (.inl 1)), .inl (ck_one 144)], ([], [], []), ([], []), [(.inr none, 245, ([], [], []))])
set_option maxRecDepth 100000 in
theorem p5y2_1151_e : ck_ok p1_O none [] [] 129 [] 82 p5y2_1151 = true := by decide +kernel
theorem p5y2_1151_s {X : Int → Int} {LX : Nat} : ck_Ok p1_O X LX 129 p5y2_1151 := ck_ok_s (ck_E0) ck_X0 ck_l0 p5y2_1151_e
set_option maxRecDepth 100000 in
def p5y2_1152 : ck_Sum := ((0, 0, 0), 245, [.inr (.inr (.inl 200)), .inl (ck_one 144)], ([], [], [(201, 144, 144, ck_one 4)]), ([], []), [(.inr (some (.inl (ck_one 4))), 245, ([], [], []))])
set_option maxRecDepth 100000 in
theorem p5y2_1152_e : ck_ok p1_O none [] [] 34 [] 92 p5y2_1152 = true := by decide +kernel
theorem p5y2_1152_s {X : Int → Int} {LX : Nat} : ck_Ok p1_O X LX 34 p5y2_1152 := ck_ok_s (ck_E0) ck_X0 ck_l0 p5y2_1152_e
set_option maxRecDepth 100000 in
def p5y2_1153 : ck_Sum := ((1, 0, 0), 245, [.inr (.inr (.inl 1)), .inl (ck_one 144)], ([], [], [(201, 144, 144, ck_one 4)]), ([], []), [(.inr (some (.inl (ck_one 4))), 245, ([], [], []))])
set_option maxRecDepth 100000 in
theorem p5y2_1153_e : ck_ok p1_O none [] [(129, [p5y2_1151]), (34, [p5y2_1152])] 128 [] 86 p5y2_1153 = true := by decide +kernel
theorem p5y2_1153_s {X : Int → Int} {LX : Nat} : ck_Ok p1_O X LX 128 p5y2_1153 := ck_ok_s (ck_E1 (ck_S1 p5y2_1151_s ck_S0) (ck_E1 (ck_S1 p5y2_1152_s ck_S0) ck_E0)) ck_X0 ck_l0 p5y2_1153_e
set_option maxRecDepth 100000 in
def p5y2_1154 : ck_Sum := ((2, 0, 0), 245, [.inr (.inr (.inl 1)), .inl (ck_one 144), .inr (.inr (.inl 245))], ([], [], [(201, 144, 144, ck_one 4)]), ([(245, 0, 0)], []), [(.inr (some (.inl (ck_one 0))), 245, ([], [], [(245, 0, 0, ck_one 4)]))])
set_option maxRecDepth 100000 in
theorem p5y2_1154_e : ck_ok p1_O none [] [(128, [p5y2_1153])] 127 [] 90 p5y2_1154 = true := by decide +kernel
theorem p5y2_1154_s {X : Int → Int} {LX : Nat} : ck_Ok p1_O X LX 127 p5y2_1154 := ck_ok_s (ck_E1 (ck_S1 p5y2_1153_s ck_S0) ck_E0) ck_X0 ck_l0 p5y2_1154_e
set_option maxRecDepth 100000 in
def p5y2_1158 : ck_Sum := ((0, 0, 0), 245, [.inr (.inr (.inl 1)), .inl (ck_one 145)], ([], [], []), ([], []), [(.inr none, 245, ([], [], []))])
set_option maxRecDepth 100000 in
theorem p5y2_1158_e : ck_ok p1_O none [] [] 129 [] 82 p5y2_1158 = true := by decide +kernel
theorem p5y2_1158_s {X : Int → Int} {LX : Nat} : ck_Ok p1_O X LX 129 p5y2_1158 := ck_ok_s (ck_E0) ck_X0 ck_l0 p5y2_1158_e
set_option maxRecDepth 100000 in
def p5y2_1159 : ck_Sum := ((0, 0, 0), 245, [.inr (.inr (.inl 200)), .inl (ck_one 145)], ([], [], [(201, 145, 145, ck_one 1)]), ([], []), [(.inr (some (.inl (ck_one 1))), 245, ([], [], []))])
set_option maxRecDepth 100000 in
theorem p5y2_1159_e : ck_ok p1_O none [] [] 34 [] 92 p5y2_1159 = true := by decide +kernel
theorem p5y2_1159_s {X : Int → Int} {LX : Nat} : ck_Ok p1_O X LX 34 p5y2_1159 := ck_ok_s (ck_E0) ck_X0 ck_l0 p5y2_1159_e
set_option maxRecDepth 100000 in
def p5y2_1160 : ck_Sum := ((1, 0, 0), 245, [.inr (.inr (.inl 1)), .inl (ck_one 145)], ([], [], [(201, 145, 145, ck_one 1)]), ([], []), [(.inr (some (.inl (ck_one 1))), 245, ([], [], []))])
set_option maxRecDepth 100000 in
theorem p5y2_1160_e : ck_ok p1_O none [] [(129, [p5y2_1158]), (34, [p5y2_1159])] 128 [] 86 p5y2_1160 = true := by decide +kernel
theorem p5y2_1160_s {X : Int → Int} {LX : Nat} : ck_Ok p1_O X LX 128 p5y2_1160 := ck_ok_s (ck_E1 (ck_S1 p5y2_1158_s ck_S0) (ck_E1 (ck_S1 p5y2_1159_s ck_S0) ck_E0)) ck_X0 ck_l0 p5y2_1160_e
set_option maxRecDepth 100000 in
def p5y2_1161 : ck_Sum := ((2, 0, 0), 245, [.inr (.inr (.inl 1)), .inl (ck_one 145), .inr (.inr (.inl 245))], ([], [], [(201, 145, 145, ck_one 1)]), ([(245, 0, 0)], []), [(.inr (some (.inl (ck_one 0))), 245, ([], [], [(245, 0, 0, ck_one 1)]))])
set_option maxRecDepth 100000 in
theorem p5y2_1161_e : ck_ok p1_O none [] [(128, [p5y2_1160])] 127 [] 90 p5y2_1161 = true := by decide +kernel
theorem p5y2_1161_s {X : Int → Int} {LX : Nat} : ck_Ok p1_O X LX 127 p5y2_1161 := ck_ok_s (ck_E1 (ck_S1 p5y2_1160_s ck_S0) ck_E0) ck_X0 ck_l0 p5y2_1161_e
set_option maxRecDepth 100000 in
def p5y2_1165 : ck_Sum := ((0, 0, 0), 245, [.inr (.inr (.inl 1)), .inl (ck_one 146)], ([], [], []), ([], []), [(.inr none, 245, ([], [], []))])
set_option maxRecDepth 100000 in
theorem p5y2_1165_e : ck_ok p1_O none [] [] 129 [] 82 p5y2_1165 = true := by decide +kernel
theorem p5y2_1165_s {X : Int → Int} {LX : Nat} : ck_Ok p1_O X LX 129 p5y2_1165 := ck_ok_s (ck_E0) ck_X0 ck_l0 p5y2_1165_e
set_option maxRecDepth 100000 in
def p5y2_1166 : ck_Sum := ((0, 0, 0), 245, [.inr (.inr (.inl 200)), .inl (ck_one 146)], ([], [], [(201, 146, 146, ck_one 6)]), ([], []), [(.inr (some (.inl (ck_one 6))), 245, ([], [], []))])
set_option maxRecDepth 100000 in
theorem p5y2_1166_e : ck_ok p1_O none [] [] 34 [] 92 p5y2_1166 = true := by decide +kernel
theorem p5y2_1166_s {X : Int → Int} {LX : Nat} : ck_Ok p1_O X LX 34 p5y2_1166 := ck_ok_s (ck_E0) ck_X0 ck_l0 p5y2_1166_e
set_option maxRecDepth 100000 in
def p5y2_1167 : ck_Sum := ((1, 0, 0), 245, [.inr (.inr (.inl 1)), .inl (ck_one 146)], ([], [], [(201, 146, 146, ck_one 6)]), ([], []), [(.inr (some (.inl (ck_one 6))), 245, ([], [], []))])
set_option maxRecDepth 100000 in
theorem p5y2_1167_e : ck_ok p1_O none [] [(129, [p5y2_1165]), (34, [p5y2_1166])] 128 [] 86 p5y2_1167 = true := by decide +kernel
theorem p5y2_1167_s {X : Int → Int} {LX : Nat} : ck_Ok p1_O X LX 128 p5y2_1167 := ck_ok_s (ck_E1 (ck_S1 p5y2_1165_s ck_S0) (ck_E1 (ck_S1 p5y2_1166_s ck_S0) ck_E0)) ck_X0 ck_l0 p5y2_1167_e
set_option maxRecDepth 100000 in
def p5y2_1168 : ck_Sum := ((2, 0, 0), 245, [.inr (.inr (.inl 1)), .inl (ck_one 146), .inr (.inr (.inl 245))], ([], [], [(201, 146, 146, ck_one 6)]), ([(245, 0, 0)], []), [(.inr (some (.inl (ck_one 0))), 245, ([], [], [(245, 0, 0, ck_one 6)]))])
set_option maxRecDepth 100000 in
theorem p5y2_1168_e : ck_ok p1_O none [] [(128, [p5y2_1167])] 127 [] 90 p5y2_1168 = true := by decide +kernel
theorem p5y2_1168_s {X : Int → Int} {LX : Nat} : ck_Ok p1_O X LX 127 p5y2_1168 := ck_ok_s (ck_E1 (ck_S1 p5y2_1167_s ck_S0) ck_E0) ck_X0 ck_l0 p5y2_1168_e
set_option maxRecDepth 100000 in
def p5y2_1172 : ck_Sum := ((0, 0, 0), 245, [.inr (.inr (.inl 1)), .inl (ck_one 147)], ([], [], []), ([], []), [(.inr none, 245, ([], [], []))])
set_option maxRecDepth 100000 in
theorem p5y2_1172_e : ck_ok p1_O none [] [] 129 [] 82 p5y2_1172 = true := by decide +kernel
theorem p5y2_1172_s {X : Int → Int} {LX : Nat} : ck_Ok p1_O X LX 129 p5y2_1172 := ck_ok_s (ck_E0) ck_X0 ck_l0 p5y2_1172_e
set_option maxRecDepth 100000 in
def p5y2_1173 : ck_Sum := ((0, 0, 0), 245, [.inr (.inr (.inl 200)), .inl (ck_one 147)], ([], [], [(201, 147, 147, ck_one 7)]), ([], []), [(.inr (some (.inl (ck_one 7))), 245, ([], [], []))])
set_option maxRecDepth 100000 in
theorem p5y2_1173_e : ck_ok p1_O none [] [] 34 [] 92 p5y2_1173 = true := by decide +kernel
theorem p5y2_1173_s {X : Int → Int} {LX : Nat} : ck_Ok p1_O X LX 34 p5y2_1173 := ck_ok_s (ck_E0) ck_X0 ck_l0 p5y2_1173_e
set_option maxRecDepth 100000 in
def p5y2_1174 : ck_Sum := ((1, 0, 0), 245, [.inr (.inr (.inl 1)), .inl (ck_one 147)], ([], [], [(201, 147, 147, ck_one 7)]), ([], []), [(.inr (some (.inl (ck_one 7))), 245, ([], [], []))])
set_option maxRecDepth 100000 in
theorem p5y2_1174_e : ck_ok p1_O none [] [(129, [p5y2_1172]), (34, [p5y2_1173])] 128 [] 86 p5y2_1174 = true := by decide +kernel
theorem p5y2_1174_s {X : Int → Int} {LX : Nat} : ck_Ok p1_O X LX 128 p5y2_1174 := ck_ok_s (ck_E1 (ck_S1 p5y2_1172_s ck_S0) (ck_E1 (ck_S1 p5y2_1173_s ck_S0) ck_E0)) ck_X0 ck_l0 p5y2_1174_e
set_option maxRecDepth 100000 in
def p5y2_1175 : ck_Sum := ((2, 0, 0), 245, [.inr (.inr (.inl 1)), .inl (ck_one 147), .inr (.inr (.inl 245))], ([], [], [(201, 147, 147, ck_one 7)]), ([(245, 0, 0)], []), [(.inr (some (.inl (ck_one 0))), 245, ([], [], [(245, 0, 0, ck_one 7)]))])
set_option maxRecDepth 100000 in
theorem p5y2_1175_e : ck_ok p1_O none [] [(128, [p5y2_1174])] 127 [] 90 p5y2_1175 = true := by decide +kernel
theorem p5y2_1175_s {X : Int → Int} {LX : Nat} : ck_Ok p1_O X LX 127 p5y2_1175 := ck_ok_s (ck_E1 (ck_S1 p5y2_1174_s ck_S0) ck_E0) ck_X0 ck_l0 p5y2_1175_e
set_option maxRecDepth 100000 in
def p5y2_1179 : ck_Sum := ((0, 0, 0), 245, [.inr (.inr (.inl 1)), .inl (ck_one 148)], ([], [], []), ([], []), [(.inr none, 245, ([], [], []))])
set_option maxRecDepth 100000 in
theorem p5y2_1179_e : ck_ok p1_O none [] [] 129 [] 82 p5y2_1179 = true := by decide +kernel
theorem p5y2_1179_s {X : Int → Int} {LX : Nat} : ck_Ok p1_O X LX 129 p5y2_1179 := ck_ok_s (ck_E0) ck_X0 ck_l0 p5y2_1179_e
set_option maxRecDepth 100000 in
def p5y2_1180 : ck_Sum := ((0, 0, 0), 245, [.inr (.inr (.inl 200)), .inl (ck_one 148)], ([], [], [(201, 148, 148, ck_one 3)]), ([], []), [(.inr (some (.inl (ck_one 3))), 245, ([], [], []))])
set_option maxRecDepth 100000 in
theorem p5y2_1180_e : ck_ok p1_O none [] [] 34 [] 92 p5y2_1180 = true := by decide +kernel
theorem p5y2_1180_s {X : Int → Int} {LX : Nat} : ck_Ok p1_O X LX 34 p5y2_1180 := ck_ok_s (ck_E0) ck_X0 ck_l0 p5y2_1180_e
set_option maxRecDepth 100000 in
def p5y2_1181 : ck_Sum := ((1, 0, 0), 245, [.inr (.inr (.inl 1)), .inl (ck_one 148)], ([], [], [(201, 148, 148, ck_one 3)]), ([], []), [(.inr (some (.inl (ck_one 3))), 245, ([], [], []))])
set_option maxRecDepth 100000 in
theorem p5y2_1181_e : ck_ok p1_O none [] [(129, [p5y2_1179]), (34, [p5y2_1180])] 128 [] 86 p5y2_1181 = true := by decide +kernel
theorem p5y2_1181_s {X : Int → Int} {LX : Nat} : ck_Ok p1_O X LX 128 p5y2_1181 := ck_ok_s (ck_E1 (ck_S1 p5y2_1179_s ck_S0) (ck_E1 (ck_S1 p5y2_1180_s ck_S0) ck_E0)) ck_X0 ck_l0 p5y2_1181_e
set_option maxRecDepth 100000 in
def p5y2_1182 : ck_Sum := ((2, 0, 0), 245, [.inr (.inr (.inl 1)), .inl (ck_one 148), .inr (.inr (.inl 245))], ([], [], [(201, 148, 148, ck_one 3)]), ([(245, 0, 0)], []), [(.inr (some (.inl (ck_one 0))), 245, ([], [], [(245, 0, 0, ck_one 3)]))])
set_option maxRecDepth 100000 in
theorem p5y2_1182_e : ck_ok p1_O none [] [(128, [p5y2_1181])] 127 [] 90 p5y2_1182 = true := by decide +kernel
theorem p5y2_1182_s {X : Int → Int} {LX : Nat} : ck_Ok p1_O X LX 127 p5y2_1182 := ck_ok_s (ck_E1 (ck_S1 p5y2_1181_s ck_S0) ck_E0) ck_X0 ck_l0 p5y2_1182_e
set_option maxRecDepth 100000 in
def p5y2_1186 : ck_Sum := ((0, 0, 0), 245, [.inr (.inr (.inl 1)), .inl (ck_one 149)], ([], [], []), ([], []), [(.inr none, 245, ([], [], []))])
set_option maxRecDepth 100000 in
theorem p5y2_1186_e : ck_ok p1_O none [] [] 129 [] 82 p5y2_1186 = true := by decide +kernel
theorem p5y2_1186_s {X : Int → Int} {LX : Nat} : ck_Ok p1_O X LX 129 p5y2_1186 := ck_ok_s (ck_E0) ck_X0 ck_l0 p5y2_1186_e
set_option maxRecDepth 100000 in
def p5y2_1187 : ck_Sum := ((0, 0, 0), 245, [.inr (.inr (.inl 200)), .inl (ck_one 149)], ([], [], [(201, 149, 149, ck_one 7)]), ([], []), [(.inr (some (.inl (ck_one 7))), 245, ([], [], []))])
set_option maxRecDepth 100000 in
theorem p5y2_1187_e : ck_ok p1_O none [] [] 34 [] 92 p5y2_1187 = true := by decide +kernel
theorem p5y2_1187_s {X : Int → Int} {LX : Nat} : ck_Ok p1_O X LX 34 p5y2_1187 := ck_ok_s (ck_E0) ck_X0 ck_l0 p5y2_1187_e
set_option maxRecDepth 100000 in
def p5y2_1188 : ck_Sum := ((1, 0, 0), 245, [.inr (.inr (.inl 1)), .inl (ck_one 149)], ([], [], [(201, 149, 149, ck_one 7)]), ([], []), [(.inr (some (.inl (ck_one 7))), 245, ([], [], []))])
set_option maxRecDepth 100000 in
theorem p5y2_1188_e : ck_ok p1_O none [] [(129, [p5y2_1186]), (34, [p5y2_1187])] 128 [] 86 p5y2_1188 = true := by decide +kernel
theorem p5y2_1188_s {X : Int → Int} {LX : Nat} : ck_Ok p1_O X LX 128 p5y2_1188 := ck_ok_s (ck_E1 (ck_S1 p5y2_1186_s ck_S0) (ck_E1 (ck_S1 p5y2_1187_s ck_S0) ck_E0)) ck_X0 ck_l0 p5y2_1188_e
set_option maxRecDepth 100000 in
def p5y2_1189 : ck_Sum := ((2, 0, 0), 245, [.inr (.inr (.inl 1)), .inl (ck_one 149), .inr (.inr (.inl 245))], ([], [], [(201, 149, 149, ck_one 7)]), ([(245, 0, 0)], []), [(.inr (some (.inl (ck_one 0))), 245, ([], [], [(245, 0, 0, ck_one 7)]))])
set_option maxRecDepth 100000 in
theorem p5y2_1189_e : ck_ok p1_O none [] [(128, [p5y2_1188])] 127 [] 90 p5y2_1189 = true := by decide +kernel
theorem p5y2_1189_s {X : Int → Int} {LX : Nat} : ck_Ok p1_O X LX 127 p5y2_1189 := ck_ok_s (ck_E1 (ck_S1 p5y2_1188_s ck_S0) ck_E0) ck_X0 ck_l0 p5y2_1189_e
set_option maxRecDepth 100000 in
def p5y2_1193 : ck_Sum := ((0, 0, 0), 245, [.inr (.inr (.inl 1)), .inl (ck_one 150)], ([], [], []), ([], []), [(.inr none, 245, ([], [], []))])
set_option maxRecDepth 100000 in
theorem p5y2_1193_e : ck_ok p1_O none [] [] 129 [] 82 p5y2_1193 = true := by decide +kernel
theorem p5y2_1193_s {X : Int → Int} {LX : Nat} : ck_Ok p1_O X LX 129 p5y2_1193 := ck_ok_s (ck_E0) ck_X0 ck_l0 p5y2_1193_e
set_option maxRecDepth 100000 in
def p5y2_1194 : ck_Sum := ((0, 0, 0), 245, [.inr (.inr (.inl 200)), .inl (ck_one 150)], ([], [], [(201, 150, 150, ck_one 9)]), ([], []), [(.inr (some (.inl (ck_one 9))), 245, ([], [], []))])
set_option maxRecDepth 100000 in
theorem p5y2_1194_e : ck_ok p1_O none [] [] 34 [] 92 p5y2_1194 = true := by decide +kernel
theorem p5y2_1194_s {X : Int → Int} {LX : Nat} : ck_Ok p1_O X LX 34 p5y2_1194 := ck_ok_s (ck_E0) ck_X0 ck_l0 p5y2_1194_e
set_option maxRecDepth 100000 in
def p5y2_1195 : ck_Sum := ((1, 0, 0), 245, [.inr (.inr (.inl 1)), .inl (ck_one 150)], ([], [], [(201, 150, 150, ck_one 9)]), ([], []), [(.inr (some (.inl (ck_one 9))), 245, ([], [], []))])
set_option maxRecDepth 100000 in
theorem p5y2_1195_e : ck_ok p1_O none [] [(129, [p5y2_1193]), (34, [p5y2_1194])] 128 [] 86 p5y2_1195 = true := by decide +kernel
theorem p5y2_1195_s {X : Int → Int} {LX : Nat} : ck_Ok p1_O X LX 128 p5y2_1195 := ck_ok_s (ck_E1 (ck_S1 p5y2_1193_s ck_S0) (ck_E1 (ck_S1 p5y2_1194_s ck_S0) ck_E0)) ck_X0 ck_l0 p5y2_1195_e
set_option maxRecDepth 100000 in
def p5y2_1196 : ck_Sum := ((2, 0, 0), 245, [.inr (.inr (.inl 1)), .inl (ck_one 150), .inr (.inr (.inl 245))], ([], [], [(201, 150, 150, ck_one 9)]), ([(245, 0, 0)], []), [(.inr (some (.inl (ck_one 0))), 245, ([], [], [(245, 0, 0, ck_one 9)]))])
set_option maxRecDepth 100000 in
theorem p5y2_1196_e : ck_ok p1_O none [] [(128, [p5y2_1195])] 127 [] 90 p5y2_1196 = true := by decide +kernel
theorem p5y2_1196_s {X : Int → Int} {LX : Nat} : ck_Ok p1_O X LX 127 p5y2_1196 := ck_ok_s (ck_E1 (ck_S1 p5y2_1195_s ck_S0) ck_E0) ck_X0 ck_l0 p5y2_1196_e
set_option maxRecDepth 100000 in
def p5y2_1200 : ck_Sum := ((0, 0, 0), 245, [.inr (.inr (.inl 1)), .inl (ck_one 151)], ([], [], []), ([], []), [(.inr none, 245, ([], [], []))])
set_option maxRecDepth 100000 in
theorem p5y2_1200_e : ck_ok p1_O none [] [] 129 [] 82 p5y2_1200 = true := by decide +kernel
theorem p5y2_1200_s {X : Int → Int} {LX : Nat} : ck_Ok p1_O X LX 129 p5y2_1200 := ck_ok_s (ck_E0) ck_X0 ck_l0 p5y2_1200_e
set_option maxRecDepth 100000 in
def p5y2_1201 : ck_Sum := ((0, 0, 0), 245, [.inr (.inr (.inl 200)), .inl (ck_one 151)], ([], [], [(201, 151, 151, ck_one 7)]), ([], []), [(.inr (some (.inl (ck_one 7))), 245, ([], [], []))])
set_option maxRecDepth 100000 in
theorem p5y2_1201_e : ck_ok p1_O none [] [] 34 [] 92 p5y2_1201 = true := by decide +kernel
theorem p5y2_1201_s {X : Int → Int} {LX : Nat} : ck_Ok p1_O X LX 34 p5y2_1201 := ck_ok_s (ck_E0) ck_X0 ck_l0 p5y2_1201_e
set_option maxRecDepth 100000 in
def p5y2_1202 : ck_Sum := ((1, 0, 0), 245, [.inr (.inr (.inl 1)), .inl (ck_one 151)], ([], [], [(201, 151, 151, ck_one 7)]), ([], []), [(.inr (some (.inl (ck_one 7))), 245, ([], [], []))])
set_option maxRecDepth 100000 in
theorem p5y2_1202_e : ck_ok p1_O none [] [(129, [p5y2_1200]), (34, [p5y2_1201])] 128 [] 86 p5y2_1202 = true := by decide +kernel
theorem p5y2_1202_s {X : Int → Int} {LX : Nat} : ck_Ok p1_O X LX 128 p5y2_1202 := ck_ok_s (ck_E1 (ck_S1 p5y2_1200_s ck_S0) (ck_E1 (ck_S1 p5y2_1201_s ck_S0) ck_E0)) ck_X0 ck_l0 p5y2_1202_e
set_option maxRecDepth 100000 in
def p5y2_1203 : ck_Sum := ((2, 0, 0), 245, [.inr (.inr (.inl 1)), .inl (ck_one 151), .inr (.inr (.inl 245))], ([], [], [(201, 151, 151, ck_one 7)]), ([(245, 0, 0)], []), [(.inr (some (.inl (ck_one 0))), 245, ([], [], [(245, 0, 0, ck_one 7)]))])
set_option maxRecDepth 100000 in
theorem p5y2_1203_e : ck_ok p1_O none [] [(128, [p5y2_1202])] 127 [] 90 p5y2_1203 = true := by decide +kernel
theorem p5y2_1203_s {X : Int → Int} {LX : Nat} : ck_Ok p1_O X LX 127 p5y2_1203 := ck_ok_s (ck_E1 (ck_S1 p5y2_1202_s ck_S0) ck_E0) ck_X0 ck_l0 p5y2_1203_e
set_option maxRecDepth 100000 in
def p5y2_854 : ck_Sum := ((0, 0, 0), 245, [.inl (ck_one 101), .inl (ck_one 0), .inl (ck_one 299)], ([], [], []), ([], []), [(.inr (some (.inl (ck_one 1))), 245, ([], [], []))])
set_option maxRecDepth 100000 in
theorem p5y2_854_e : ck_ok p1_O none [] [] 287 [] 88 p5y2_854 = true := by decide +kernel
theorem p5y2_854_s {X : Int → Int} {LX : Nat} : ck_Ok p1_O X LX 287 p5y2_854 := ck_ok_s (ck_E0) ck_X0 ck_l0 p5y2_854_e
set_option maxRecDepth 100000 in
def p5y2_855 : ck_Sum := ((1, 0, 0), 245, [.inl (ck_one 101)], ([], [], []), ([], []), [(.inr (some (.inl (ck_one 0))), 245, ([], [], []))])
set_option maxRecDepth 100000 in
theorem p5y2_855_e : ck_ok p1_O none [] [(287, [p5y2_854])] 286 [] 84 p5y2_855 = true := by decide +kernel
theorem p5y2_855_s {X : Int → Int} {LX : Nat} : ck_Ok p1_O X LX 286 p5y2_855 := ck_ok_s (ck_E1 (ck_S1 p5y2_854_s ck_S0) ck_E0) ck_X0 ck_l0 p5y2_855_e
set_option maxRecDepth 100000 in
def p5y2_147 : ck_Sum := ((0, 0, 0), 245, [.inr (.inr (.inl 226)), .inl (ck_one 0), .inl (ck_one 1)], ([], [], []), ([], []), [(.inr (some (.inl (ck_one 0))), 245, ([], [], []))])
set_option maxRecDepth 100000 in
theorem p5y2_147_e : ck_ok p1_O none [] [] 283 [] 78 p5y2_147 = true := by decide +kernel
theorem p5y2_147_s {X : Int → Int} {LX : Nat} : ck_Ok p1_O X LX 283 p5y2_147 := ck_ok_s (ck_E0) ck_X0 ck_l0 p5y2_147_e
set_option maxRecDepth 100000 in
def p5y2_856 : ck_Sum := ((2, 0, 0), 245, [.inr (.inr (.inl 226)), .inl (ck_one 101)], ([], [], [(234, 101, 101, ck_one 1)]), ([(226, 0, 0)], []), [(.inr (some (.inl (ck_one 1))), 245, ([], [], [(226, 0, 0, ck_one 0)]))])
set_option maxRecDepth 100000 in
theorem p5y2_856_e : ck_ok p1_O none [] [(286, [p5y2_855]), (283, [p5y2_147])] 285 [] 98 p5y2_856 = true := by decide +kernel
theorem p5y2_856_s {X : Int → Int} {LX : Nat} : ck_Ok p1_O X LX 285 p5y2_856 := ck_ok_s (ck_E1 (ck_S1 p5y2_855_s ck_S0) (ck_E1 (ck_S1 p5y2_147_s ck_S0) ck_E0)) ck_X0 ck_l0 p5y2_856_e
set_option maxRecDepth 100000 in
def p5y2_861 : ck_Sum := ((0, 0, 0), 245, [.inl (ck_one 102), .inl (ck_one 0), .inl (ck_one 299)], ([], [], []), ([], []), [(.inr (some (.inl (ck_one 1))), 245, ([], [], []))])
set_option maxRecDepth 100000 in
theorem p5y2_861_e : ck_ok p1_O none [] [] 287 [] 88 p5y2_861 = true := by decide +kernel
theorem p5y2_861_s {X : Int → Int} {LX : Nat} : ck_Ok p1_O X LX 287 p5y2_861 := ck_ok_s (ck_E0) ck_X0 ck_l0 p5y2_861_e
set_option maxRecDepth 100000 in
def p5y2_862 : ck_Sum := ((1, 0, 0), 245, [.inl (ck_one 102)], ([], [], []), ([], []), [(.inr (some (.inl (ck_one 0))), 245, ([], [], []))])
set_option maxRecDepth 100000 in
theorem p5y2_862_e : ck_ok p1_O none [] [(287, [p5y2_861])] 286 [] 84 p5y2_862 = true := by decide +kernel
theorem p5y2_862_s {X : Int → Int} {LX : Nat} : ck_Ok p1_O X LX 286 p5y2_862 := ck_ok_s (ck_E1 (ck_S1 p5y2_861_s ck_S0) ck_E0) ck_X0 ck_l0 p5y2_862_e
set_option maxRecDepth 100000 in
def p5y2_863 : ck_Sum := ((2, 0, 0), 245, [.inr (.inr (.inl 226)), .inl (ck_one 102)], ([], [], [(234, 102, 102, ck_one 4)]), ([(226, 0, 0)], []), [(.inr (some (.inl (ck_one 4))), 245, ([], [], [(226, 0, 0, ck_one 0)]))])
set_option maxRecDepth 100000 in
theorem p5y2_863_e : ck_ok p1_O none [] [(286, [p5y2_862]), (283, [p5y2_147])] 285 [] 98 p5y2_863 = true := by decide +kernel
theorem p5y2_863_s {X : Int → Int} {LX : Nat} : ck_Ok p1_O X LX 285 p5y2_863 := ck_ok_s (ck_E1 (ck_S1 p5y2_862_s ck_S0) (ck_E1 (ck_S1 p5y2_147_s ck_S0) ck_E0)) ck_X0 ck_l0 p5y2_863_e
set_option maxRecDepth 100000 in
def p5y2_868 : ck_Sum := ((0, 0, 0), 245, [.inl (ck_one 103), .inl (ck_one 0), .inl (ck_one 299)], ([], [], []), ([], []), [(.inr (some (.inl (ck_one 1))), 245, ([], [], []))])
set_option maxRecDepth 100000 in
theorem p5y2_868_e : ck_ok p1_O none [] [] 287 [] 88 p5y2_868 = true := by decide +kernel
theorem p5y2_868_s {X : Int → Int} {LX : Nat} : ck_Ok p1_O X LX 287 p5y2_868 := ck_ok_s (ck_E0) ck_X0 ck_l0 p5y2_868_e
set_option maxRecDepth 100000 in
def p5y2_869 : ck_Sum := ((1, 0, 0), 245, [.inl (ck_one 103)], ([], [], []), ([], []), [(.inr (some (.inl (ck_one 0))), 245, ([], [], []))])
set_option maxRecDepth 100000 in
theorem p5y2_869_e : ck_ok p1_O none [] [(287, [p5y2_868])] 286 [] 84 p5y2_869 = true := by decide +kernel
theorem p5y2_869_s {X : Int → Int} {LX : Nat} : ck_Ok p1_O X LX 286 p5y2_869 := ck_ok_s (ck_E1 (ck_S1 p5y2_868_s ck_S0) ck_E0) ck_X0 ck_l0 p5y2_869_e
set_option maxRecDepth 100000 in
def p5y2_870 : ck_Sum := ((2, 0, 0), 245, [.inr (.inr (.inl 226)), .inl (ck_one 103)], ([], [], [(234, 103, 103, ck_one 7)]), ([(226, 0, 0)], []), [(.inr (some (.inl (ck_one 7))), 245, ([], [], [(226, 0, 0, ck_one 0)]))])
set_option maxRecDepth 100000 in
theorem p5y2_870_e : ck_ok p1_O none [] [(286, [p5y2_869]), (283, [p5y2_147])] 285 [] 98 p5y2_870 = true := by decide +kernel
theorem p5y2_870_s {X : Int → Int} {LX : Nat} : ck_Ok p1_O X LX 285 p5y2_870 := ck_ok_s (ck_E1 (ck_S1 p5y2_869_s ck_S0) (ck_E1 (ck_S1 p5y2_147_s ck_S0) ck_E0)) ck_X0 ck_l0 p5y2_870_e
set_option maxRecDepth 100000 in
def p5y2_875 : ck_Sum := ((0, 0, 0), 245, [.inl (ck_one 104), .inl (ck_one 0), .inl (ck_one 299)], ([], [], []), ([], []), [(.inr (some (.inl (ck_one 1))), 245, ([], [], []))])
set_option maxRecDepth 100000 in
theorem p5y2_875_e : ck_ok p1_O none [] [] 287 [] 88 p5y2_875 = true := by decide +kernel
theorem p5y2_875_s {X : Int → Int} {LX : Nat} : ck_Ok p1_O X LX 287 p5y2_875 := ck_ok_s (ck_E0) ck_X0 ck_l0 p5y2_875_e
set_option maxRecDepth 100000 in
def p5y2_876 : ck_Sum := ((1, 0, 0), 245, [.inl (ck_one 104)], ([], [], []), ([], []), [(.inr (some (.inl (ck_one 0))), 245, ([], [], []))])
set_option maxRecDepth 100000 in
theorem p5y2_876_e : ck_ok p1_O none [] [(287, [p5y2_875])] 286 [] 84 p5y2_876 = true := by decide +kernel
theorem p5y2_876_s {X : Int → Int} {LX : Nat} : ck_Ok p1_O X LX 286 p5y2_876 := ck_ok_s (ck_E1 (ck_S1 p5y2_875_s ck_S0) ck_E0) ck_X0 ck_l0 p5y2_876_e
set_option maxRecDepth 100000 in
def p5y2_877 : ck_Sum := ((2, 0, 0), 245, [.inr (.inr (.inl 226)), .inl (ck_one 104)], ([], [], [(234, 104, 104, ck_one 2)]), ([(226, 0, 0)], []), [(.inr (some (.inl (ck_one 2))), 245, ([], [], [(226, 0, 0, ck_one 0)]))])
set_option maxRecDepth 100000 in
theorem p5y2_877_e : ck_ok p1_O none [] [(286, [p5y2_876]), (283, [p5y2_147])] 285 [] 98 p5y2_877 = true := by decide +kernel
theorem p5y2_877_s {X : Int → Int} {LX : Nat} : ck_Ok p1_O X LX 285 p5y2_877 := ck_ok_s (ck_E1 (ck_S1 p5y2_876_s ck_S0) (ck_E1 (ck_S1 p5y2_147_s ck_S0) ck_E0)) ck_X0 ck_l0 p5y2_877_e
set_option maxRecDepth 100000 in
def p5y2_882 : ck_Sum := ((0, 0, 0), 245, [.inl (ck_one 105), .inl (ck_one 0), .inl (ck_one 299)], ([], [], []), ([], []), [(.inr (some (.inl (ck_one 1))), 245, ([], [], []))])
set_option maxRecDepth 100000 in
theorem p5y2_882_e : ck_ok p1_O none [] [] 287 [] 88 p5y2_882 = true := by decide +kernel
theorem p5y2_882_s {X : Int → Int} {LX : Nat} : ck_Ok p1_O X LX 287 p5y2_882 := ck_ok_s (ck_E0) ck_X0 ck_l0 p5y2_882_e
set_option maxRecDepth 100000 in
def p5y2_883 : ck_Sum := ((1, 0, 0), 245, [.inl (ck_one 105)], ([], [], []), ([], []), [(.inr (some (.inl (ck_one 0))), 245, ([], [], []))])
set_option maxRecDepth 100000 in
theorem p5y2_883_e : ck_ok p1_O none [] [(287, [p5y2_882])] 286 [] 84 p5y2_883 = true := by decide +kernel
theorem p5y2_883_s {X : Int → Int} {LX : Nat} : ck_Ok p1_O X LX 286 p5y2_883 := ck_ok_s (ck_E1 (ck_S1 p5y2_882_s ck_S0) ck_E0) ck_X0 ck_l0 p5y2_883_e
set_option maxRecDepth 100000 in
def p5y2_884 : ck_Sum := ((2, 0, 0), 245, [.inr (.inr (.inl 226)), .inl (ck_one 105)], ([], [], [(234, 105, 105, ck_one 5)]), ([(226, 0, 0)], []), [(.inr (some (.inl (ck_one 5))), 245, ([], [], [(226, 0, 0, ck_one 0)]))])
set_option maxRecDepth 100000 in
theorem p5y2_884_e : ck_ok p1_O none [] [(286, [p5y2_883]), (283, [p5y2_147])] 285 [] 98 p5y2_884 = true := by decide +kernel
theorem p5y2_884_s {X : Int → Int} {LX : Nat} : ck_Ok p1_O X LX 285 p5y2_884 := ck_ok_s (ck_E1 (ck_S1 p5y2_883_s ck_S0) (ck_E1 (ck_S1 p5y2_147_s ck_S0) ck_E0)) ck_X0 ck_l0 p5y2_884_e
set_option maxRecDepth 100000 in
def p5y2_889 : ck_Sum := ((0, 0, 0), 245, [.inl (ck_one 106), .inl (ck_one 0), .inl (ck_one 299)], ([], [], []), ([], []), [(.inr (some (.inl (ck_one 1))), 245, ([], [], []))])
set_option maxRecDepth 100000 in
theorem p5y2_889_e : ck_ok p1_O none [] [] 287 [] 88 p5y2_889 = true := by decide +kernel
theorem p5y2_889_s {X : Int → Int} {LX : Nat} : ck_Ok p1_O X LX 287 p5y2_889 := ck_ok_s (ck_E0) ck_X0 ck_l0 p5y2_889_e
set_option maxRecDepth 100000 in
def p5y2_890 : ck_Sum := ((1, 0, 0), 245, [.inl (ck_one 106)], ([], [], []), ([], []), [(.inr (some (.inl (ck_one 0))), 245, ([], [], []))])
set_option maxRecDepth 100000 in
theorem p5y2_890_e : ck_ok p1_O none [] [(287, [p5y2_889])] 286 [] 84 p5y2_890 = true := by decide +kernel
theorem p5y2_890_s {X : Int → Int} {LX : Nat} : ck_Ok p1_O X LX 286 p5y2_890 := ck_ok_s (ck_E1 (ck_S1 p5y2_889_s ck_S0) ck_E0) ck_X0 ck_l0 p5y2_890_e
set_option maxRecDepth 100000 in
def p5y2_891 : ck_Sum := ((2, 0, 0), 245, [.inr (.inr (.inl 226)), .inl (ck_one 106)], ([], [], [(234, 106, 106, ck_one 6)]), ([(226, 0, 0)], []), [(.inr (some (.inl (ck_one 6))), 245, ([], [], [(226, 0, 0, ck_one 0)]))])
set_option maxRecDepth 100000 in
theorem p5y2_891_e : ck_ok p1_O none [] [(286, [p5y2_890]), (283, [p5y2_147])] 285 [] 98 p5y2_891 = true := by decide +kernel
theorem p5y2_891_s {X : Int → Int} {LX : Nat} : ck_Ok p1_O X LX 285 p5y2_891 := ck_ok_s (ck_E1 (ck_S1 p5y2_890_s ck_S0) (ck_E1 (ck_S1 p5y2_147_s ck_S0) ck_E0)) ck_X0 ck_l0 p5y2_891_e
set_option maxRecDepth 100000 in
def p5y2_896 : ck_Sum := ((0, 0, 0), 245, [.inl (ck_one 107), .inl (ck_one 0), .inl (ck_one 299)], ([], [], []), ([], []), [(.inr (some (.inl (ck_one 1))), 245, ([], [], []))])
set_option maxRecDepth 100000 in
theorem p5y2_896_e : ck_ok p1_O none [] [] 287 [] 88 p5y2_896 = true := by decide +kernel
theorem p5y2_896_s {X : Int → Int} {LX : Nat} : ck_Ok p1_O X LX 287 p5y2_896 := ck_ok_s (ck_E0) ck_X0 ck_l0 p5y2_896_e
set_option maxRecDepth 100000 in
def p5y2_897 : ck_Sum := ((1, 0, 0), 245, [.inl (ck_one 107)], ([], [], []), ([], []), [(.inr (some (.inl (ck_one 0))), 245, ([], [], []))])
set_option maxRecDepth 100000 in
theorem p5y2_897_e : ck_ok p1_O none [] [(287, [p5y2_896])] 286 [] 84 p5y2_897 = true := by decide +kernel
theorem p5y2_897_s {X : Int → Int} {LX : Nat} : ck_Ok p1_O X LX 286 p5y2_897 := ck_ok_s (ck_E1 (ck_S1 p5y2_896_s ck_S0) ck_E0) ck_X0 ck_l0 p5y2_897_e
set_option maxRecDepth 100000 in
def p5y2_898 : ck_Sum := ((2, 0, 0), 245, [.inr (.inr (.inl 226)), .inl (ck_one 107)], ([], [], [(234, 107, 107, ck_one 3)]), ([(226, 0, 0)], []), [(.inr (some (.inl (ck_one 3))), 245, ([], [], [(226, 0, 0, ck_one 0)]))])
set_option maxRecDepth 100000 in
theorem p5y2_898_e : ck_ok p1_O none [] [(286, [p5y2_897]), (283, [p5y2_147])] 285 [] 98 p5y2_898 = true := by decide +kernel
theorem p5y2_898_s {X : Int → Int} {LX : Nat} : ck_Ok p1_O X LX 285 p5y2_898 := ck_ok_s (ck_E1 (ck_S1 p5y2_897_s ck_S0) (ck_E1 (ck_S1 p5y2_147_s ck_S0) ck_E0)) ck_X0 ck_l0 p5y2_898_e
set_option maxRecDepth 100000 in
def p5y2_903 : ck_Sum := ((0, 0, 0), 245, [.inl (ck_one 108), .inl (ck_one 0), .inl (ck_one 299)], ([], [], []), ([], []), [(.inr (some (.inl (ck_one 1))), 245, ([], [], []))])
set_option maxRecDepth 100000 in
theorem p5y2_903_e : ck_ok p1_O none [] [] 287 [] 88 p5y2_903 = true := by decide +kernel
theorem p5y2_903_s {X : Int → Int} {LX : Nat} : ck_Ok p1_O X LX 287 p5y2_903 := ck_ok_s (ck_E0) ck_X0 ck_l0 p5y2_903_e
set_option maxRecDepth 100000 in
def p5y2_904 : ck_Sum := ((1, 0, 0), 245, [.inl (ck_one 108)], ([], [], []), ([], []), [(.inr (some (.inl (ck_one 0))), 245, ([], [], []))])
set_option maxRecDepth 100000 in
theorem p5y2_904_e : ck_ok p1_O none [] [(287, [p5y2_903])] 286 [] 84 p5y2_904 = true := by decide +kernel
theorem p5y2_904_s {X : Int → Int} {LX : Nat} : ck_Ok p1_O X LX 286 p5y2_904 := ck_ok_s (ck_E1 (ck_S1 p5y2_903_s ck_S0) ck_E0) ck_X0 ck_l0 p5y2_904_e
set_option maxRecDepth 100000 in
def p5y2_905 : ck_Sum := ((2, 0, 0), 245, [.inr (.inr (.inl 226)), .inl (ck_one 108)], ([], [], [(234, 108, 108, ck_one 6)]), ([(226, 0, 0)], []), [(.inr (some (.inl (ck_one 6))), 245, ([], [], [(226, 0, 0, ck_one 0)]))])
set_option maxRecDepth 100000 in
theorem p5y2_905_e : ck_ok p1_O none [] [(286, [p5y2_904]), (283, [p5y2_147])] 285 [] 98 p5y2_905 = true := by decide +kernel
theorem p5y2_905_s {X : Int → Int} {LX : Nat} : ck_Ok p1_O X LX 285 p5y2_905 := ck_ok_s (ck_E1 (ck_S1 p5y2_904_s ck_S0) (ck_E1 (ck_S1 p5y2_147_s ck_S0) ck_E0)) ck_X0 ck_l0 p5y2_905_e
set_option maxRecDepth 100000 in
def p5y2_910 : ck_Sum := ((0, 0, 0), 245, [.inl (ck_one 109), .inl (ck_one 0), .inl (ck_one 299)], ([], [], []), ([], []), [(.inr (some (.inl (ck_one 1))), 245, ([], [], []))])
set_option maxRecDepth 100000 in
theorem p5y2_910_e : ck_ok p1_O none [] [] 287 [] 88 p5y2_910 = true := by decide +kernel
theorem p5y2_910_s {X : Int → Int} {LX : Nat} : ck_Ok p1_O X LX 287 p5y2_910 := ck_ok_s (ck_E0) ck_X0 ck_l0 p5y2_910_e
set_option maxRecDepth 100000 in
def p5y2_911 : ck_Sum := ((1, 0, 0), 245, [.inl (ck_one 109)], ([], [], []), ([], []), [(.inr (some (.inl (ck_one 0))), 245, ([], [], []))])
set_option maxRecDepth 100000 in
theorem p5y2_911_e : ck_ok p1_O none [] [(287, [p5y2_910])] 286 [] 84 p5y2_911 = true := by decide +kernel
theorem p5y2_911_s {X : Int → Int} {LX : Nat} : ck_Ok p1_O X LX 286 p5y2_911 := ck_ok_s (ck_E1 (ck_S1 p5y2_910_s ck_S0) ck_E0) ck_X0 ck_l0 p5y2_911_e
set_option maxRecDepth 100000 in
def p5y2_912 : ck_Sum := ((2, 0, 0), 245, [.inr (.inr (.inl 226)), .inl (ck_one 109)], ([], [], [(234, 109, 109, ck_one 4)]), ([(226, 0, 0)], []), [(.inr (some (.inl (ck_one 4))), 245, ([], [], [(226, 0, 0, ck_one 0)]))])
set_option maxRecDepth 100000 in
theorem p5y2_912_e : ck_ok p1_O none [] [(286, [p5y2_911]), (283, [p5y2_147])] 285 [] 98 p5y2_912 = true := by decide +kernel
theorem p5y2_912_s {X : Int → Int} {LX : Nat} : ck_Ok p1_O X LX 285 p5y2_912 := ck_ok_s (ck_E1 (ck_S1 p5y2_911_s ck_S0) (ck_E1 (ck_S1 p5y2_147_s ck_S0) ck_E0)) ck_X0 ck_l0 p5y2_912_e
set_option maxRecDepth 100000 in
def p5y2_917 : ck_Sum := ((0, 0, 0), 245, [.inl (ck_one 110), .inl (ck_one 0), .inl (ck_one 299)], ([], [], []), ([], []), [(.inr (some (.inl (ck_one 1))), 245, ([], [], []))])
set_option maxRecDepth 100000 in
theorem p5y2_917_e : ck_ok p1_O none [] [] 287 [] 88 p5y2_917 = true := by decide +kernel
theorem p5y2_917_s {X : Int → Int} {LX : Nat} : ck_Ok p1_O X LX 287 p5y2_917 := ck_ok_s (ck_E0) ck_X0 ck_l0 p5y2_917_e
set_option maxRecDepth 100000 in
def p5y2_918 : ck_Sum := ((1, 0, 0), 245, [.inl (ck_one 110)], ([], [], []), ([], []), [(.inr (some (.inl (ck_one 0))), 245, ([], [], []))])
set_option maxRecDepth 100000 in
theorem p5y2_918_e : ck_ok p1_O none [] [(287, [p5y2_917])] 286 [] 84 p5y2_918 = true := by decide +kernel
theorem p5y2_918_s {X : Int → Int} {LX : Nat} : ck_Ok p1_O X LX 286 p5y2_918 := ck_ok_s (ck_E1 (ck_S1 p5y2_917_s ck_S0) ck_E0) ck_X0 ck_l0 p5y2_918_e
set_option maxRecDepth 100000 in
def p5y2_919 : ck_Sum := ((2, 0, 0), 245, [.inr (.inr (.inl 226)), .inl (ck_one 110)], ([], [], [(234, 110, 110, ck_one 1)]), ([(226, 0, 0)], []), [(.inr (some (.inl (ck_one 1))), 245, ([], [], [(226, 0, 0, ck_one 0)]))])
set_option maxRecDepth 100000 in
theorem p5y2_919_e : ck_ok p1_O none [] [(286, [p5y2_918]), (283, [p5y2_147])] 285 [] 98 p5y2_919 = true := by decide +kernel
theorem p5y2_919_s {X : Int → Int} {LX : Nat} : ck_Ok p1_O X LX 285 p5y2_919 := ck_ok_s (ck_E1 (ck_S1 p5y2_918_s ck_S0) (ck_E1 (ck_S1 p5y2_147_s ck_S0) ck_E0)) ck_X0 ck_l0 p5y2_919_e
set_option maxRecDepth 100000 in
def p5y2_924 : ck_Sum := ((0, 0, 0), 245, [.inl (ck_one 111), .inl (ck_one 0), .inl (ck_one 299)], ([], [], []), ([], []), [(.inr (some (.inl (ck_one 1))), 245, ([], [], []))])
set_option maxRecDepth 100000 in
theorem p5y2_924_e : ck_ok p1_O none [] [] 287 [] 88 p5y2_924 = true := by decide +kernel
theorem p5y2_924_s {X : Int → Int} {LX : Nat} : ck_Ok p1_O X LX 287 p5y2_924 := ck_ok_s (ck_E0) ck_X0 ck_l0 p5y2_924_e
set_option maxRecDepth 100000 in
def p5y2_925 : ck_Sum := ((1, 0, 0), 245, [.inl (ck_one 111)], ([], [], []), ([], []), [(.inr (some (.inl (ck_one 0))), 245, ([], [], []))])
set_option maxRecDepth 100000 in
theorem p5y2_925_e : ck_ok p1_O none [] [(287, [p5y2_924])] 286 [] 84 p5y2_925 = true := by decide +kernel
theorem p5y2_925_s {X : Int → Int} {LX : Nat} : ck_Ok p1_O X LX 286 p5y2_925 := ck_ok_s (ck_E1 (ck_S1 p5y2_924_s ck_S0) ck_E0) ck_X0 ck_l0 p5y2_925_e
set_option maxRecDepth 100000 in
def p5y2_926 : ck_Sum := ((2, 0, 0), 245, [.inr (.inr (.inl 226)), .inl (ck_one 111)], ([], [], [(234, 111, 111, ck_one 8)]), ([(226, 0, 0)], []), [(.inr (some (.inl (ck_one 8))), 245, ([], [], [(226, 0, 0, ck_one 0)]))])
set_option maxRecDepth 100000 in
theorem p5y2_926_e : ck_ok p1_O none [] [(286, [p5y2_925]), (283, [p5y2_147])] 285 [] 98 p5y2_926 = true := by decide +kernel
theorem p5y2_926_s {X : Int → Int} {LX : Nat} : ck_Ok p1_O X LX 285 p5y2_926 := ck_ok_s (ck_E1 (ck_S1 p5y2_925_s ck_S0) (ck_E1 (ck_S1 p5y2_147_s ck_S0) ck_E0)) ck_X0 ck_l0 p5y2_926_e
set_option maxRecDepth 100000 in
def p5y2_931 : ck_Sum := ((0, 0, 0), 245, [.inl (ck_one 112), .inl (ck_one 0), .inl (ck_one 299)], ([], [], []), ([], []), [(.inr (some (.inl (ck_one 1))), 245, ([], [], []))])
set_option maxRecDepth 100000 in
theorem p5y2_931_e : ck_ok p1_O none [] [] 287 [] 88 p5y2_931 = true := by decide +kernel
theorem p5y2_931_s {X : Int → Int} {LX : Nat} : ck_Ok p1_O X LX 287 p5y2_931 := ck_ok_s (ck_E0) ck_X0 ck_l0 p5y2_931_e
set_option maxRecDepth 100000 in
def p5y2_932 : ck_Sum := ((1, 0, 0), 245, [.inl (ck_one 112)], ([], [], []), ([], []), [(.inr (some (.inl (ck_one 0))), 245, ([], [], []))])
set_option maxRecDepth 100000 in
theorem p5y2_932_e : ck_ok p1_O none [] [(287, [p5y2_931])] 286 [] 84 p5y2_932 = true := by decide +kernel
theorem p5y2_932_s {X : Int → Int} {LX : Nat} : ck_Ok p1_O X LX 286 p5y2_932 := ck_ok_s (ck_E1 (ck_S1 p5y2_931_s ck_S0) ck_E0) ck_X0 ck_l0 p5y2_932_e
set_option maxRecDepth 100000 in
def p5y2_933 : ck_Sum := ((2, 0, 0), 245, [.inr (.inr (.inl 226)), .inl (ck_one 112)], ([], [], [(234, 112, 112, ck_one 3)]), ([(226, 0, 0)], []), [(.inr (some (.inl (ck_one 3))), 245, ([], [], [(226, 0, 0, ck_one 0)]))])
set_option maxRecDepth 100000 in
theorem p5y2_933_e : ck_ok p1_O none [] [(286, [p5y2_932]), (283, [p5y2_147])] 285 [] 98 p5y2_933 = true := by decide +kernel
theorem p5y2_933_s {X : Int → Int} {LX : Nat} : ck_Ok p1_O X LX 285 p5y2_933 := ck_ok_s (ck_E1 (ck_S1 p5y2_932_s ck_S0) (ck_E1 (ck_S1 p5y2_147_s ck_S0) ck_E0)) ck_X0 ck_l0 p5y2_933_e
set_option maxRecDepth 100000 in
def p5y2_938 : ck_Sum := ((0, 0, 0), 245, [.inl (ck_one 113), .inl (ck_one 0), .inl (ck_one 299)], ([], [], []), ([], []), [(.inr (some (.inl (ck_one 1))), 245, ([], [], []))])
set_option maxRecDepth 100000 in
theorem p5y2_938_e : ck_ok p1_O none [] [] 287 [] 88 p5y2_938 = true := by decide +kernel
theorem p5y2_938_s {X : Int → Int} {LX : Nat} : ck_Ok p1_O X LX 287 p5y2_938 := ck_ok_s (ck_E0) ck_X0 ck_l0 p5y2_938_e
set_option maxRecDepth 100000 in
def p5y2_939 : ck_Sum := ((1, 0, 0), 245, [.inl (ck_one 113)], ([], [], []), ([], []), [(.inr (some (.inl (ck_one 0))), 245, ([], [], []))])
set_option maxRecDepth 100000 in
theorem p5y2_939_e : ck_ok p1_O none [] [(287, [p5y2_938])] 286 [] 84 p5y2_939 = true := by decide +kernel
theorem p5y2_939_s {X : Int → Int} {LX : Nat} : ck_Ok p1_O X LX 286 p5y2_939 := ck_ok_s (ck_E1 (ck_S1 p5y2_938_s ck_S0) ck_E0) ck_X0 ck_l0 p5y2_939_e
set_option maxRecDepth 100000 in
def p5y2_940 : ck_Sum := ((2, 0, 0), 245, [.inr (.inr (.inl 226)), .inl (ck_one 113)], ([], [], [(234, 113, 113, ck_one 4)]), ([(226, 0, 0)], []), [(.inr (some (.inl (ck_one 4))), 245, ([], [], [(226, 0, 0, ck_one 0)]))])
set_option maxRecDepth 100000 in
theorem p5y2_940_e : ck_ok p1_O none [] [(286, [p5y2_939]), (283, [p5y2_147])] 285 [] 98 p5y2_940 = true := by decide +kernel
theorem p5y2_940_s {X : Int → Int} {LX : Nat} : ck_Ok p1_O X LX 285 p5y2_940 := ck_ok_s (ck_E1 (ck_S1 p5y2_939_s ck_S0) (ck_E1 (ck_S1 p5y2_147_s ck_S0) ck_E0)) ck_X0 ck_l0 p5y2_940_e
set_option maxRecDepth 100000 in
def p5y2_945 : ck_Sum := ((0, 0, 0), 245, [.inl (ck_one 114), .inl (ck_one 0), .inl (ck_one 299)], ([], [], []), ([], []), [(.inr (some (.inl (ck_one 1))), 245, ([], [], []))])
set_option maxRecDepth 100000 in
theorem p5y2_945_e : ck_ok p1_O none [] [] 287 [] 88 p5y2_945 = true := by decide +kernel
theorem p5y2_945_s {X : Int → Int} {LX : Nat} : ck_Ok p1_O X LX 287 p5y2_945 := ck_ok_s (ck_E0) ck_X0 ck_l0 p5y2_945_e
set_option maxRecDepth 100000 in
def p5y2_946 : ck_Sum := ((1, 0, 0), 245, [.inl (ck_one 114)], ([], [], []), ([], []), [(.inr (some (.inl (ck_one 0))), 245, ([], [], []))])
set_option maxRecDepth 100000 in
theorem p5y2_946_e : ck_ok p1_O none [] [(287, [p5y2_945])] 286 [] 84 p5y2_946 = true := by decide +kernel
theorem p5y2_946_s {X : Int → Int} {LX : Nat} : ck_Ok p1_O X LX 286 p5y2_946 := ck_ok_s (ck_E1 (ck_S1 p5y2_945_s ck_S0) ck_E0) ck_X0 ck_l0 p5y2_946_e
set_option maxRecDepth 100000 in
def p5y2_947 : ck_Sum := ((2, 0, 0), 245, [.inr (.inr (.inl 226)), .inl (ck_one 114)], ([], [], [(234, 114, 114, ck_one 3)]), ([(226, 0, 0)], []), [(.inr (some (.inl (ck_one 3))), 245, ([], [], [(226, 0, 0, ck_one 0)]))])
set_option maxRecDepth 100000 in
theorem p5y2_947_e : ck_ok p1_O none [] [(286, [p5y2_946]), (283, [p5y2_147])] 285 [] 98 p5y2_947 = true := by decide +kernel
theorem p5y2_947_s {X : Int → Int} {LX : Nat} : ck_Ok p1_O X LX 285 p5y2_947 := ck_ok_s (ck_E1 (ck_S1 p5y2_946_s ck_S0) (ck_E1 (ck_S1 p5y2_147_s ck_S0) ck_E0)) ck_X0 ck_l0 p5y2_947_e
set_option maxRecDepth 100000 in
def p5y2_952 : ck_Sum := ((0, 0, 0), 245, [.inl (ck_one 115), .inl (ck_one 0), .inl (ck_one 299)], ([], [], []), ([], []), [(.inr (some (.inl (ck_one 1))), 245, ([], [], []))])
set_option maxRecDepth 100000 in
theorem p5y2_952_e : ck_ok p1_O none [] [] 287 [] 88 p5y2_952 = true := by decide +kernel
theorem p5y2_952_s {X : Int → Int} {LX : Nat} : ck_Ok p1_O X LX 287 p5y2_952 := ck_ok_s (ck_E0) ck_X0 ck_l0 p5y2_952_e
set_option maxRecDepth 100000 in
def p5y2_953 : ck_Sum := ((1, 0, 0), 245, [.inl (ck_one 115)], ([], [], []), ([], []), [(.inr (some (.inl (ck_one 0))), 245, ([], [], []))])
set_option maxRecDepth 100000 in
theorem p5y2_953_e : ck_ok p1_O none [] [(287, [p5y2_952])] 286 [] 84 p5y2_953 = true := by decide +kernel
theorem p5y2_953_s {X : Int → Int} {LX : Nat} : ck_Ok p1_O X LX 286 p5y2_953 := ck_ok_s (ck_E1 (ck_S1 p5y2_952_s ck_S0) ck_E0) ck_X0 ck_l0 p5y2_953_e
set_option maxRecDepth 100000 in
def p5y2_954 : ck_Sum := ((2, 0, 0), 245, [.inr (.inr (.inl 226)), .inl (ck_one 115)], ([], [], [(234, 115, 115, ck_one 0)]), ([(226, 0, 0)], []), [(.inr (some (.inl (ck_one 0))), 245, ([], [], [(226, 0, 0, ck_one 0)]))])
set_option maxRecDepth 100000 in
theorem p5y2_954_e : ck_ok p1_O none [] [(286, [p5y2_953]), (283, [p5y2_147])] 285 [] 98 p5y2_954 = true := by decide +kernel
theorem p5y2_954_s {X : Int → Int} {LX : Nat} : ck_Ok p1_O X LX 285 p5y2_954 := ck_ok_s (ck_E1 (ck_S1 p5y2_953_s ck_S0) (ck_E1 (ck_S1 p5y2_147_s ck_S0) ck_E0)) ck_X0 ck_l0 p5y2_954_e
set_option maxRecDepth 100000 in
def p5y2_959 : ck_Sum := ((0, 0, 0), 245, [.inl (ck_one 116), .inl (ck_one 0), .inl (ck_one 299)], ([], [], []), ([], []), [(.inr (some (.inl (ck_one 1))), 245, ([], [], []))])
set_option maxRecDepth 100000 in
theorem p5y2_959_e : ck_ok p1_O none [] [] 287 [] 88 p5y2_959 = true := by decide +kernel
theorem p5y2_959_s {X : Int → Int} {LX : Nat} : ck_Ok p1_O X LX 287 p5y2_959 := ck_ok_s (ck_E0) ck_X0 ck_l0 p5y2_959_e
set_option maxRecDepth 100000 in
def p5y2_960 : ck_Sum := ((1, 0, 0), 245, [.inl (ck_one 116)], ([], [], []), ([], []), [(.inr (some (.inl (ck_one 0))), 245, ([], [], []))])
set_option maxRecDepth 100000 in
theorem p5y2_960_e : ck_ok p1_O none [] [(287, [p5y2_959])] 286 [] 84 p5y2_960 = true := by decide +kernel
theorem p5y2_960_s {X : Int → Int} {LX : Nat} : ck_Ok p1_O X LX 286 p5y2_960 := ck_ok_s (ck_E1 (ck_S1 p5y2_959_s ck_S0) ck_E0) ck_X0 ck_l0 p5y2_960_e
set_option maxRecDepth 100000 in
def p5y2_961 : ck_Sum := ((2, 0, 0), 245, [.inr (.inr (.inl 226)), .inl (ck_one 116)], ([], [], [(234, 116, 116, ck_one 8)]), ([(226, 0, 0)], []), [(.inr (some (.inl (ck_one 8))), 245, ([], [], [(226, 0, 0, ck_one 0)]))])
set_option maxRecDepth 100000 in
theorem p5y2_961_e : ck_ok p1_O none [] [(286, [p5y2_960]), (283, [p5y2_147])] 285 [] 98 p5y2_961 = true := by decide +kernel
theorem p5y2_961_s {X : Int → Int} {LX : Nat} : ck_Ok p1_O X LX 285 p5y2_961 := ck_ok_s (ck_E1 (ck_S1 p5y2_960_s ck_S0) (ck_E1 (ck_S1 p5y2_147_s ck_S0) ck_E0)) ck_X0 ck_l0 p5y2_961_e
set_option maxRecDepth 100000 in
def p5y2_966 : ck_Sum := ((0, 0, 0), 245, [.inl (ck_one 117), .inl (ck_one 0), .inl (ck_one 299)], ([], [], []), ([], []), [(.inr (some (.inl (ck_one 1))), 245, ([], [], []))])
set_option maxRecDepth 100000 in
theorem p5y2_966_e : ck_ok p1_O none [] [] 287 [] 88 p5y2_966 = true := by decide +kernel
theorem p5y2_966_s {X : Int → Int} {LX : Nat} : ck_Ok p1_O X LX 287 p5y2_966 := ck_ok_s (ck_E0) ck_X0 ck_l0 p5y2_966_e
set_option maxRecDepth 100000 in
def p5y2_967 : ck_Sum := ((1, 0, 0), 245, [.inl (ck_one 117)], ([], [], []), ([], []), [(.inr (some (.inl (ck_one 0))), 245, ([], [], []))])
set_option maxRecDepth 100000 in
theorem p5y2_967_e : ck_ok p1_O none [] [(287, [p5y2_966])] 286 [] 84 p5y2_967 = true := by decide +kernel
theorem p5y2_967_s {X : Int → Int} {LX : Nat} : ck_Ok p1_O X LX 286 p5y2_967 := ck_ok_s (ck_E1 (ck_S1 p5y2_966_s ck_S0) ck_E0) ck_X0 ck_l0 p5y2_967_e
set_option maxRecDepth 100000 in
def p5y2_968 : ck_Sum := ((2, 0, 0), 245, [.inr (.inr (.inl 226)), .inl (ck_one 117)], ([], [], [(234, 117, 117, ck_one 0)]), ([(226, 0, 0)], []), [(.inr (some (.inl (ck_one 0))), 245, ([], [], [(226, 0, 0, ck_one 0)]))])
set_option maxRecDepth 100000 in
theorem p5y2_968_e : ck_ok p1_O none [] [(286, [p5y2_967]), (283, [p5y2_147])] 285 [] 98 p5y2_968 = true := by decide +kernel
theorem p5y2_968_s {X : Int → Int} {LX : Nat} : ck_Ok p1_O X LX 285 p5y2_968 := ck_ok_s (ck_E1 (ck_S1 p5y2_967_s ck_S0) (ck_E1 (ck_S1 p5y2_147_s ck_S0) ck_E0)) ck_X0 ck_l0 p5y2_968_e
set_option maxRecDepth 100000 in
def p5y2_973 : ck_Sum := ((0, 0, 0), 245, [.inl (ck_one 118), .inl (ck_one 0), .inl (ck_one 299)], ([], [], []), ([], []), [(.inr (some (.inl (ck_one 1))), 245, ([], [], []))])
set_option maxRecDepth 100000 in
theorem p5y2_973_e : ck_ok p1_O none [] [] 287 [] 88 p5y2_973 = true := by decide +kernel
theorem p5y2_973_s {X : Int → Int} {LX : Nat} : ck_Ok p1_O X LX 287 p5y2_973 := ck_ok_s (ck_E0) ck_X0 ck_l0 p5y2_973_e
set_option maxRecDepth 100000 in
def p5y2_974 : ck_Sum := ((1, 0, 0), 245, [.inl (ck_one 118)], ([], [], []), ([], []), [(.inr (some (.inl (ck_one 0))), 245, ([], [], []))])
set_option maxRecDepth 100000 in
theorem p5y2_974_e : ck_ok p1_O none [] [(287, [p5y2_973])] 286 [] 84 p5y2_974 = true := by decide +kernel
theorem p5y2_974_s {X : Int → Int} {LX : Nat} : ck_Ok p1_O X LX 286 p5y2_974 := ck_ok_s (ck_E1 (ck_S1 p5y2_973_s ck_S0) ck_E0) ck_X0 ck_l0 p5y2_974_e
set_option maxRecDepth 100000 in
def p5y2_975 : ck_Sum := ((2, 0, 0), 245, [.inr (.inr (.inl 226)), .inl (ck_one 118)], ([], [], [(234, 118, 118, ck_one 0)]), ([(226, 0, 0)], []), [(.inr (some (.inl (ck_one 0))), 245, ([], [], [(226, 0, 0, ck_one 0)]))])
set_option maxRecDepth 100000 in
theorem p5y2_975_e : ck_ok p1_O none [] [(286, [p5y2_974]), (283, [p5y2_147])] 285 [] 98 p5y2_975 = true := by decide +kernel
theorem p5y2_975_s {X : Int → Int} {LX : Nat} : ck_Ok p1_O X LX 285 p5y2_975 := ck_ok_s (ck_E1 (ck_S1 p5y2_974_s ck_S0) (ck_E1 (ck_S1 p5y2_147_s ck_S0) ck_E0)) ck_X0 ck_l0 p5y2_975_e
set_option maxRecDepth 100000 in
def p5y2_980 : ck_Sum := ((0, 0, 0), 245, [.inl (ck_one 119), .inl (ck_one 0), .inl (ck_one 299)], ([], [], []), ([], []), [(.inr (some (.inl (ck_one 1))), 245, ([], [], []))])
set_option maxRecDepth 100000 in
theorem p5y2_980_e : ck_ok p1_O none [] [] 287 [] 88 p5y2_980 = true := by decide +kernel
theorem p5y2_980_s {X : Int → Int} {LX : Nat} : ck_Ok p1_O X LX 287 p5y2_980 := ck_ok_s (ck_E0) ck_X0 ck_l0 p5y2_980_e
set_option maxRecDepth 100000 in
def p5y2_981 : ck_Sum := ((1, 0, 0), 245, [.inl (ck_one 119)], ([], [], []), ([], []), [(.inr (some (.inl (ck_one 0))), 245, ([], [], []))])
set_option maxRecDepth 100000 in
theorem p5y2_981_e : ck_ok p1_O none [] [(287, [p5y2_980])] 286 [] 84 p5y2_981 = true := by decide +kernel
theorem p5y2_981_s {X : Int → Int} {LX : Nat} : ck_Ok p1_O X LX 286 p5y2_981 := ck_ok_s (ck_E1 (ck_S1 p5y2_980_s ck_S0) ck_E0) ck_X0 ck_l0 p5y2_981_e
set_option maxRecDepth 100000 in
def p5y2_982 : ck_Sum := ((2, 0, 0), 245, [.inr (.inr (.inl 226)), .inl (ck_one 119)], ([], [], [(234, 119, 119, ck_one 9)]), ([(226, 0, 0)], []), [(.inr (some (.inl (ck_one 9))), 245, ([], [], [(226, 0, 0, ck_one 0)]))])
set_option maxRecDepth 100000 in
theorem p5y2_982_e : ck_ok p1_O none [] [(286, [p5y2_981]), (283, [p5y2_147])] 285 [] 98 p5y2_982 = true := by decide +kernel
theorem p5y2_982_s {X : Int → Int} {LX : Nat} : ck_Ok p1_O X LX 285 p5y2_982 := ck_ok_s (ck_E1 (ck_S1 p5y2_981_s ck_S0) (ck_E1 (ck_S1 p5y2_147_s ck_S0) ck_E0)) ck_X0 ck_l0 p5y2_982_e
set_option maxRecDepth 100000 in
def p5y2_987 : ck_Sum := ((0, 0, 0), 245, [.inl (ck_one 120), .inl (ck_one 0), .inl (ck_one 299)], ([], [], []), ([], []), [(.inr (some (.inl (ck_one 1))), 245, ([], [], []))])
set_option maxRecDepth 100000 in
theorem p5y2_987_e : ck_ok p1_O none [] [] 287 [] 88 p5y2_987 = true := by decide +kernel
theorem p5y2_987_s {X : Int → Int} {LX : Nat} : ck_Ok p1_O X LX 287 p5y2_987 := ck_ok_s (ck_E0) ck_X0 ck_l0 p5y2_987_e
set_option maxRecDepth 100000 in
def p5y2_988 : ck_Sum := ((1, 0, 0), 245, [.inl (ck_one 120)], ([], [], []), ([], []), [(.inr (some (.inl (ck_one 0))), 245, ([], [], []))])
set_option maxRecDepth 100000 in
theorem p5y2_988_e : ck_ok p1_O none [] [(287, [p5y2_987])] 286 [] 84 p5y2_988 = true := by decide +kernel
theorem p5y2_988_s {X : Int → Int} {LX : Nat} : ck_Ok p1_O X LX 286 p5y2_988 := ck_ok_s (ck_E1 (ck_S1 p5y2_987_s ck_S0) ck_E0) ck_X0 ck_l0 p5y2_988_e
set_option maxRecDepth 100000 in
def p5y2_989 : ck_Sum := ((2, 0, 0), 245, [.inr (.inr (.inl 226)), .inl (ck_one 120)], ([], [], [(234, 120, 120, ck_one 6)]), ([(226, 0, 0)], []), [(.inr (some (.inl (ck_one 6))), 245, ([], [], [(226, 0, 0, ck_one 0)]))])
set_option maxRecDepth 100000 in
theorem p5y2_989_e : ck_ok p1_O none [] [(286, [p5y2_988]), (283, [p5y2_147])] 285 [] 98 p5y2_989 = true := by decide +kernel
theorem p5y2_989_s {X : Int → Int} {LX : Nat} : ck_Ok p1_O X LX 285 p5y2_989 := ck_ok_s (ck_E1 (ck_S1 p5y2_988_s ck_S0) (ck_E1 (ck_S1 p5y2_147_s ck_S0) ck_E0)) ck_X0 ck_l0 p5y2_989_e
set_option maxRecDepth 100000 in
def p5y2_994 : ck_Sum := ((0, 0, 0), 245, [.inl (ck_one 121), .inl (ck_one 0), .inl (ck_one 299)], ([], [], []), ([], []), [(.inr (some (.inl (ck_one 1))), 245, ([], [], []))])
set_option maxRecDepth 100000 in
theorem p5y2_994_e : ck_ok p1_O none [] [] 287 [] 88 p5y2_994 = true := by decide +kernel
theorem p5y2_994_s {X : Int → Int} {LX : Nat} : ck_Ok p1_O X LX 287 p5y2_994 := ck_ok_s (ck_E0) ck_X0 ck_l0 p5y2_994_e
set_option maxRecDepth 100000 in
def p5y2_995 : ck_Sum := ((1, 0, 0), 245, [.inl (ck_one 121)], ([], [], []), ([], []), [(.inr (some (.inl (ck_one 0))), 245, ([], [], []))])
set_option maxRecDepth 100000 in
theorem p5y2_995_e : ck_ok p1_O none [] [(287, [p5y2_994])] 286 [] 84 p5y2_995 = true := by decide +kernel
theorem p5y2_995_s {X : Int → Int} {LX : Nat} : ck_Ok p1_O X LX 286 p5y2_995 := ck_ok_s (ck_E1 (ck_S1 p5y2_994_s ck_S0) ck_E0) ck_X0 ck_l0 p5y2_995_e
set_option maxRecDepth 100000 in
def p5y2_996 : ck_Sum := ((2, 0, 0), 245, [.inr (.inr (.inl 226)), .inl (ck_one 121)], ([], [], [(234, 121, 121, ck_one 2)]), ([(226, 0, 0)], []), [(.inr (some (.inl (ck_one 2))), 245, ([], [], [(226, 0, 0, ck_one 0)]))])
set_option maxRecDepth 100000 in
theorem p5y2_996_e : ck_ok p1_O none [] [(286, [p5y2_995]), (283, [p5y2_147])] 285 [] 98 p5y2_996 = true := by decide +kernel
theorem p5y2_996_s {X : Int → Int} {LX : Nat} : ck_Ok p1_O X LX 285 p5y2_996 := ck_ok_s (ck_E1 (ck_S1 p5y2_995_s ck_S0) (ck_E1 (ck_S1 p5y2_147_s ck_S0) ck_E0)) ck_X0 ck_l0 p5y2_996_e
set_option maxRecDepth 100000 in
def p5y2_1001 : ck_Sum := ((0, 0, 0), 245, [.inl (ck_one 122), .inl (ck_one 0), .inl (ck_one 299)], ([], [], []), ([], []), [(.inr (some (.inl (ck_one 1))), 245, ([], [], []))])
set_option maxRecDepth 100000 in
theorem p5y2_1001_e : ck_ok p1_O none [] [] 287 [] 88 p5y2_1001 = true := by decide +kernel
theorem p5y2_1001_s {X : Int → Int} {LX : Nat} : ck_Ok p1_O X LX 287 p5y2_1001 := ck_ok_s (ck_E0) ck_X0 ck_l0 p5y2_1001_e
set_option maxRecDepth 100000 in
def p5y2_1002 : ck_Sum := ((1, 0, 0), 245, [.inl (ck_one 122)], ([], [], []), ([], []), [(.inr (some (.inl (ck_one 0))), 245, ([], [], []))])
set_option maxRecDepth 100000 in
theorem p5y2_1002_e : ck_ok p1_O none [] [(287, [p5y2_1001])] 286 [] 84 p5y2_1002 = true := by decide +kernel
theorem p5y2_1002_s {X : Int → Int} {LX : Nat} : ck_Ok p1_O X LX 286 p5y2_1002 := ck_ok_s (ck_E1 (ck_S1 p5y2_1001_s ck_S0) ck_E0) ck_X0 ck_l0 p5y2_1002_e
set_option maxRecDepth 100000 in
def p5y2_1003 : ck_Sum := ((2, 0, 0), 245, [.inr (.inr (.inl 226)), .inl (ck_one 122)], ([], [], [(234, 122, 122, ck_one 6)]), ([(226, 0, 0)], []), [(.inr (some (.inl (ck_one 6))), 245, ([], [], [(226, 0, 0, ck_one 0)]))])
set_option maxRecDepth 100000 in
theorem p5y2_1003_e : ck_ok p1_O none [] [(286, [p5y2_1002]), (283, [p5y2_147])] 285 [] 98 p5y2_1003 = true := by decide +kernel
theorem p5y2_1003_s {X : Int → Int} {LX : Nat} : ck_Ok p1_O X LX 285 p5y2_1003 := ck_ok_s (ck_E1 (ck_S1 p5y2_1002_s ck_S0) (ck_E1 (ck_S1 p5y2_147_s ck_S0) ck_E0)) ck_X0 ck_l0 p5y2_1003_e
set_option maxRecDepth 100000 in
def p5y2_1008 : ck_Sum := ((0, 0, 0), 245, [.inl (ck_one 123), .inl (ck_one 0), .inl (ck_one 299)], ([], [], []), ([], []), [(.inr (some (.inl (ck_one 1))), 245, ([], [], []))])
set_option maxRecDepth 100000 in
theorem p5y2_1008_e : ck_ok p1_O none [] [] 287 [] 88 p5y2_1008 = true := by decide +kernel
theorem p5y2_1008_s {X : Int → Int} {LX : Nat} : ck_Ok p1_O X LX 287 p5y2_1008 := ck_ok_s (ck_E0) ck_X0 ck_l0 p5y2_1008_e
set_option maxRecDepth 100000 in
def p5y2_1009 : ck_Sum := ((1, 0, 0), 245, [.inl (ck_one 123)], ([], [], []), ([], []), [(.inr (some (.inl (ck_one 0))), 245, ([], [], []))])
set_option maxRecDepth 100000 in
theorem p5y2_1009_e : ck_ok p1_O none [] [(287, [p5y2_1008])] 286 [] 84 p5y2_1009 = true := by decide +kernel
theorem p5y2_1009_s {X : Int → Int} {LX : Nat} : ck_Ok p1_O X LX 286 p5y2_1009 := ck_ok_s (ck_E1 (ck_S1 p5y2_1008_s ck_S0) ck_E0) ck_X0 ck_l0 p5y2_1009_e
set_option maxRecDepth 100000 in
def p5y2_1010 : ck_Sum := ((2, 0, 0), 245, [.inr (.inr (.inl 226)), .inl (ck_one 123)], ([], [], [(234, 123, 123, ck_one 7)]), ([(226, 0, 0)], []), [(.inr (some (.inl (ck_one 7))), 245, ([], [], [(226, 0, 0, ck_one 0)]))])
set_option maxRecDepth 100000 in
theorem p5y2_1010_e : ck_ok p1_O none [] [(286, [p5y2_1009]), (283, [p5y2_147])] 285 [] 98 p5y2_1010 = true := by decide +kernel
theorem p5y2_1010_s {X : Int → Int} {LX : Nat} : ck_Ok p1_O X LX 285 p5y2_1010 := ck_ok_s (ck_E1 (ck_S1 p5y2_1009_s ck_S0) (ck_E1 (ck_S1 p5y2_147_s ck_S0) ck_E0)) ck_X0 ck_l0 p5y2_1010_e
set_option maxRecDepth 100000 in
def p5y2_1015 : ck_Sum := ((0, 0, 0), 245, [.inl (ck_one 124), .inl (ck_one 0), .inl (ck_one 299)], ([], [], []), ([], []), [(.inr (some (.inl (ck_one 1))), 245, ([], [], []))])
set_option maxRecDepth 100000 in
theorem p5y2_1015_e : ck_ok p1_O none [] [] 287 [] 88 p5y2_1015 = true := by decide +kernel
theorem p5y2_1015_s {X : Int → Int} {LX : Nat} : ck_Ok p1_O X LX 287 p5y2_1015 := ck_ok_s (ck_E0) ck_X0 ck_l0 p5y2_1015_e
set_option maxRecDepth 100000 in
def p5y2_1016 : ck_Sum := ((1, 0, 0), 245, [.inl (ck_one 124)], ([], [], []), ([], []), [(.inr (some (.inl (ck_one 0))), 245, ([], [], []))])
set_option maxRecDepth 100000 in
theorem p5y2_1016_e : ck_ok p1_O none [] [(287, [p5y2_1015])] 286 [] 84 p5y2_1016 = true := by decide +kernel
theorem p5y2_1016_s {X : Int → Int} {LX : Nat} : ck_Ok p1_O X LX 286 p5y2_1016 := ck_ok_s (ck_E1 (ck_S1 p5y2_1015_s ck_S0) ck_E0) ck_X0 ck_l0 p5y2_1016_e
set_option maxRecDepth 100000 in
def p5y2_1017 : ck_Sum := ((2, 0, 0), 245, [.inr (.inr (.inl 226)), .inl (ck_one 124)], ([], [], [(234, 124, 124, ck_one 3)]), ([(226, 0, 0)], []), [(.inr (some (.inl (ck_one 3))), 245, ([], [], [(226, 0, 0, ck_one 0)]))])
set_option maxRecDepth 100000 in
theorem p5y2_1017_e : ck_ok p1_O none [] [(286, [p5y2_1016]), (283, [p5y2_147])] 285 [] 98 p5y2_1017 = true := by decide +kernel
theorem p5y2_1017_s {X : Int → Int} {LX : Nat} : ck_Ok p1_O X LX 285 p5y2_1017 := ck_ok_s (ck_E1 (ck_S1 p5y2_1016_s ck_S0) (ck_E1 (ck_S1 p5y2_147_s ck_S0) ck_E0)) ck_X0 ck_l0 p5y2_1017_e
set_option maxRecDepth 100000 in
def p5y2_1022 : ck_Sum := ((0, 0, 0), 245, [.inl (ck_one 125), .inl (ck_one 0), .inl (ck_one 299)], ([], [], []), ([], []), [(.inr (some (.inl (ck_one 1))), 245, ([], [], []))])
set_option maxRecDepth 100000 in
theorem p5y2_1022_e : ck_ok p1_O none [] [] 287 [] 88 p5y2_1022 = true := by decide +kernel
theorem p5y2_1022_s {X : Int → Int} {LX : Nat} : ck_Ok p1_O X LX 287 p5y2_1022 := ck_ok_s (ck_E0) ck_X0 ck_l0 p5y2_1022_e
set_option maxRecDepth 100000 in
def p5y2_1023 : ck_Sum := ((1, 0, 0), 245, [.inl (ck_one 125)], ([], [], []), ([], []), [(.inr (some (.inl (ck_one 0))), 245, ([], [], []))])
set_option maxRecDepth 100000 in
theorem p5y2_1023_e : ck_ok p1_O none [] [(287, [p5y2_1022])] 286 [] 84 p5y2_1023 = true := by decide +kernel
theorem p5y2_1023_s {X : Int → Int} {LX : Nat} : ck_Ok p1_O X LX 286 p5y2_1023 := ck_ok_s (ck_E1 (ck_S1 p5y2_1022_s ck_S0) ck_E0) ck_X0 ck_l0 p5y2_1023_e
set_option maxRecDepth 100000 in
def p5y2_1024 : ck_Sum := ((2, 0, 0), 245, [.inr (.inr (.inl 226)), .inl (ck_one 125)], ([], [], [(234, 125, 125, ck_one 0)]), ([(226, 0, 0)], []), [(.inr (some (.inl (ck_one 0))), 245, ([], [], [(226, 0, 0, ck_one 0)]))])
set_option maxRecDepth 100000 in
theorem p5y2_1024_e : ck_ok p1_O none [] [(286, [p5y2_1023]), (283, [p5y2_147])] 285 [] 98 p5y2_1024 = true := by decide +kernel
theorem p5y2_1024_s {X : Int → Int} {LX : Nat} : ck_Ok p1_O X LX 285 p5y2_1024 := ck_ok_s (ck_E1 (ck_S1 p5y2_1023_s ck_S0) (ck_E1 (ck_S1 p5y2_147_s ck_S0) ck_E0)) ck_X0 ck_l0 p5y2_1024_e
set_option maxRecDepth 100000 in
def p5y2_1029 : ck_Sum := ((0, 0, 0), 245, [.inl (ck_one 126), .inl (ck_one 0), .inl (ck_one 299)], ([], [], []), ([], []), [(.inr (some (.inl (ck_one 1))), 245, ([], [], []))])
set_option maxRecDepth 100000 in
theorem p5y2_1029_e : ck_ok p1_O none [] [] 287 [] 88 p5y2_1029 = true := by decide +kernel
theorem p5y2_1029_s {X : Int → Int} {LX : Nat} : ck_Ok p1_O X LX 287 p5y2_1029 := ck_ok_s (ck_E0) ck_X0 ck_l0 p5y2_1029_e
set_option maxRecDepth 100000 in
def p5y2_1030 : ck_Sum := ((1, 0, 0), 245, [.inl (ck_one 126)], ([], [], []), ([], []), [(.inr (some (.inl (ck_one 0))), 245, ([], [], []))])
set_option maxRecDepth 100000 in
theorem p5y2_1030_e : ck_ok p1_O none [] [(287, [p5y2_1029])] 286 [] 84 p5y2_1030 = true := by decide +kernel
theorem p5y2_1030_s {X : Int → Int} {LX : Nat} : ck_Ok p1_O X LX 286 p5y2_1030 := ck_ok_s (ck_E1 (ck_S1 p5y2_1029_s ck_S0) ck_E0) ck_X0 ck_l0 p5y2_1030_e
set_option maxRecDepth 100000 in
def p5y2_1031 : ck_Sum := ((2, 0, 0), 245, [.inr (.inr (.inl 226)), .inl (ck_one 126)], ([], [], [(234, 126, 126, ck_one 1)]), ([(226, 0, 0)], []), [(.inr (some (.inl (ck_one 1))), 245, ([], [], [(226, 0, 0, ck_one 0)]))])
set_option maxRecDepth 100000 in
theorem p5y2_1031_e : ck_ok p1_O none [] [(286, [p5y2_1030]), (283, [p5y2_147])] 285 [] 98 p5y2_1031 = true := by decide +kernel
theorem p5y2_1031_s {X : Int → Int} {LX : Nat} : ck_Ok p1_O X LX 285 p5y2_1031 := ck_ok_s (ck_E1 (ck_S1 p5y2_1030_s ck_S0) (ck_E1 (ck_S1 p5y2_147_s ck_S0) ck_E0)) ck_X0 ck_l0 p5y2_1031_e
set_option maxRecDepth 100000 in
def p5y2_1036 : ck_Sum := ((0, 0, 0), 245, [.inl (ck_one 127), .inl (ck_one 0), .inl (ck_one 299)], ([], [], []), ([], []), [(.inr (some (.inl (ck_one 1))), 245, ([], [], []))])
set_option maxRecDepth 100000 in
theorem p5y2_1036_e : ck_ok p1_O none [] [] 287 [] 88 p5y2_1036 = true := by decide +kernel
theorem p5y2_1036_s {X : Int → Int} {LX : Nat} : ck_Ok p1_O X LX 287 p5y2_1036 := ck_ok_s (ck_E0) ck_X0 ck_l0 p5y2_1036_e
set_option maxRecDepth 100000 in
def p5y2_1037 : ck_Sum := ((1, 0, 0), 245, [.inl (ck_one 127)], ([], [], []), ([], []), [(.inr (some (.inl (ck_one 0))), 245, ([], [], []))])
set_option maxRecDepth 100000 in
theorem p5y2_1037_e : ck_ok p1_O none [] [(287, [p5y2_1036])] 286 [] 84 p5y2_1037 = true := by decide +kernel
theorem p5y2_1037_s {X : Int → Int} {LX : Nat} : ck_Ok p1_O X LX 286 p5y2_1037 := ck_ok_s (ck_E1 (ck_S1 p5y2_1036_s ck_S0) ck_E0) ck_X0 ck_l0 p5y2_1037_e
set_option maxRecDepth 100000 in
def p5y2_1038 : ck_Sum := ((2, 0, 0), 245, [.inr (.inr (.inl 226)), .inl (ck_one 127)], ([], [], [(234, 127, 127, ck_one 9)]), ([(226, 0, 0)], []), [(.inr (some (.inl (ck_one 9))), 245, ([], [], [(226, 0, 0, ck_one 0)]))])
set_option maxRecDepth 100000 in
theorem p5y2_1038_e : ck_ok p1_O none [] [(286, [p5y2_1037]), (283, [p5y2_147])] 285 [] 98 p5y2_1038 = true := by decide +kernel
theorem p5y2_1038_s {X : Int → Int} {LX : Nat} : ck_Ok p1_O X LX 285 p5y2_1038 := ck_ok_s (ck_E1 (ck_S1 p5y2_1037_s ck_S0) (ck_E1 (ck_S1 p5y2_147_s ck_S0) ck_E0)) ck_X0 ck_l0 p5y2_1038_e
set_option maxRecDepth 100000 in
def p5y2_1043 : ck_Sum := ((0, 0, 0), 245, [.inl (ck_one 128), .inl (ck_one 0), .inl (ck_one 299)], ([], [], []), ([], []), [(.inr (some (.inl (ck_one 1))), 245, ([], [], []))])
set_option maxRecDepth 100000 in
theorem p5y2_1043_e : ck_ok p1_O none [] [] 287 [] 88 p5y2_1043 = true := by decide +kernel
theorem p5y2_1043_s {X : Int → Int} {LX : Nat} : ck_Ok p1_O X LX 287 p5y2_1043 := ck_ok_s (ck_E0) ck_X0 ck_l0 p5y2_1043_e
set_option maxRecDepth 100000 in
def p5y2_1044 : ck_Sum := ((1, 0, 0), 245, [.inl (ck_one 128)], ([], [], []), ([], []), [(.inr (some (.inl (ck_one 0))), 245, ([], [], []))])
set_option maxRecDepth 100000 in
theorem p5y2_1044_e : ck_ok p1_O none [] [(287, [p5y2_1043])] 286 [] 84 p5y2_1044 = true := by decide +kernel
theorem p5y2_1044_s {X : Int → Int} {LX : Nat} : ck_Ok p1_O X LX 286 p5y2_1044 := ck_ok_s (ck_E1 (ck_S1 p5y2_1043_s ck_S0) ck_E0) ck_X0 ck_l0 p5y2_1044_e
set_option maxRecDepth 100000 in
def p5y2_1045 : ck_Sum := ((2, 0, 0), 245, [.inr (.inr (.inl 226)), .inl (ck_one 128)], ([], [], [(234, 128, 128, ck_one 6)]), ([(226, 0, 0)], []), [(.inr (some (.inl (ck_one 6))), 245, ([], [], [(226, 0, 0, ck_one 0)]))])
set_option maxRecDepth 100000 in
theorem p5y2_1045_e : ck_ok p1_O none [] [(286, [p5y2_1044]), (283, [p5y2_147])] 285 [] 98 p5y2_1045 = true := by decide +kernel
theorem p5y2_1045_s {X : Int → Int} {LX : Nat} : ck_Ok p1_O X LX 285 p5y2_1045 := ck_ok_s (ck_E1 (ck_S1 p5y2_1044_s ck_S0) (ck_E1 (ck_S1 p5y2_147_s ck_S0) ck_E0)) ck_X0 ck_l0 p5y2_1045_e
set_option maxRecDepth 100000 in
def p5y2_1050 : ck_Sum := ((0, 0, 0), 245, [.inl (ck_one 129), .inl (ck_one 0), .inl (ck_one 299)], ([], [], []), ([], []), [(.inr (some (.inl (ck_one 1))), 245, ([], [], []))])
set_option maxRecDepth 100000 in
theorem p5y2_1050_e : ck_ok p1_O none [] [] 287 [] 88 p5y2_1050 = true := by decide +kernel
theorem p5y2_1050_s {X : Int → Int} {LX : Nat} : ck_Ok p1_O X LX 287 p5y2_1050 := ck_ok_s (ck_E0) ck_X0 ck_l0 p5y2_1050_e
set_option maxRecDepth 100000 in
def p5y2_1051 : ck_Sum := ((1, 0, 0), 245, [.inl (ck_one 129)], ([], [], []), ([], []), [(.inr (some (.inl (ck_one 0))), 245, ([], [], []))])
set_option maxRecDepth 100000 in
theorem p5y2_1051_e : ck_ok p1_O none [] [(287, [p5y2_1050])] 286 [] 84 p5y2_1051 = true := by decide +kernel
theorem p5y2_1051_s {X : Int → Int} {LX : Nat} : ck_Ok p1_O X LX 286 p5y2_1051 := ck_ok_s (ck_E1 (ck_S1 p5y2_1050_s ck_S0) ck_E0) ck_X0 ck_l0 p5y2_1051_e
set_option maxRecDepth 100000 in
def p5y2_1052 : ck_Sum := ((2, 0, 0), 245, [.inr (.inr (.inl 226)), .inl (ck_one 129)], ([], [], [(234, 129, 129, ck_one 5)]), ([(226, 0, 0)], []), [(.inr (some (.inl (ck_one 5))), 245, ([], [], [(226, 0, 0, ck_one 0)]))])
set_option maxRecDepth 100000 in
theorem p5y2_1052_e : ck_ok p1_O none [] [(286, [p5y2_1051]), (283, [p5y2_147])] 285 [] 98 p5y2_1052 = true := by decide +kernel
theorem p5y2_1052_s {X : Int → Int} {LX : Nat} : ck_Ok p1_O X LX 285 p5y2_1052 := ck_ok_s (ck_E1 (ck_S1 p5y2_1051_s ck_S0) (ck_E1 (ck_S1 p5y2_147_s ck_S0) ck_E0)) ck_X0 ck_l0 p5y2_1052_e
set_option maxRecDepth 100000 in
def p5y2_1057 : ck_Sum := ((0, 0, 0), 245, [.inl (ck_one 130), .inl (ck_one 0), .inl (ck_one 299)], ([], [], []), ([], []), [(.inr (some (.inl (ck_one 1))), 245, ([], [], []))])
set_option maxRecDepth 100000 in
theorem p5y2_1057_e : ck_ok p1_O none [] [] 287 [] 88 p5y2_1057 = true := by decide +kernel
theorem p5y2_1057_s {X : Int → Int} {LX : Nat} : ck_Ok p1_O X LX 287 p5y2_1057 := ck_ok_s (ck_E0) ck_X0 ck_l0 p5y2_1057_e
set_option maxRecDepth 100000 in
def p5y2_1058 : ck_Sum := ((1, 0, 0), 245, [.inl (ck_one 130)], ([], [], []), ([], []), [(.inr (some (.inl (ck_one 0))), 245, ([], [], []))])
set_option maxRecDepth 100000 in
theorem p5y2_1058_e : ck_ok p1_O none [] [(287, [p5y2_1057])] 286 [] 84 p5y2_1058 = true := by decide +kernel
theorem p5y2_1058_s {X : Int → Int} {LX : Nat} : ck_Ok p1_O X LX 286 p5y2_1058 := ck_ok_s (ck_E1 (ck_S1 p5y2_1057_s ck_S0) ck_E0) ck_X0 ck_l0 p5y2_1058_e
set_option maxRecDepth 100000 in
def p5y2_1059 : ck_Sum := ((2, 0, 0), 245, [.inr (.inr (.inl 226)), .inl (ck_one 130)], ([], [], [(234, 130, 130, ck_one 5)]), ([(226, 0, 0)], []), [(.inr (some (.inl (ck_one 5))), 245, ([], [], [(226, 0, 0, ck_one 0)]))])
set_option maxRecDepth 100000 in
theorem p5y2_1059_e : ck_ok p1_O none [] [(286, [p5y2_1058]), (283, [p5y2_147])] 285 [] 98 p5y2_1059 = true := by decide +kernel
theorem p5y2_1059_s {X : Int → Int} {LX : Nat} : ck_Ok p1_O X LX 285 p5y2_1059 := ck_ok_s (ck_E1 (ck_S1 p5y2_1058_s ck_S0) (ck_E1 (ck_S1 p5y2_147_s ck_S0) ck_E0)) ck_X0 ck_l0 p5y2_1059_e
set_option maxRecDepth 100000 in
def p5y2_1064 : ck_Sum := ((0, 0, 0), 245, [.inl (ck_one 131), .inl (ck_one 0), .inl (ck_one 299)], ([], [], []), ([], []), [(.inr (some (.inl (ck_one 1))), 245, ([], [], []))])
set_option maxRecDepth 100000 in
theorem p5y2_1064_e : ck_ok p1_O none [] [] 287 [] 88 p5y2_1064 = true := by decide +kernel
theorem p5y2_1064_s {X : Int → Int} {LX : Nat} : ck_Ok p1_O X LX 287 p5y2_1064 := ck_ok_s (ck_E0) ck_X0 ck_l0 p5y2_1064_e
set_option maxRecDepth 100000 in
def p5y2_1065 : ck_Sum := ((1, 0, 0), 245, [.inl (ck_one 131)], ([], [], []), ([], []), [(.inr (some (.inl (ck_one 0))), 245, ([], [], []))])
set_option maxRecDepth 100000 in
theorem p5y2_1065_e : ck_ok p1_O none [] [(287, [p5y2_1064])] 286 [] 84 p5y2_1065 = true := by decide +kernel
theorem p5y2_1065_s {X : Int → Int} {LX : Nat} : ck_Ok p1_O X LX 286 p5y2_1065 := ck_ok_s (ck_E1 (ck_S1 p5y2_1064_s ck_S0) ck_E0) ck_X0 ck_l0 p5y2_1065_e
set_option maxRecDepth 100000 in
def p5y2_1066 : ck_Sum := ((2, 0, 0), 245, [.inr (.inr (.inl 226)), .inl (ck_one 131)], ([], [], [(234, 131, 131, ck_one 2)]), ([(226, 0, 0)], []), [(.inr (some (.inl (ck_one 2))), 245, ([], [], [(226, 0, 0, ck_one 0)]))])
set_option maxRecDepth 100000 in
theorem p5y2_1066_e : ck_ok p1_O none [] [(286, [p5y2_1065]), (283, [p5y2_147])] 285 [] 98 p5y2_1066 = true := by decide +kernel
theorem p5y2_1066_s {X : Int → Int} {LX : Nat} : ck_Ok p1_O X LX 285 p5y2_1066 := ck_ok_s (ck_E1 (ck_S1 p5y2_1065_s ck_S0) (ck_E1 (ck_S1 p5y2_147_s ck_S0) ck_E0)) ck_X0 ck_l0 p5y2_1066_e
set_option maxRecDepth 100000 in
def p5y2_1071 : ck_Sum := ((0, 0, 0), 245, [.inl (ck_one 132), .inl (ck_one 0), .inl (ck_one 299)], ([], [], []), ([], []), [(.inr (some (.inl (ck_one 1))), 245, ([], [], []))])
set_option maxRecDepth 100000 in
theorem p5y2_1071_e : ck_ok p1_O none [] [] 287 [] 88 p5y2_1071 = true := by decide +kernel
theorem p5y2_1071_s {X : Int → Int} {LX : Nat} : ck_Ok p1_O X LX 287 p5y2_1071 := ck_ok_s (ck_E0) ck_X0 ck_l0 p5y2_1071_e
set_option maxRecDepth 100000 in
def p5y2_1072 : ck_Sum := ((1, 0, 0), 245, [.inl (ck_one 132)], ([], [], []), ([], []), [(.inr (some (.inl (ck_one 0))), 245, ([], [], []))])
set_option maxRecDepth 100000 in
theorem p5y2_1072_e : ck_ok p1_O none [] [(287, [p5y2_1071])] 286 [] 84 p5y2_1072 = true := by decide +kernel
theorem p5y2_1072_s {X : Int → Int} {LX : Nat} : ck_Ok p1_O X LX 286 p5y2_1072 := ck_ok_s (ck_E1 (ck_S1 p5y2_1071_s ck_S0) ck_E0) ck_X0 ck_l0 p5y2_1072_e
set_option maxRecDepth 100000 in
def p5y2_1073 : ck_Sum := ((2, 0, 0), 245, [.inr (.inr (.inl 226)), .inl (ck_one 132)], ([], [], [(234, 132, 132, ck_one 0)]), ([(226, 0, 0)], []), [(.inr (some (.inl (ck_one 0))), 245, ([], [], [(226, 0, 0, ck_one 0)]))])
set_option maxRecDepth 100000 in
theorem p5y2_1073_e : ck_ok p1_O none [] [(286, [p5y2_1072]), (283, [p5y2_147])] 285 [] 98 p5y2_1073 = true := by decide +kernel
theorem p5y2_1073_s {X : Int → Int} {LX : Nat} : ck_Ok p1_O X LX 285 p5y2_1073 := ck_ok_s (ck_E1 (ck_S1 p5y2_1072_s ck_S0) (ck_E1 (ck_S1 p5y2_147_s ck_S0) ck_E0)) ck_X0 ck_l0 p5y2_1073_e
set_option maxRecDepth 100000 in
def p5y2_1078 : ck_Sum := ((0, 0, 0), 245, [.inl (ck_one 133), .inl (ck_one 0), .inl (ck_one 299)], ([], [], []), ([], []), [(.inr (some (.inl (ck_one 1))), 245, ([], [], []))])
set_option maxRecDepth 100000 in
theorem p5y2_1078_e : ck_ok p1_O none [] [] 287 [] 88 p5y2_1078 = true := by decide +kernel
theorem p5y2_1078_s {X : Int → Int} {LX : Nat} : ck_Ok p1_O X LX 287 p5y2_1078 := ck_ok_s (ck_E0) ck_X0 ck_l0 p5y2_1078_e
set_option maxRecDepth 100000 in
def p5y2_1079 : ck_Sum := ((1, 0, 0), 245, [.inl (ck_one 133)], ([], [], []), ([], []), [(.inr (some (.inl (ck_one 0))), 245, ([], [], []))])
set_option maxRecDepth 100000 in
theorem p5y2_1079_e : ck_ok p1_O none [] [(287, [p5y2_1078])] 286 [] 84 p5y2_1079 = true := by decide +kernel
theorem p5y2_1079_s {X : Int → Int} {LX : Nat} : ck_Ok p1_O X LX 286 p5y2_1079 := ck_ok_s (ck_E1 (ck_S1 p5y2_1078_s ck_S0) ck_E0) ck_X0 ck_l0 p5y2_1079_e
set_option maxRecDepth 100000 in
def p5y2_1080 : ck_Sum := ((2, 0, 0), 245, [.inr (.inr (.inl 226)), .inl (ck_one 133)], ([], [], [(234, 133, 133, ck_one 0)]), ([(226, 0, 0)], []), [(.inr (some (.inl (ck_one 0))), 245, ([], [], [(226, 0, 0, ck_one 0)]))])
set_option maxRecDepth 100000 in
theorem p5y2_1080_e : ck_ok p1_O none [] [(286, [p5y2_1079]), (283, [p5y2_147])] 285 [] 98 p5y2_1080 = true := by decide +kernel
theorem p5y2_1080_s {X : Int → Int} {LX : Nat} : ck_Ok p1_O X LX 285 p5y2_1080 := ck_ok_s (ck_E1 (ck_S1 p5y2_1079_s ck_S0) (ck_E1 (ck_S1 p5y2_147_s ck_S0) ck_E0)) ck_X0 ck_l0 p5y2_1080_e
set_option maxRecDepth 100000 in
def p5y2_1085 : ck_Sum := ((0, 0, 0), 245, [.inl (ck_one 134), .inl (ck_one 0), .inl (ck_one 299)], ([], [], []), ([], []), [(.inr (some (.inl (ck_one 1))), 245, ([], [], []))])
set_option maxRecDepth 100000 in
theorem p5y2_1085_e : ck_ok p1_O none [] [] 287 [] 88 p5y2_1085 = true := by decide +kernel
theorem p5y2_1085_s {X : Int → Int} {LX : Nat} : ck_Ok p1_O X LX 287 p5y2_1085 := ck_ok_s (ck_E0) ck_X0 ck_l0 p5y2_1085_e
set_option maxRecDepth 100000 in
def p5y2_1086 : ck_Sum := ((1, 0, 0), 245, [.inl (ck_one 134)], ([], [], []), ([], []), [(.inr (some (.inl (ck_one 0))), 245, ([], [], []))])
set_option maxRecDepth 100000 in
theorem p5y2_1086_e : ck_ok p1_O none [] [(287, [p5y2_1085])] 286 [] 84 p5y2_1086 = true := by decide +kernel
theorem p5y2_1086_s {X : Int → Int} {LX : Nat} : ck_Ok p1_O X LX 286 p5y2_1086 := ck_ok_s (ck_E1 (ck_S1 p5y2_1085_s ck_S0) ck_E0) ck_X0 ck_l0 p5y2_1086_e
set_option maxRecDepth 100000 in
def p5y2_1087 : ck_Sum := ((2, 0, 0), 245, [.inr (.inr (.inl 226)), .inl (ck_one 134)], ([], [], [(234, 134, 134, ck_one 2)]), ([(226, 0, 0)], []), [(.inr (some (.inl (ck_one 2))), 245, ([], [], [(226, 0, 0, ck_one 0)]))])
set_option maxRecDepth 100000 in
theorem p5y2_1087_e : ck_ok p1_O none [] [(286, [p5y2_1086]), (283, [p5y2_147])] 285 [] 98 p5y2_1087 = true := by decide +kernel
theorem p5y2_1087_s {X : Int → Int} {LX : Nat} : ck_Ok p1_O X LX 285 p5y2_1087 := ck_ok_s (ck_E1 (ck_S1 p5y2_1086_s ck_S0) (ck_E1 (ck_S1 p5y2_147_s ck_S0) ck_E0)) ck_X0 ck_l0 p5y2_1087_e
set_option maxRecDepth 100000 in
def p5y2_1092 : ck_Sum := ((0, 0, 0), 245, [.inl (ck_one 135), .inl (ck_one 0), .inl (ck_one 299)], ([], [], []), ([], []), [(.inr (some (.inl (ck_one 1))), 245, ([], [], []))])
set_option maxRecDepth 100000 in
theorem p5y2_1092_e : ck_ok p1_O none [] [] 287 [] 88 p5y2_1092 = true := by decide +kernel
theorem p5y2_1092_s {X : Int → Int} {LX : Nat} : ck_Ok p1_O X LX 287 p5y2_1092 := ck_ok_s (ck_E0) ck_X0 ck_l0 p5y2_1092_e
set_option maxRecDepth 100000 in
def p5y2_1093 : ck_Sum := ((1, 0, 0), 245, [.inl (ck_one 135)], ([], [], []), ([], []), [(.inr (some (.inl (ck_one 0))), 245, ([], [], []))])
set_option maxRecDepth 100000 in
theorem p5y2_1093_e : ck_ok p1_O none [] [(287, [p5y2_1092])] 286 [] 84 p5y2_1093 = true := by decide +kernel
theorem p5y2_1093_s {X : Int → Int} {LX : Nat} : ck_Ok p1_O X LX 286 p5y2_1093 := ck_ok_s (ck_E1 (ck_S1 p5y2_1092_s ck_S0) ck_E0) ck_X0 ck_l0 p5y2_1093_e
set_option maxRecDepth 100000 in
def p5y2_1094 : ck_Sum := ((2, 0, 0), 245, [.inr (.inr (.inl 226)), .inl (ck_one 135)], ([], [], [(234, 135, 135, ck_one 5)]), ([(226, 0, 0)], []), [(.inr (some (.inl (ck_one 5))), 245, ([], [], [(226, 0, 0, ck_one 0)]))])
set_option maxRecDepth 100000 in
theorem p5y2_1094_e : ck_ok p1_O none [] [(286, [p5y2_1093]), (283, [p5y2_147])] 285 [] 98 p5y2_1094 = true := by decide +kernel
theorem p5y2_1094_s {X : Int → Int} {LX : Nat} : ck_Ok p1_O X LX 285 p5y2_1094 := ck_ok_s (ck_E1 (ck_S1 p5y2_1093_s ck_S0) (ck_E1 (ck_S1 p5y2_147_s ck_S0) ck_E0)) ck_X0 ck_l0 p5y2_1094_e
set_option maxRecDepth 100000 in
def p5y2_1099 : ck_Sum := ((0, 0, 0), 245, [.inl (ck_one 136), .inl (ck_one 0), .inl (ck_one 299)], ([], [], []), ([], []), [(.inr (some (.inl (ck_one 1))), 245, ([], [], []))])
set_option maxRecDepth 100000 in
theorem p5y2_1099_e : ck_ok p1_O none [] [] 287 [] 88 p5y2_1099 = true := by decide +kernel
theorem p5y2_1099_s {X : Int → Int} {LX : Nat} : ck_Ok p1_O X LX 287 p5y2_1099 := ck_ok_s (ck_E0) ck_X0 ck_l0 p5y2_1099_e
set_option maxRecDepth 100000 in
def p5y2_1100 : ck_Sum := ((1, 0, 0), 245, [.inl (ck_one 136)], ([], [], []), ([], []), [(.inr (some (.inl (ck_one 0))), 245, ([], [], []))])
set_option maxRecDepth 100000 in
theorem p5y2_1100_e : ck_ok p1_O none [] [(287, [p5y2_1099])] 286 [] 84 p5y2_1100 = true := by decide +kernel
theorem p5y2_1100_s {X : Int → Int} {LX : Nat} : ck_Ok p1_O X LX 286 p5y2_1100 := ck_ok_s (ck_E1 (ck_S1 p5y2_1099_s ck_S0) ck_E0) ck_X0 ck_l0 p5y2_1100_e
set_option maxRecDepth 100000 in
def p5y2_1101 : ck_Sum := ((2, 0, 0), 245, [.inr (.inr (.inl 226)), .inl (ck_one 136)], ([], [], [(234, 136, 136, ck_one 0)]), ([(226, 0, 0)], []), [(.inr (some (.inl (ck_one 0))), 245, ([], [], [(226, 0, 0, ck_one 0)]))])
set_option maxRecDepth 100000 in
theorem p5y2_1101_e : ck_ok p1_O none [] [(286, [p5y2_1100]), (283, [p5y2_147])] 285 [] 98 p5y2_1101 = true := by decide +kernel
theorem p5y2_1101_s {X : Int → Int} {LX : Nat} : ck_Ok p1_O X LX 285 p5y2_1101 := ck_ok_s (ck_E1 (ck_S1 p5y2_1100_s ck_S0) (ck_E1 (ck_S1 p5y2_147_s ck_S0) ck_E0)) ck_X0 ck_l0 p5y2_1101_e
set_option maxRecDepth 100000 in
def p5y2_1106 : ck_Sum := ((0, 0, 0), 245, [.inl (ck_one 137), .inl (ck_one 0), .inl (ck_one 299)], ([], [], []), ([], []), [(.inr (some (.inl (ck_one 1))), 245, ([], [], []))])
set_option maxRecDepth 100000 in
theorem p5y2_1106_e : ck_ok p1_O none [] [] 287 [] 88 p5y2_1106 = true := by decide +kernel
theorem p5y2_1106_s {X : Int → Int} {LX : Nat} : ck_Ok p1_O X LX 287 p5y2_1106 := ck_ok_s (ck_E0) ck_X0 ck_l0 p5y2_1106_e
set_option maxRecDepth 100000 in
def p5y2_1107 : ck_Sum := ((1, 0, 0), 245, [.inl (ck_one 137)], ([], [], []), ([], []), [(.inr (some (.inl (ck_one 0))), 245, ([], [], []))])
set_option maxRecDepth 100000 in
theorem p5y2_1107_e : ck_ok p1_O none [] [(287, [p5y2_1106])] 286 [] 84 p5y2_1107 = true := by decide +kernel
theorem p5y2_1107_s {X : Int → Int} {LX : Nat} : ck_Ok p1_O X LX 286 p5y2_1107 := ck_ok_s (ck_E1 (ck_S1 p5y2_1106_s ck_S0) ck_E0) ck_X0 ck_l0 p5y2_1107_e
set_option maxRecDepth 100000 in
def p5y2_1108 : ck_Sum := ((2, 0, 0), 245, [.inr (.inr (.inl 226)), .inl (ck_one 137)], ([], [], [(234, 137, 137, ck_one 0)]), ([(226, 0, 0)], []), [(.inr (some (.inl (ck_one 0))), 245, ([], [], [(226, 0, 0, ck_one 0)]))])
set_option maxRecDepth 100000 in
theorem p5y2_1108_e : ck_ok p1_O none [] [(286, [p5y2_1107]), (283, [p5y2_147])] 285 [] 98 p5y2_1108 = true := by decide +kernel
theorem p5y2_1108_s {X : Int → Int} {LX : Nat} : ck_Ok p1_O X LX 285 p5y2_1108 := ck_ok_s (ck_E1 (ck_S1 p5y2_1107_s ck_S0) (ck_E1 (ck_S1 p5y2_147_s ck_S0) ck_E0)) ck_X0 ck_l0 p5y2_1108_e
set_option maxRecDepth 100000 in
def p5y2_1113 : ck_Sum := ((0, 0, 0), 245, [.inl (ck_one 138), .inl (ck_one 0), .inl (ck_one 299)], ([], [], []), ([], []), [(.inr (some (.inl (ck_one 1))), 245, ([], [], []))])
set_option maxRecDepth 100000 in
theorem p5y2_1113_e : ck_ok p1_O none [] [] 287 [] 88 p5y2_1113 = true := by decide +kernel
theorem p5y2_1113_s {X : Int → Int} {LX : Nat} : ck_Ok p1_O X LX 287 p5y2_1113 := ck_ok_s (ck_E0) ck_X0 ck_l0 p5y2_1113_e
set_option maxRecDepth 100000 in
def p5y2_1114 : ck_Sum := ((1, 0, 0), 245, [.inl (ck_one 138)], ([], [], []), ([], []), [(.inr (some (.inl (ck_one 0))), 245, ([], [], []))])
set_option maxRecDepth 100000 in
theorem p5y2_1114_e : ck_ok p1_O none [] [(287, [p5y2_1113])] 286 [] 84 p5y2_1114 = true := by decide +kernel
theorem p5y2_1114_s {X : Int → Int} {LX : Nat} : ck_Ok p1_O X LX 286 p5y2_1114 := ck_ok_s (ck_E1 (ck_S1 p5y2_1113_s ck_S0) ck_E0) ck_X0 ck_l0 p5y2_1114_e
set_option maxRecDepth 100000 in
def p5y2_1115 : ck_Sum := ((2, 0, 0), 245, [.inr (.inr (.inl 226)), .inl (ck_one 138)], ([], [], [(234, 138, 138, ck_one 9)]), ([(226, 0, 0)], []), [(.inr (some (.inl (ck_one 9))), 245, ([], [], [(226, 0, 0, ck_one 0)]))])
set_option maxRecDepth 100000 in
theorem p5y2_1115_e : ck_ok p1_O none [] [(286, [p5y2_1114]), (283, [p5y2_147])] 285 [] 98 p5y2_1115 = true := by decide +kernel
theorem p5y2_1115_s {X : Int → Int} {LX : Nat} : ck_Ok p1_O X LX 285 p5y2_1115 := ck_ok_s (ck_E1 (ck_S1 p5y2_1114_s ck_S0) (ck_E1 (ck_S1 p5y2_147_s ck_S0) ck_E0)) ck_X0 ck_l0 p5y2_1115_e
set_option maxRecDepth 100000 in
def p5y2_1120 : ck_Sum := ((0, 0, 0), 245, [.inl (ck_one 139), .inl (ck_one 0), .inl (ck_one 299)], ([], [], []), ([], []), [(.inr (some (.inl (ck_one 1))), 245, ([], [], []))])
set_option maxRecDepth 100000 in
theorem p5y2_1120_e : ck_ok p1_O none [] [] 287 [] 88 p5y2_1120 = true := by decide +kernel
theorem p5y2_1120_s {X : Int → Int} {LX : Nat} : ck_Ok p1_O X LX 287 p5y2_1120 := ck_ok_s (ck_E0) ck_X0 ck_l0 p5y2_1120_e
set_option maxRecDepth 100000 in
def p5y2_1121 : ck_Sum := ((1, 0, 0), 245, [.inl (ck_one 139)], ([], [], []), ([], []), [(.inr (some (.inl (ck_one 0))), 245, ([], [], []))])
set_option maxRecDepth 100000 in
theorem p5y2_1121_e : ck_ok p1_O none [] [(287, [p5y2_1120])] 286 [] 84 p5y2_1121 = true := by decide +kernel
theorem p5y2_1121_s {X : Int → Int} {LX : Nat} : ck_Ok p1_O X LX 286 p5y2_1121 := ck_ok_s (ck_E1 (ck_S1 p5y2_1120_s ck_S0) ck_E0) ck_X0 ck_l0 p5y2_1121_e
set_option maxRecDepth 100000 in
def p5y2_1122 : ck_Sum := ((2, 0, 0), 245, [.inr (.inr (.inl 226)), .inl (ck_one 139)], ([], [], [(234, 139, 139, ck_one 4)]), ([(226, 0, 0)], []), [(.inr (some (.inl (ck_one 4))), 245, ([], [], [(226, 0, 0, ck_one 0)]))])
set_option maxRecDepth 100000 in
theorem p5y2_1122_e : ck_ok p1_O none [] [(286, [p5y2_1121]), (283, [p5y2_147])] 285 [] 98 p5y2_1122 = true := by decide +kernel
theorem p5y2_1122_s {X : Int → Int} {LX : Nat} : ck_Ok p1_O X LX 285 p5y2_1122 := ck_ok_s (ck_E1 (ck_S1 p5y2_1121_s ck_S0) (ck_E1 (ck_S1 p5y2_147_s ck_S0) ck_E0)) ck_X0 ck_l0 p5y2_1122_e
set_option maxRecDepth 100000 in
def p5y2_1127 : ck_Sum := ((0, 0, 0), 245, [.inl (ck_one 140), .inl (ck_one 0), .inl (ck_one 299)], ([], [], []), ([], []), [(.inr (some (.inl (ck_one 1))), 245, ([], [], []))])
set_option maxRecDepth 100000 in
theorem p5y2_1127_e : ck_ok p1_O none [] [] 287 [] 88 p5y2_1127 = true := by decide +kernel
theorem p5y2_1127_s {X : Int → Int} {LX : Nat} : ck_Ok p1_O X LX 287 p5y2_1127 := ck_ok_s (ck_E0) ck_X0 ck_l0 p5y2_1127_e
set_option maxRecDepth 100000 in
def p5y2_1128 : ck_Sum := ((1, 0, 0), 245, [.inl (ck_one 140)], ([], [], []), ([], []), [(.inr (some (.inl (ck_one 0))), 245, ([], [], []))])
set_option maxRecDepth 100000 in
theorem p5y2_1128_e : ck_ok p1_O none [] [(287, [p5y2_1127])] 286 [] 84 p5y2_1128 = true := by decide +kernel
theorem p5y2_1128_s {X : Int → Int} {LX : Nat} : ck_Ok p1_O X LX 286 p5y2_1128 := ck_ok_s (ck_E1 (ck_S1 p5y2_1127_s ck_S0) ck_E0) ck_X0 ck_l0 p5y2_1128_e
set_option maxRecDepth 100000 in
def p5y2_1129 : ck_Sum := ((2, 0, 0), 245, [.inr (.inr (.inl 226)), .inl (ck_one 140)], ([], [], [(234, 140, 140, ck_one 5)]), ([(226, 0, 0)], []), [(.inr (some (.inl (ck_one 5))), 245, ([], [], [(226, 0, 0, ck_one 0)]))])
set_option maxRecDepth 100000 in
theorem p5y2_1129_e : ck_ok p1_O none [] [(286, [p5y2_1128]), (283, [p5y2_147])] 285 [] 98 p5y2_1129 = true := by decide +kernel
theorem p5y2_1129_s {X : Int → Int} {LX : Nat} : ck_Ok p1_O X LX 285 p5y2_1129 := ck_ok_s (ck_E1 (ck_S1 p5y2_1128_s ck_S0) (ck_E1 (ck_S1 p5y2_147_s ck_S0) ck_E0)) ck_X0 ck_l0 p5y2_1129_e
set_option maxRecDepth 100000 in
def p5y2_1134 : ck_Sum := ((0, 0, 0), 245, [.inl (ck_one 141), .inl (ck_one 0), .inl (ck_one 299)], ([], [], []), ([], []), [(.inr (some (.inl (ck_one 1))), 245, ([], [], []))])
set_option maxRecDepth 100000 in
theorem p5y2_1134_e : ck_ok p1_O none [] [] 287 [] 88 p5y2_1134 = true := by decide +kernel
theorem p5y2_1134_s {X : Int → Int} {LX : Nat} : ck_Ok p1_O X LX 287 p5y2_1134 := ck_ok_s (ck_E0) ck_X0 ck_l0 p5y2_1134_e
set_option maxRecDepth 100000 in
def p5y2_1135 : ck_Sum := ((1, 0, 0), 245, [.inl (ck_one 141)], ([], [], []), ([], []), [(.inr (some (.inl (ck_one 0))), 245, ([], [], []))])
set_option maxRecDepth 100000 in
theorem p5y2_1135_e : ck_ok p1_O none [] [(287, [p5y2_1134])] 286 [] 84 p5y2_1135 = true := by decide +kernel
theorem p5y2_1135_s {X : Int → Int} {LX : Nat} : ck_Ok p1_O X LX 286 p5y2_1135 := ck_ok_s (ck_E1 (ck_S1 p5y2_1134_s ck_S0) ck_E0) ck_X0 ck_l0 p5y2_1135_e
set_option maxRecDepth 100000 in
def p5y2_1136 : ck_Sum := ((2, 0, 0), 245, [.inr (.inr (.inl 226)), .inl (ck_one 141)], ([], [], [(234, 141, 141, ck_one 5)]), ([(226, 0, 0)], []), [(.inr (some (.inl (ck_one 5))), 245, ([], [], [(226, 0, 0, ck_one 0)]))])
set_option maxRecDepth 100000 in
theorem p5y2_1136_e : ck_ok p1_O none [] [(286, [p5y2_1135]), (283, [p5y2_147])] 285 [] 98 p5y2_1136 = true := by decide +kernel
theorem p5y2_1136_s {X : Int → Int} {LX : Nat} : ck_Ok p1_O X LX 285 p5y2_1136 := ck_ok_s (ck_E1 (ck_S1 p5y2_1135_s ck_S0) (ck_E1 (ck_S1 p5y2_147_s ck_S0) ck_E0)) ck_X0 ck_l0 p5y2_1136_e
set_option maxRecDepth 100000 in
def p5y2_1141 : ck_Sum := ((0, 0, 0), 245, [.inl (ck_one 142), .inl (ck_one 0), .inl (ck_one 299)], ([], [], []), ([], []), [(.inr (some (.inl (ck_one 1))), 245, ([], [], []))])
set_option maxRecDepth 100000 in
theorem p5y2_1141_e : ck_ok p1_O none [] [] 287 [] 88 p5y2_1141 = true := by decide +kernel
theorem p5y2_1141_s {X : Int → Int} {LX : Nat} : ck_Ok p1_O X LX 287 p5y2_1141 := ck_ok_s (ck_E0) ck_X0 ck_l0 p5y2_1141_e
set_option maxRecDepth 100000 in
def p5y2_1142 : ck_Sum := ((1, 0, 0), 245, [.inl (ck_one 142)], ([], [], []), ([], []), [(.inr (some (.inl (ck_one 0))), 245, ([], [], []))])
set_option maxRecDepth 100000 in
theorem p5y2_1142_e : ck_ok p1_O none [] [(287, [p5y2_1141])] 286 [] 84 p5y2_1142 = true := by decide +kernel
theorem p5y2_1142_s {X : Int → Int} {LX : Nat} : ck_Ok p1_O X LX 286 p5y2_1142 := ck_ok_s (ck_E1 (ck_S1 p5y2_1141_s ck_S0) ck_E0) ck_X0 ck_l0 p5y2_1142_e
set_option maxRecDepth 100000 in
def p5y2_1143 : ck_Sum := ((2, 0, 0), 245, [.inr (.inr (.inl 226)), .inl (ck_one 142)], ([], [], [(234, 142, 142, ck_one 5)]), ([(226, 0, 0)], []), [(.inr (some (.inl (ck_one 5))), 245, ([], [], [(226, 0, 0, ck_one 0)]))])
set_option maxRecDepth 100000 in
theorem p5y2_1143_e : ck_ok p1_O none [] [(286, [p5y2_1142]), (283, [p5y2_147])] 285 [] 98 p5y2_1143 = true := by decide +kernel
theorem p5y2_1143_s {X : Int → Int} {LX : Nat} : ck_Ok p1_O X LX 285 p5y2_1143 := ck_ok_s (ck_E1 (ck_S1 p5y2_1142_s ck_S0) (ck_E1 (ck_S1 p5y2_147_s ck_S0) ck_E0)) ck_X0 ck_l0 p5y2_1143_e
set_option maxRecDepth 100000 in
def p5y2_1148 : ck_Sum := ((0, 0, 0), 245, [.inl (ck_one 143), .inl (ck_one 0), .inl (ck_one 299)], ([], [], []), ([], []), [(.inr (some (.inl (ck_one 1))), 245, ([], [], []))])
set_option maxRecDepth 100000 in
theorem p5y2_1148_e : ck_ok p1_O none [] [] 287 [] 88 p5y2_1148 = true := by decide +kernel
theorem p5y2_1148_s {X : Int → Int} {LX : Nat} : ck_Ok p1_O X LX 287 p5y2_1148 := ck_ok_s (ck_E0) ck_X0 ck_l0 p5y2_1148_e
set_option maxRecDepth 100000 in
def p5y2_1149 : ck_Sum := ((1, 0, 0), 245, [.inl (ck_one 143)], ([], [], []), ([], []), [(.inr (some (.inl (ck_one 0))), 245, ([], [], []))])
set_option maxRecDepth 100000 in
theorem p5y2_1149_e : ck_ok p1_O none [] [(287, [p5y2_1148])] 286 [] 84 p5y2_1149 = true := by decide +kernel
theorem p5y2_1149_s {X : Int → Int} {LX : Nat} : ck_Ok p1_O X LX 286 p5y2_1149 := ck_ok_s (ck_E1 (ck_S1 p5y2_1148_s ck_S0) ck_E0) ck_X0 ck_l0 p5y2_1149_e
set_option maxRecDepth 100000 in
def p5y2_1150 : ck_Sum := ((2, 0, 0), 245, [.inr (.inr (.inl 226)), .inl (ck_one 143)], ([], [], [(234, 143, 143, ck_one 5)]), ([(226, 0, 0)], []), [(.inr (some (.inl (ck_one 5))), 245, ([], [], [(226, 0, 0, ck_one 0)]))])
set_option maxRecDepth 100000 in
theorem p5y2_1150_e : ck_ok p1_O none [] [(286, [p5y2_1149]), (283, [p5y2_147])] 285 [] 98 p5y2_1150 = true := by decide +kernel
theorem p5y2_1150_s {X : Int → Int} {LX : Nat} : ck_Ok p1_O X LX 285 p5y2_1150 := ck_ok_s (ck_E1 (ck_S1 p5y2_1149_s ck_S0) (ck_E1 (ck_S1 p5y2_147_s ck_S0) ck_E0)) ck_X0 ck_l0 p5y2_1150_e
set_option maxRecDepth 100000 in
def p5y2_1155 : ck_Sum := ((0, 0, 0), 245, [.inl (ck_one 144), .inl (ck_one 0), .inl (ck_one 299)], ([], [], []), ([], []), [(.inr (some (.inl (ck_one 1))), 245, ([], [], []))])
set_option maxRecDepth 100000 in
theorem p5y2_1155_e : ck_ok p1_O none [] [] 287 [] 88 p5y2_1155 = true := by decide +kernel
theorem p5y2_1155_s {X : Int → Int} {LX : Nat} : ck_Ok p1_O X LX 287 p5y2_1155 := ck_ok_s (ck_E0) ck_X0 ck_l0 p5y2_1155_e
set_option maxRecDepth 100000 in
def p5y2_1156 : ck_Sum := ((1, 0, 0), 245, [.inl (ck_one 144)], ([], [], []), ([], []), [(.inr (some (.inl (ck_one 0))), 245, ([], [], []))])
set_option maxRecDepth 100000 in
theorem p5y2_1156_e : ck_ok p1_O none [] [(287, [p5y2_1155])] 286 [] 84 p5y2_1156 = true := by decide +kernel
theorem p5y2_1156_s {X : Int → Int} {LX : Nat} : ck_Ok p1_O X LX 286 p5y2_1156 := ck_ok_s (ck_E1 (ck_S1 p5y2_1155_s ck_S0) ck_E0) ck_X0 ck_l0 p5y2_1156_e
set_option maxRecDepth 100000 in
def p5y2_1157 : ck_Sum := ((2, 0, 0), 245, [.inr (.inr (.inl 226)), .inl (ck_one 144)], ([], [], [(234, 144, 144, ck_one 4)]), ([(226, 0, 0)], []), [(.inr (some (.inl (ck_one 4))), 245, ([], [], [(226, 0, 0, ck_one 0)]))])
set_option maxRecDepth 100000 in
theorem p5y2_1157_e : ck_ok p1_O none [] [(286, [p5y2_1156]), (283, [p5y2_147])] 285 [] 98 p5y2_1157 = true := by decide +kernel
theorem p5y2_1157_s {X : Int → Int} {LX : Nat} : ck_Ok p1_O X LX 285 p5y2_1157 := ck_ok_s (ck_E1 (ck_S1 p5y2_1156_s ck_S0) (ck_E1 (ck_S1 p5y2_147_s ck_S0) ck_E0)) ck_X0 ck_l0 p5y2_1157_e
set_option maxRecDepth 100000 in
def p5y2_1162 : ck_Sum := ((0, 0, 0), 245, [.inl (ck_one 145), .inl (ck_one 0), .inl (ck_one 299)], ([], [], []), ([], []), [(.inr (some (.inl (ck_one 1))), 245, ([], [], []))])
set_option maxRecDepth 100000 in
theorem p5y2_1162_e : ck_ok p1_O none [] [] 287 [] 88 p5y2_1162 = true := by decide +kernel
theorem p5y2_1162_s {X : Int → Int} {LX : Nat} : ck_Ok p1_O X LX 287 p5y2_1162 := ck_ok_s (ck_E0) ck_X0 ck_l0 p5y2_1162_e
set_option maxRecDepth 100000 in
def p5y2_1163 : ck_Sum := ((1, 0, 0), 245, [.inl (ck_one 145)], ([], [], []), ([], []), [(.inr (some (.inl (ck_one 0))), 245, ([], [], []))])
set_option maxRecDepth 100000 in
theorem p5y2_1163_e : ck_ok p1_O none [] [(287, [p5y2_1162])] 286 [] 84 p5y2_1163 = true := by decide +kernel
theorem p5y2_1163_s {X : Int → Int} {LX : Nat} : ck_Ok p1_O X LX 286 p5y2_1163 := ck_ok_s (ck_E1 (ck_S1 p5y2_1162_s ck_S0) ck_E0) ck_X0 ck_l0 p5y2_1163_e
set_option maxRecDepth 100000 in
def p5y2_1164 : ck_Sum := ((2, 0, 0), 245, [.inr (.inr (.inl 226)), .inl (ck_one 145)], ([], [], [(234, 145, 145, ck_one 1)]), ([(226, 0, 0)], []), [(.inr (some (.inl (ck_one 1))), 245, ([], [], [(226, 0, 0, ck_one 0)]))])
set_option maxRecDepth 100000 in
theorem p5y2_1164_e : ck_ok p1_O none [] [(286, [p5y2_1163]), (283, [p5y2_147])] 285 [] 98 p5y2_1164 = true := by decide +kernel
theorem p5y2_1164_s {X : Int → Int} {LX : Nat} : ck_Ok p1_O X LX 285 p5y2_1164 := ck_ok_s (ck_E1 (ck_S1 p5y2_1163_s ck_S0) (ck_E1 (ck_S1 p5y2_147_s ck_S0) ck_E0)) ck_X0 ck_l0 p5y2_1164_e
set_option maxRecDepth 100000 in
def p5y2_1169 : ck_Sum := ((0, 0, 0), 245, [.inl (ck_one 146), .inl (ck_one 0), .inl (ck_one 299)], ([], [], []), ([], []), [(.inr (some (.inl (ck_one 1))), 245, ([], [], []))])
set_option maxRecDepth 100000 in
theorem p5y2_1169_e : ck_ok p1_O none [] [] 287 [] 88 p5y2_1169 = true := by decide +kernel
theorem p5y2_1169_s {X : Int → Int} {LX : Nat} : ck_Ok p1_O X LX 287 p5y2_1169 := ck_ok_s (ck_E0) ck_X0 ck_l0 p5y2_1169_e
set_option maxRecDepth 100000 in
def p5y2_1170 : ck_Sum := ((1, 0, 0), 245, [.inl (ck_one 146)], ([], [], []), ([], []), [(.inr (some (.inl (ck_one 0))), 245, ([], [], []))])
set_option maxRecDepth 100000 in
theorem p5y2_1170_e : ck_ok p1_O none [] [(287, [p5y2_1169])] 286 [] 84 p5y2_1170 = true := by decide +kernel
theorem p5y2_1170_s {X : Int → Int} {LX : Nat} : ck_Ok p1_O X LX 286 p5y2_1170 := ck_ok_s (ck_E1 (ck_S1 p5y2_1169_s ck_S0) ck_E0) ck_X0 ck_l0 p5y2_1170_e
set_option maxRecDepth 100000 in
def p5y2_1171 : ck_Sum := ((2, 0, 0), 245, [.inr (.inr (.inl 226)), .inl (ck_one 146)], ([], [], [(234, 146, 146, ck_one 6)]), ([(226, 0, 0)], []), [(.inr (some (.inl (ck_one 6))), 245, ([], [], [(226, 0, 0, ck_one 0)]))])
set_option maxRecDepth 100000 in
theorem p5y2_1171_e : ck_ok p1_O none [] [(286, [p5y2_1170]), (283, [p5y2_147])] 285 [] 98 p5y2_1171 = true := by decide +kernel
theorem p5y2_1171_s {X : Int → Int} {LX : Nat} : ck_Ok p1_O X LX 285 p5y2_1171 := ck_ok_s (ck_E1 (ck_S1 p5y2_1170_s ck_S0) (ck_E1 (ck_S1 p5y2_147_s ck_S0) ck_E0)) ck_X0 ck_l0 p5y2_1171_e
set_option maxRecDepth 100000 in
def p5y2_1176 : ck_Sum := ((0, 0, 0), 245, [.inl (ck_one 147), .inl (ck_one 0), .inl (ck_one 299)], ([], [], []), ([], []), [(.inr (some (.inl (ck_one 1))), 245, ([], [], []))])
set_option maxRecDepth 100000 in
theorem p5y2_1176_e : ck_ok p1_O none [] [] 287 [] 88 p5y2_1176 = true := by decide +kernel
theorem p5y2_1176_s {X : Int → Int} {LX : Nat} : ck_Ok p1_O X LX 287 p5y2_1176 := ck_ok_s (ck_E0) ck_X0 ck_l0 p5y2_1176_e
set_option maxRecDepth 100000 in
def p5y2_1177 : ck_Sum := ((1, 0, 0), 245, [.inl (ck_one 147)], ([], [], []), ([], []), [(.inr (some (.inl (ck_one 0))), 245, ([], [], []))])
set_option maxRecDepth 100000 in
theorem p5y2_1177_e : ck_ok p1_O none [] [(287, [p5y2_1176])] 286 [] 84 p5y2_1177 = true := by decide +kernel
theorem p5y2_1177_s {X : Int → Int} {LX : Nat} : ck_Ok p1_O X LX 286 p5y2_1177 := ck_ok_s (ck_E1 (ck_S1 p5y2_1176_s ck_S0) ck_E0) ck_X0 ck_l0 p5y2_1177_e
set_option maxRecDepth 100000 in
def p5y2_1178 : ck_Sum := ((2, 0, 0), 245, [.inr (.inr (.inl 226)), .inl (ck_one 147)], ([], [], [(234, 147, 147, ck_one 7)]), ([(226, 0, 0)], []), [(.inr (some (.inl (ck_one 7))), 245, ([], [], [(226, 0, 0, ck_one 0)]))])
set_option maxRecDepth 100000 in
theorem p5y2_1178_e : ck_ok p1_O none [] [(286, [p5y2_1177]), (283, [p5y2_147])] 285 [] 98 p5y2_1178 = true := by decide +kernel
theorem p5y2_1178_s {X : Int → Int} {LX : Nat} : ck_Ok p1_O X LX 285 p5y2_1178 := ck_ok_s (ck_E1 (ck_S1 p5y2_1177_s ck_S0) (ck_E1 (ck_S1 p5y2_147_s ck_S0) ck_E0)) ck_X0 ck_l0 p5y2_1178_e
set_option maxRecDepth 100000 in
def p5y2_1183 : ck_Sum := ((0, 0, 0), 245, [.inl (ck_one 148), .inl (ck_one 0), .inl (ck_one 299)], ([], [], []), ([], []), [(.inr (some (.inl (ck_one 1))), 245, ([], [], []))])
set_option maxRecDepth 100000 in
theorem p5y2_1183_e : ck_ok p1_O none [] [] 287 [] 88 p5y2_1183 = true := by decide +kernel
theorem p5y2_1183_s {X : Int → Int} {LX : Nat} : ck_Ok p1_O X LX 287 p5y2_1183 := ck_ok_s (ck_E0) ck_X0 ck_l0 p5y2_1183_e
set_option maxRecDepth 100000 in
def p5y2_1184 : ck_Sum := ((1, 0, 0), 245, [.inl (ck_one 148)], ([], [], []), ([], []), [(.inr (some (.inl (ck_one 0))), 245, ([], [], []))])
set_option maxRecDepth 100000 in
theorem p5y2_1184_e : ck_ok p1_O none [] [(287, [p5y2_1183])] 286 [] 84 p5y2_1184 = true := by decide +kernel
theorem p5y2_1184_s {X : Int → Int} {LX : Nat} : ck_Ok p1_O X LX 286 p5y2_1184 := ck_ok_s (ck_E1 (ck_S1 p5y2_1183_s ck_S0) ck_E0) ck_X0 ck_l0 p5y2_1184_e
set_option maxRecDepth 100000 in
def p5y2_1185 : ck_Sum := ((2, 0, 0), 245, [.inr (.inr (.inl 226)), .inl (ck_one 148)], ([], [], [(234, 148, 148, ck_one 3)]), ([(226, 0, 0)], []), [(.inr (some (.inl (ck_one 3))), 245, ([], [], [(226, 0, 0, ck_one 0)]))])
set_option maxRecDepth 100000 in
theorem p5y2_1185_e : ck_ok p1_O none [] [(286, [p5y2_1184]), (283, [p5y2_147])] 285 [] 98 p5y2_1185 = true := by decide +kernel
theorem p5y2_1185_s {X : Int → Int} {LX : Nat} : ck_Ok p1_O X LX 285 p5y2_1185 := ck_ok_s (ck_E1 (ck_S1 p5y2_1184_s ck_S0) (ck_E1 (ck_S1 p5y2_147_s ck_S0) ck_E0)) ck_X0 ck_l0 p5y2_1185_e
set_option maxRecDepth 100000 in
def p5y2_1190 : ck_Sum := ((0, 0, 0), 245, [.inl (ck_one 149), .inl (ck_one 0), .inl (ck_one 299)], ([], [], []), ([], []), [(.inr (some (.inl (ck_one 1))), 245, ([], [], []))])
set_option maxRecDepth 100000 in
theorem p5y2_1190_e : ck_ok p1_O none [] [] 287 [] 88 p5y2_1190 = true := by decide +kernel
theorem p5y2_1190_s {X : Int → Int} {LX : Nat} : ck_Ok p1_O X LX 287 p5y2_1190 := ck_ok_s (ck_E0) ck_X0 ck_l0 p5y2_1190_e
set_option maxRecDepth 100000 in
def p5y2_1191 : ck_Sum := ((1, 0, 0), 245, [.inl (ck_one 149)], ([], [], []), ([], []), [(.inr (some (.inl (ck_one 0))), 245, ([], [], []))])
set_option maxRecDepth 100000 in
theorem p5y2_1191_e : ck_ok p1_O none [] [(287, [p5y2_1190])] 286 [] 84 p5y2_1191 = true := by decide +kernel
theorem p5y2_1191_s {X : Int → Int} {LX : Nat} : ck_Ok p1_O X LX 286 p5y2_1191 := ck_ok_s (ck_E1 (ck_S1 p5y2_1190_s ck_S0) ck_E0) ck_X0 ck_l0 p5y2_1191_e
set_option maxRecDepth 100000 in
def p5y2_1192 : ck_Sum := ((2, 0, 0), 245, [.inr (.inr (.inl 226)), .inl (ck_one 149)], ([], [], [(234, 149, 149, ck_one 7)]), ([(226, 0, 0)], []), [(.inr (some (.inl (ck_one 7))), 245, ([], [], [(226, 0, 0, ck_one 0)]))])
set_option maxRecDepth 100000 in
theorem p5y2_1192_e : ck_ok p1_O none [] [(286, [p5y2_1191]), (283, [p5y2_147])] 285 [] 98 p5y2_1192 = true := by decide +kernel
theorem p5y2_1192_s {X : Int → Int} {LX : Nat} : ck_Ok p1_O X LX 285 p5y2_1192 := ck_ok_s (ck_E1 (ck_S1 p5y2_1191_s ck_S0) (ck_E1 (ck_S1 p5y2_147_s ck_S0) ck_E0)) ck_X0 ck_l0 p5y2_1192_e
set_option maxRecDepth 100000 in
def p5y2_1197 : ck_Sum := ((0, 0, 0), 245, [.inl (ck_one 150), .inl (ck_one 0), .inl (ck_one 299)], ([], [], []), ([], []), [(.inr (some (.inl (ck_one 1))), 245, ([], [], []))])
set_option maxRecDepth 100000 in
theorem p5y2_1197_e : ck_ok p1_O none [] [] 287 [] 88 p5y2_1197 = true := by decide +kernel
theorem p5y2_1197_s {X : Int → Int} {LX : Nat} : ck_Ok p1_O X LX 287 p5y2_1197 := ck_ok_s (ck_E0) ck_X0 ck_l0 p5y2_1197_e
set_option maxRecDepth 100000 in
def p5y2_1198 : ck_Sum := ((1, 0, 0), 245, [.inl (ck_one 150)], ([], [], []), ([], []), [(.inr (some (.inl (ck_one 0))), 245, ([], [], []))])
set_option maxRecDepth 100000 in
theorem p5y2_1198_e : ck_ok p1_O none [] [(287, [p5y2_1197])] 286 [] 84 p5y2_1198 = true := by decide +kernel
theorem p5y2_1198_s {X : Int → Int} {LX : Nat} : ck_Ok p1_O X LX 286 p5y2_1198 := ck_ok_s (ck_E1 (ck_S1 p5y2_1197_s ck_S0) ck_E0) ck_X0 ck_l0 p5y2_1198_e
set_option maxRecDepth 100000 in
def p5y2_1199 : ck_Sum := ((2, 0, 0), 245, [.inr (.inr (.inl 226)), .inl (ck_one 150)], ([], [], [(234, 150, 150, ck_one 9)]), ([(226, 0, 0)], []), [(.inr (some (.inl (ck_one 9))), 245, ([], [], [(226, 0, 0, ck_one 0)]))])
set_option maxRecDepth 100000 in
theorem p5y2_1199_e : ck_ok p1_O none [] [(286, [p5y2_1198]), (283, [p5y2_147])] 285 [] 98 p5y2_1199 = true := by decide +kernel
theorem p5y2_1199_s {X : Int → Int} {LX : Nat} : ck_Ok p1_O X LX 285 p5y2_1199 := ck_ok_s (ck_E1 (ck_S1 p5y2_1198_s ck_S0) (ck_E1 (ck_S1 p5y2_147_s ck_S0) ck_E0)) ck_X0 ck_l0 p5y2_1199_e
set_option maxRecDepth 100000 in
def p5y2_1204 : ck_Sum := ((0, 0, 0), 245, [.inl (ck_one 151), .inl (ck_one 0), .inl (ck_one 299)], ([], [], []), ([], []), [(.inr (some (.inl (ck_one 1))), 245, ([], [], []))])
set_option maxRecDepth 100000 in
theorem p5y2_1204_e : ck_ok p1_O none [] [] 287 [] 88 p5y2_1204 = true := by decide +kernel
theorem p5y2_1204_s {X : Int → Int} {LX : Nat} : ck_Ok p1_O X LX 287 p5y2_1204 := ck_ok_s (ck_E0) ck_X0 ck_l0 p5y2_1204_e
set_option maxRecDepth 100000 in
def p5y2_1205 : ck_Sum := ((1, 0, 0), 245, [.inl (ck_one 151)], ([], [], []), ([], []), [(.inr (some (.inl (ck_one 0))), 245, ([], [], []))])
set_option maxRecDepth 100000 in
theorem p5y2_1205_e : ck_ok p1_O none [] [(287, [p5y2_1204])] 286 [] 84 p5y2_1205 = true := by decide +kernel
theorem p5y2_1205_s {X : Int → Int} {LX : Nat} : ck_Ok p1_O X LX 286 p5y2_1205 := ck_ok_s (ck_E1 (ck_S1 p5y2_1204_s ck_S0) ck_E0) ck_X0 ck_l0 p5y2_1205_e
set_option maxRecDepth 100000 in
def p5y2_1206 : ck_Sum := ((2, 0, 0), 245, [.inr (.inr (.inl 226)), .inl (ck_one 151)], ([], [], [(234, 151, 151, ck_one 7)]), ([(226, 0, 0)], []), [(.inr (some (.inl (ck_one 7))), 245, ([], [], [(226, 0, 0, ck_one 0)]))])
set_option maxRecDepth 100000 in
theorem p5y2_1206_e : ck_ok p1_O none [] [(286, [p5y2_1205]), (283, [p5y2_147])] 285 [] 98 p5y2_1206 = true := by decide +kernel
theorem p5y2_1206_s {X : Int → Int} {LX : Nat} : ck_Ok p1_O X LX 285 p5y2_1206 := ck_ok_s (ck_E1 (ck_S1 p5y2_1205_s ck_S0) (ck_E1 (ck_S1 p5y2_147_s ck_S0) ck_E0)) ck_X0 ck_l0 p5y2_1206_e
set_option maxRecDepth 100000 in
def p5y2_149 : ck_Sum := ((0, 0, 0), 245, [.inr (.inr (.inl 226))], ([], [], [(226, 0, 0, ck_one 0)]), ([], []), [(.inr (some (.inl (ck_one 0))), 245, ([], [], []))])
set_option maxRecDepth 100000 in
theorem p5y2_149_e : ck_ok p1_O none [] [] 234 [] 76 p5y2_149 = true := by decide +kernel
theorem p5y2_149_s {X : Int → Int} {LX : Nat} : ck_Ok p1_O X LX 234 p5y2_149 := ck_ok_s (ck_E0) ck_X0 ck_l0 p5y2_149_e
set_option maxRecDepth 100000 in
def p5y2_F : ck_F := ([], [(3, 8, 0), (16, 8, 0), (29, 8, 0), (44, 8, 0), (57, 8, 0), (70, 8, 0), (83, 8, 0), (96, 8, 0), (109, 8, 0), (122, 8, 0), (135, 8, 0), (148, 8, 0), (161, 8, 0), (174, 8, 0), (187, 8, 0)], [(245, 0, 0, ck_one 0), (234, 151, 151, ck_one 7), (234, 150, 150, ck_one 9), (234, 149, 149, ck_one 7), (234, 148, 148, ck_one 3), (234, 147, 147, ck_one 7), (234, 146, 146, ck_one 6), (234, 145, 145, ck_one 1), (234, 144, 144, ck_one 4), (234, 143, 143, ck_one 5), (234, 142, 142, ck_one 5), (234, 141, 141, ck_one 5), (234, 140, 140, ck_one 5), (234, 139, 139, ck_one 4), (234, 138, 138, ck_one 9), (234, 137, 137, ck_one 0), (234, 136, 136, ck_one 0), (234, 135, 135, ck_one 5), (234, 134, 134, ck_one 2), (234, 133, 133, ck_one 0), (234, 132, 132, ck_one 0), (234, 131, 131, ck_one 2), (234, 130, 130, ck_one 5), (234, 129, 129, ck_one 5), (234, 128, 128, ck_one 6), (234, 127, 127, ck_one 9), (234, 126, 126, ck_one 1), (234, 125, 125, ck_one 0), (234, 124, 124, ck_one 3), (234, 123, 123, ck_one 7), (234, 122, 122, ck_one 6), (234, 121, 121, ck_one 2), (234, 120, 120, ck_one 6), (234, 119, 119, ck_one 9), (234, 118, 118, ck_one 0), (234, 117, 117, ck_one 0), (234, 116, 116, ck_one 8), (234, 115, 115, ck_one 0), (234, 114, 114, ck_one 3), (234, 113, 113, ck_one 4), (234, 112, 112, ck_one 3), (234, 111, 111, ck_one 8), (234, 110, 110, ck_one 1), (234, 109, 109, ck_one 4), (234, 108, 108, ck_one 6), (234, 107, 107, ck_one 3), (234, 106, 106, ck_one 6), (234, 105, 105, ck_one 5), (234, 104, 104, ck_one 2), (234, 103, 103, ck_one 7), (234, 102, 102, ck_one 4), (234, 101, 101, ck_one 1), (226, 0, 0, ck_one 0), (201, 151, 151, ck_one 7), (201, 150, 150, ck_one 9), (201, 149, 149, ck_one 7), (201, 148, 148, ck_one 3), (201, 147, 147, ck_one 7), (201, 146, 146, ck_one 6), (201, 145, 145, ck_one 1), (201, 144, 144, ck_one 4), (201, 143, 143, ck_one 5), (201, 142, 142, ck_one 5), (201, 141, 141, ck_one 5), (201, 140, 140, ck_one 5), (201, 139, 139, ck_one 4), (201, 138, 138, ck_one 9), (201, 137, 137, ck_one 0), (201, 136, 136, ck_one 0), (201, 135, 135, ck_one 5), (201, 134, 134, ck_one 2), (201, 133, 133, ck_one 0), (201, 132, 132, ck_one 0), (201, 131, 131, ck_one 2), (201, 130, 130, ck_one 5), (201, 129, 129, ck_one 5), (201, 128, 128, ck_one 6), (201, 127, 127, ck_one 9), (201, 126, 126, ck_one 1), (201, 125, 125, ck_one 0), (201, 124, 124, ck_one 3), (201, 123, 123, ck_one 7), (201, 122, 122, ck_one 6), (201, 121, 121, ck_one 2), (201, 120, 120, ck_one 6), (201, 119, 119, ck_one 9), (201, 118, 118, ck_one 0), (201, 117, 117, ck_one 0), (201, 116, 116, ck_one 8), (201, 115, 115, ck_one 0), (201, 114, 114, ck_one 3), (201, 113, 113, ck_one 4), (201, 112, 112, ck_one 3), (201, 111, 111, ck_one 8), (201, 110, 110, ck_one 1), (201, 109, 109, ck_one 4), (201, 108, 108, ck_one 6), (201, 107, 107, ck_one 3), (201, 106, 106, ck_one 6), (201, 105, 105, ck_one 5), (201, 104, 104, ck_one 2), (201, 103, 103, ck_one 7), (201, 102, 102, ck_one 4), (201, 101, 101, ck_one 1)])
def p5y2_E : List (Nat × List ck_Sum) := [(127, [p5y2_853, p5y2_860, p5y2_867, p5y2_874, p5y2_881, p5y2_888, p5y2_895, p5y2_902, p5y2_909, p5y2_916, p5y2_923, p5y2_930, p5y2_937, p5y2_944, p5y2_951, p5y2_958, p5y2_965, p5y2_972, p5y2_979, p5y2_986, p5y2_993, p5y2_1000, p5y2_1007, p5y2_1014, p5y2_1021, p5y2_1028, p5y2_1035, p5y2_1042, p5y2_1049, p5y2_1056, p5y2_1063, p5y2_1070, p5y2_1077, p5y2_1084, p5y2_1091, p5y2_1098, p5y2_1105, p5y2_1112, p5y2_1119, p5y2_1126, p5y2_1133, p5y2_1140, p5y2_1147, p5y2_1154, p5y2_1161, p5y2_1168, p5y2_1175, p5y2_1182, p5y2_1189, p5y2_1196, p5y2_1203]), (285, [p5y2_856, p5y2_863, p5y2_870, p5y2_877, p5y2_884, p5y2_891, p5y2_898, p5y2_905, p5y2_912, p5y2_919, p5y2_926, p5y2_933, p5y2_940, p5y2_947, p5y2_954, p5y2_961, p5y2_968, p5y2_975, p5y2_982, p5y2_989, p5y2_996, p5y2_1003, p5y2_1010, p5y2_1017, p5y2_1024, p5y2_1031, p5y2_1038, p5y2_1045, p5y2_1052, p5y2_1059, p5y2_1066, p5y2_1073, p5y2_1080, p5y2_1087, p5y2_1094, p5y2_1101, p5y2_1108, p5y2_1115, p5y2_1122, p5y2_1129, p5y2_1136, p5y2_1143, p5y2_1150, p5y2_1157, p5y2_1164, p5y2_1171, p5y2_1178, p5y2_1185, p5y2_1192, p5y2_1199, p5y2_1206]), (234, [p5y2_149])]
set_option maxRecDepth 100000 in
theorem p5y2_h {X : Int → Int} {LX : Nat} : ck_OkE p1_O X LX p5y2_E := ck_E1 (ck_S1 p5y2_853_s (ck_S1 p5y2_860_s (ck_S1 p5y2_867_s (ck_S1 p5y2_874_s (ck_S1 p5y2_881_s (ck_S1 p5y2_888_s (ck_S1 p5y2_895_s (ck_S1 p5y2_902_s (ck_S1 p5y2_909_s (ck_S1 p5y2_916_s (ck_S1 p5y2_923_s (ck_S1 p5y2_930_s (ck_S1 p5y2_937_s (ck_S1 p5y2_944_s (ck_S1 p5y2_951_s (ck_S1 p5y2_958_s (ck_S1 p5y2_965_s (ck_S1 p5y2_972_s (ck_S1 p5y2_979_s (ck_S1 p5y2_986_s (ck_S1 p5y2_993_s (ck_S1 p5y2_1000_s (ck_S1 p5y2_1007_s (ck_S1 p5y2_1014_s (ck_S1 p5y2_1021_s (ck_S1 p5y2_1028_s (ck_S1 p5y2_1035_s (ck_S1 p5y2_1042_s (ck_S1 p5y2_1049_s (ck_S1 p5y2_1056_s (ck_S1 p5y2_1063_s (ck_S1 p5y2_1070_s (ck_S1 p5y2_1077_s (ck_S1 p5y2_1084_s (ck_S1 p5y2_1091_s (ck_S1 p5y2_1098_s (ck_S1 p5y2_1105_s (ck_S1 p5y2_1112_s (ck_S1 p5y2_1119_s (ck_S1 p5y2_1126_s (ck_S1 p5y2_1133_s (ck_S1 p5y2_1140_s (ck_S1 p5y2_1147_s (ck_S1 p5y2_1154_s (ck_S1 p5y2_1161_s (ck_S1 p5y2_1168_s (ck_S1 p5y2_1175_s (ck_S1 p5y2_1182_s (ck_S1 p5y2_1189_s (ck_S1 p5y2_1196_s (ck_S1 p5y2_1203_s ck_S0))))))))))))))))))))))))))))))))))))))))))))))))))) (ck_E1 (ck_S1 p5y2_856_s (ck_S1 p5y2_863_s (ck_S1 p5y2_870_s (ck_S1 p5y2_877_s (ck_S1 p5y2_884_s (ck_S1 p5y2_891_s (ck_S1 p5y2_898_s (ck_S1 p5y2_905_s (ck_S1 p5y2_912_s (ck_S1 p5y2_919_s (ck_S1 p5y2_926_s (ck_S1 p5y2_933_s (ck_S1 p5y2_940_s (ck_S1 p5y2_947_s (ck_S1 p5y2_954_s (ck_S1 p5y2_961_s (ck_S1 p5y2_968_s (ck_S1 p5y2_975_s (ck_S1 p5y2_982_s (ck_S1 p5y2_989_s (ck_S1 p5y2_996_s (ck_S1 p5y2_1003_s (ck_S1 p5y2_1010_s (ck_S1 p5y2_1017_s (ck_S1 p5y2_1024_s (ck_S1 p5y2_1031_s (ck_S1 p5y2_1038_s (ck_S1 p5y2_1045_s (ck_S1 p5y2_1052_s (ck_S1 p5y2_1059_s (ck_S1 p5y2_1066_s (ck_S1 p5y2_1073_s (ck_S1 p5y2_1080_s (ck_S1 p5y2_1087_s (ck_S1 p5y2_1094_s (ck_S1 p5y2_1101_s (ck_S1 p5y2_1108_s (ck_S1 p5y2_1115_s (ck_S1 p5y2_1122_s (ck_S1 p5y2_1129_s (ck_S1 p5y2_1136_s (ck_S1 p5y2_1143_s (ck_S1 p5y2_1150_s (ck_S1 p5y2_1157_s (ck_S1 p5y2_1164_s (ck_S1 p5y2_1171_s (ck_S1 p5y2_1178_s (ck_S1 p5y2_1185_s (ck_S1 p5y2_1192_s (ck_S1 p5y2_1199_s (ck_S1 p5y2_1206_s ck_S0))))))))))))))))))))))))))))))))))))))))))))))))))) (ck_E1 (ck_S1 p5y2_149_s ck_S0) ck_E0))
set_option maxRecDepth 100000 in
theorem p5y2_b : (ck_prod ((1, [(101, 101), (102, 102), (103, 103), (104, 104), (105, 105), (106, 106), (107, 107), (108, 108), (109, 109), (110, 110), (111, 111), (112, 112), (113, 113), (114, 114), (115, 115), (116, 116), (117, 117), (118, 118), (119, 119), (120, 120), (121, 121), (122, 122), (123, 123), (124, 124), (125, 125), (126, 126), (127, 127), (128, 128), (129, 129), (130, 130), (131, 131), (132, 132), (133, 133), (134, 134), (135, 135), (136, 136), (137, 137), (138, 138), (139, 139), (140, 140), (141, 141), (142, 142), (143, 143), (144, 144), (145, 145), (146, 146), (147, 147), (148, 148), (149, 149), (150, 150), (151, 151)]) :: [])).all (fun xf => ck_go p1_O (some 6) xf p5y2_E 370 280 245 p1_W p1_outs [] 132 false [] 1000 2000 443 p1_L [] 245 p5y2_F) = true := by decide +kernel
theorem p5y2_s {X : Int → Int} {LX : Nat} (hLX : 6 = LX) (hX : ∀ j, gm_ir (X j)) (h1 : 101 ≤ X 1) (h2 : X 1 ≤ 151) {σ : Nat → Int} {L : gm_L} {K0 K : gm_K} {R0 R : gm_R} {M0 M : gm_M} (hS : ck_St p1_O σ p1_W 245 K0 R0 M0 p1_L [] p5y2_F L [] 245 K R M) : gm_Wp X LX 280 1000 2000 370 443 L [] 245 K R M (ck_Q p1_O σ p1_W 245 K0 R0 M0 p1_outs) := ck_boxesR p5y2_h hLX hX h1 h2 (by decide +kernel) (by decide +kernel) p5y2_b hS
