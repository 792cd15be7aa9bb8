/-! CALLS, laid by wip/am/gen_tables.py. -/
def gm_na (i : Nat) : Nat := (([0, 0, 2, 0, 1, 0, 0, 0, 2, 0, 2, 2, 0, 2, 2, 2, 3, 2, 1, 5, 1, 1, 0, 0, 0, 1, 2, 1, 1, 4, 1, 0, 0, 0, 1, 3, 2, 1, 2, 4, 1, 3, 2, 0, 1, 3, 1, 2, 0, 1, 1, 3, 1, 1, 0, 1, 1, 1, 0, 0, 0, 0, 1, 0, 1, 1, 2, 0, 0, 2, 0, 1, 0, 0, 1, 0, 1, 1, 0, 0, 1, 0, 0, 1, 0, 2, 2, 3, 2, 2, 1, 2, 0, 2, 1, 1, 1, 1, 1, 0, 0, 0, 0, 0, 0, 0, 0, 0, 3, 0, 0, 1, 0, 0, 0, 0, 0, 0, 4, 0, 0, 2, 0, 0, 2, 2, 3, 1, 1, 4, 2, 1, 2, 1, 5, 3, 4, 2, 1, 2, 4, 2, 1, 1, 1, 4, 2, 1, 4, 2, 4, 2, 2, 1, 4, 2, 3, 1, 2, 3, 1, 0, 1, 4, 1, 6, 4, 4, 2, 2, 4, 2, 4, 2, 1, 3, 1, 3, 1, 2, 2, 3, 0, 0, 5, 3, 2, 4, 6, 4, 4, 2, 1, 5, 3, 2, 0, 1, 2, 5, 3, 3, 4, 1, 2, 5, 3, 3, 3, 4, 2, 4, 2, 1, 1, 2, 4, 2, 2, 4, 2, 3, 1, 4, 2, 4, 2, 4, 2, 3, 1, 4, 2, 0, 0, 0, 0, 0, 0, 5, 1, 0, 0, 1, 0, 0, 2, 2, 0, 0, 1, 0, 0, 0, 0, 2, 3, 0, 0, 0, 1, 0, 0, 0, 3, 0, 0, 0, 0, 1, 0, 4, 3, 0, 1, 0, 0, 0, 1, 2, 0, 0, 2, 0, 1, 1, 3, 2, 1, 1, 2, 3, 3, 1, 1, 1, 2, 2, 1, 2, 2, 2, 1, 1, 1, 2, 5, 3, 2, 1, 1, 2, 1, 2, 2, 2, 0, 2, 1, 2, 1, 0, 1, 2, 4, 3, 2, 2, 2, 1, 0, 1, 0, 3, 1, 0, 1, 1, 3, 4, 4, 2, 1, 2, 3, 3, 2, 0, 0, 3, 1, 2, 2, 1, 3, 3, 2, 2, 1, 2, 2, 1, 1, 2, 2, 2, 1, 2, 1] : List Nat)[i]?).getD 0
def gm_cpl : List Nat := [186, 194, 200, 310, 329, 334, 338, 343, 346, 350, 354, 357, 361, 389, 427, 448, 451, 457, 505, 581, 585, 589, 593, 597, 601, 606, 609, 615, 620, 625, 629, 633, 637, 641, 646, 651, 655, 659, 663, 667, 672, 679, 686, 691, 695, 700, 705, 709, 714, 717, 724, 728, 732, 736, 740, 744, 748, 752, 759, 764, 768, 773, 777, 781, 785, 789, 793, 797, 801, 804, 810, 816, 822, 826, 830, 835, 838, 841, 847, 851, 856, 860, 864, 870, 874, 877, 880, 885, 888, 891, 894, 898, 910, 915, 921, 926, 930, 935, 939, 945, 949, 963, 967, 973, 977, 986, 991, 995, 1003, 1008, 1012, 1017, 1023, 1028, 1033, 1038, 1042, 1049, 1053, 1060, 1065, 1154, 1158, 1166, 1170, 1182, 1197, 1201, 1205, 1210, 1215, 1219, 1223, 1243, 1247, 1251, 1255, 1260, 1264, 1268, 1287, 1291, 1295, 1299, 1303, 1309, 1313, 1317, 1321, 1325, 1328, 1332, 1336, 1343, 1348, 1352, 1355, 1360, 1380, 1383, 1387, 1392, 1396, 1400, 1404, 1407, 1411, 1417, 1421, 1425, 1428, 1432, 1436, 1440, 1444, 1447, 1451, 1454, 1458, 1462, 1466, 1470, 1475, 1479, 1482, 1486, 1490, 1495, 1498, 1502, 1505, 1509, 1513, 1516, 1520, 1523, 1527, 1531, 1536, 1539, 1543, 1547, 1553, 1562, 1566, 1569, 1573, 1578, 1583, 1586, 1590, 1593, 1597, 1601, 1605, 1609, 1612, 1616, 1620, 1623, 1627, 1630, 1634, 1637, 1641, 1644, 1648, 1651, 1655, 1658, 1662, 1665, 1669, 1674, 1679, 1684, 1807, 1811, 1815, 1819, 1823, 1827, 1831, 1835, 1839, 1843, 1847, 1851, 1855, 1859, 1864, 1870, 1874, 1878, 1882, 1886, 1890, 1895, 1900, 1904, 1908, 1912, 1917, 1921, 1926, 1931, 1935, 1940, 1944, 1949, 1954, 1958, 1962, 1967, 1973, 1981, 1985, 1989, 1993, 1998, 2004, 2008, 2021, 2025, 2029, 2032, 2035, 2039, 2043, 2047, 2051, 2055, 2059, 2063, 2067, 2071, 2075, 2081, 2085, 2089, 2093, 2097, 2101, 2105, 2109, 2113, 2117, 2121, 2125, 2129, 2133, 2137, 2141, 2145, 2149, 2153, 2157, 2161, 2165, 2169, 2173, 2177, 2181, 2185, 2189, 2193, 2197, 2201, 2205, 2209, 2213, 2217, 2221, 2225, 2229, 2233, 2237, 2241, 2245, 2249, 2253, 2257, 2261, 2265, 2269, 2273, 2276, 2280, 2285, 2289, 2293, 2296, 2300, 2304, 2308, 2312, 2316, 2320, 2324, 2328, 2332, 2336, 2340, 2344, 2348, 2352, 2356, 2360, 2364]
def gm_cwd (i : Nat) : Jvm.Cond := if gm_hh i = [] then .code (gm_mn i) (gm_bc i) (gm_ml i) (gm_rt i) else .codeWith (gm_mn i) (gm_bc i) (gm_ml i) (gm_rt i) (gm_hh i)
def gm_mck (i : Nat) : Bool := (decide ((gm_mn i).cls ≠ "java/lang/invoke/MethodHandle" ∧ (gm_mn i).cls ≠ "java/lang/invoke/VarHandle") && (decide ((parseMethodDescriptor (gm_mn i).desc).map (fun d => d.parameters.length) = some (gm_na i)) && decide (gm_ml i ≤ 200)))
set_option maxRecDepth 100000 in
theorem gm_cp0 : gm_cwd 0 ∈ gm_T := gm_T_in (w := Jvm.Cond.code ⟨"GlacierMail", "<init>", "()V"⟩ prog_1_method_1_code 1 none) (i := 186) rfl rfl
set_option maxRecDepth 100000 in
theorem gm_cp1 : gm_cwd 1 ∈ gm_T := gm_T_in (w := Jvm.Cond.code ⟨"GlacierMail$State", "<init>", "()V"⟩ prog_8_method_1_code 1 none) (i := 194) rfl rfl
set_option maxRecDepth 100000 in
theorem gm_cp2 : gm_cwd 2 ∈ gm_T := gm_T_in (w := Jvm.Cond.code ⟨"GlacierMail$Rows", "<init>", "(II)V"⟩ prog_7_method_1_code 3 none) (i := 200) rfl rfl
set_option maxRecDepth 100000 in
theorem gm_cp3 : gm_cwd 3 ∈ gm_T := gm_T_in (w := Jvm.Cond.code ⟨"GlacierMail$History", "<init>", "()V"⟩ prog_3_method_1_code 2 none) (i := 310) rfl rfl
set_option maxRecDepth 100000 in
theorem gm_cp4 : gm_cwd 4 ∈ gm_T := gm_T_in (w := Jvm.Cond.code ⟨"GlacierMail$Ice", "<init>", "(LGlacierMail$State;)V"⟩ prog_4_method_1_code 2 none) (i := 329) rfl rfl
set_option maxRecDepth 100000 in
theorem gm_cp5 : gm_cwd 5 ∈ gm_T := gm_T_in (w := Jvm.Cond.code ⟨"GlacierMail$Ice", "renew", "()V"⟩ prog_4_method_2_code 1 none) (i := 334) rfl rfl
set_option maxRecDepth 100000 in
theorem gm_cp6 : gm_cwd 6 ∈ gm_T := gm_T_in (w := Jvm.Cond.code ⟨"GlacierMail$Ice", "reckonHeats", "()V"⟩ prog_4_method_3_code 3 none) (i := 338) rfl rfl
set_option maxRecDepth 100000 in
theorem gm_cp7 : gm_cwd 7 ∈ gm_T := gm_T_in (w := Jvm.Cond.code ⟨"GlacierMail$Ice", "reckonSpeeds", "()V"⟩ prog_4_method_4_code 6 none) (i := 343) rfl rfl
set_option maxRecDepth 100000 in
theorem gm_cp8 : gm_cwd 8 ∈ gm_T := gm_T_in (w := Jvm.Cond.code ⟨"java/util/Arrays", "fill", "([II)V"⟩ prog_34_method_103_code 4 none) (i := 346) rfl rfl
set_option maxRecDepth 100000 in
theorem gm_cp9 : gm_cwd 9 ∈ gm_T := gm_T_in (w := Jvm.Cond.code ⟨"GlacierMail$Rows", "size", "()I"⟩ prog_7_method_2_code 1 (some .int)) (i := 350) rfl rfl
set_option maxRecDepth 100000 in
theorem gm_cp10 : gm_cwd 10 ∈ gm_T := gm_T_in (w := Jvm.Cond.code ⟨"GlacierMail$Rows", "get", "(II)I"⟩ prog_7_method_6_code 3 (some .int)) (i := 354) rfl rfl
set_option maxRecDepth 100000 in
theorem gm_cp11 : gm_cwd 11 ∈ gm_T := gm_T_in (w := Jvm.Cond.code ⟨"java/lang/Math", "max", "(II)I"⟩ prog_24_method_65_code 2 (some .int)) (i := 357) rfl rfl
set_option maxRecDepth 100000 in
theorem gm_cp12 : gm_cwd 12 ∈ gm_T := gm_T_in (w := Jvm.Cond.code ⟨"GlacierMail$Ice", "reckonFloods", "()V"⟩ prog_4_method_5_code 3 none) (i := 361) rfl rfl
set_option maxRecDepth 100000 in
theorem gm_cp13 : gm_cwd 13 ∈ gm_T := gm_T_in (w := Jvm.Cond.code ⟨"GlacierMail$Way", "<init>", "(LGlacierMail$State;LGlacierMail$Ice;)V"⟩ prog_11_method_1_code 3 none) (i := 389) rfl rfl
set_option maxRecDepth 100000 in
theorem gm_cp14 : gm_cwd 14 ∈ gm_T := gm_T_in (w := Jvm.Cond.code ⟨"GlacierMail$Answers", "<init>", "(LGlacierMail$State;LGlacierMail$Way;)V"⟩ prog_2_method_1_code 3 none) (i := 427) rfl rfl
set_option maxRecDepth 100000 in
theorem gm_cp15 : gm_cwd 15 ∈ gm_T := gm_T_in (w := Jvm.Cond.code ⟨"GlacierMail$ValleyReader", "<init>", "([BLGlacierMail$State;)V"⟩ prog_10_method_1_code 3 none) (i := 448) rfl rfl
set_option maxRecDepth 100000 in
theorem gm_cp16 : gm_cwd 16 ∈ gm_T := gm_T_in (w := Jvm.Cond.code ⟨"GlacierMail$TextReader", "<init>", "([BII)V"⟩ prog_9_method_1_code 4 none) (i := 451) rfl rfl
set_option maxRecDepth 100000 in
theorem gm_cp17 : gm_cwd 17 ∈ gm_T := gm_T_in (w := Jvm.Cond.code ⟨"GlacierMail$Words", "<init>", "([BI)V"⟩ prog_12_method_1_code 3 none) (i := 457) rfl rfl
set_option maxRecDepth 100000 in
theorem gm_cp18 : gm_cwd 18 ∈ gm_T := gm_T_in (w := Jvm.Cond.code ⟨"GlacierMail$LawReader", "<init>", "([B)V"⟩ prog_6_method_1_code 2 none) (i := 505) rfl rfl
set_option maxRecDepth 100000 in
theorem gm_cp19 : gm_cwd 19 ∈ gm_T := gm_T_in (w := Jvm.Cond.code ⟨"GlacierMail", "feed", "(IIIII)I"⟩ prog_1_method_2_code 6 (some .int)) (i := 581) rfl rfl
set_option maxRecDepth 100000 in
theorem gm_cp20 : gm_cwd 20 ∈ gm_T := gm_T_in (w := Jvm.Cond.code ⟨"GlacierMail", "putNumber", "(I)V"⟩ prog_1_method_3_code 3 none) (i := 585) rfl rfl
set_option maxRecDepth 100000 in
theorem gm_cp21 : gm_cwd 21 ∈ gm_T := gm_T_in (w := Jvm.Cond.code ⟨"GlacierMail", "end", "(I)Z"⟩ prog_1_method_4_code 2 (some .boolean)) (i := 589) rfl rfl
set_option maxRecDepth 100000 in
theorem gm_cp22 : gm_cwd 22 ∈ gm_T := gm_T_in (w := Jvm.Cond.code ⟨"GlacierMail", "fault", "()I"⟩ prog_1_method_8_code 1 (some .int)) (i := 593) rfl rfl
set_option maxRecDepth 100000 in
theorem gm_cp23 : gm_cwd 23 ∈ gm_T := gm_T_in (w := Jvm.Cond.code ⟨"GlacierMail", "lost", "()I"⟩ prog_1_method_27_code 3 (some .int)) (i := 597) rfl rfl
set_option maxRecDepth 100000 in
theorem gm_cp24 : gm_cwd 24 ∈ gm_T := gm_T_in (w := Jvm.Cond.code ⟨"GlacierMail", "reckonEnds", "()V"⟩ prog_1_method_65_code 2 none) (i := 601) rfl rfl
set_option maxRecDepth 100000 in
theorem gm_cp25 : gm_cwd 25 ∈ gm_T := gm_T_in (w := Jvm.Cond.code ⟨"GlacierMail$Rows", "reset", "(I)V"⟩ prog_7_method_5_code 2 none) (i := 606) rfl rfl
set_option maxRecDepth 100000 in
theorem gm_cp26 : gm_cwd 26 ∈ gm_T := gm_T_in (w := Jvm.Cond.code ⟨"java/lang/Math", "min", "(II)I"⟩ prog_24_method_69_code 2 (some .int)) (i := 609) rfl rfl
set_option maxRecDepth 100000 in
theorem gm_cp27 : gm_cwd 27 ∈ gm_T := gm_T_in (w := Jvm.Cond.code ⟨"GlacierMail$Way", "startLetter", "(I)V"⟩ prog_11_method_3_code 3 none) (i := 615) rfl rfl
set_option maxRecDepth 100000 in
theorem gm_cp28 : gm_cwd 28 ∈ gm_T := gm_T_in (w := Jvm.Cond.code ⟨"GlacierMail$State", "isRock", "(I)Z"⟩ prog_8_method_4_code 2 (some .boolean)) (i := 620) rfl rfl
set_option maxRecDepth 100000 in
theorem gm_cp29 : gm_cwd 29 ∈ gm_T := gm_T_in (w := Jvm.Cond.code ⟨"GlacierMail$Way", "start", "(IIIZ)V"⟩ prog_11_method_2_code 5 none) (i := 625) rfl rfl
set_option maxRecDepth 100000 in
theorem gm_cp30 : gm_cwd 30 ∈ gm_T := gm_T_in (w := Jvm.Cond.code ⟨"GlacierMail$Way", "runOut", "(I)I"⟩ prog_11_method_11_code 3 (some .int)) (i := 629) rfl rfl
set_option maxRecDepth 100000 in
theorem gm_cp31 : gm_cwd 31 ∈ gm_T := gm_T_in (w := Jvm.Cond.code ⟨"GlacierMail$Way", "isOut", "()Z"⟩ prog_11_method_6_code 1 (some .boolean)) (i := 633) rfl rfl
set_option maxRecDepth 100000 in
theorem gm_cp32 : gm_cwd 32 ∈ gm_T := gm_T_in (w := Jvm.Cond.code ⟨"GlacierMail$Way", "step", "()V"⟩ prog_11_method_7_code 2 none) (i := 637) rfl rfl
set_option maxRecDepth 100000 in
theorem gm_cp33 : gm_cwd 33 ∈ gm_T := gm_T_in (w := Jvm.Cond.code ⟨"GlacierMail$Way", "deepAfter", "()I"⟩ prog_11_method_8_code 1 (some .int)) (i := 641) rfl rfl
set_option maxRecDepth 100000 in
theorem gm_cp34 : gm_cwd 34 ∈ gm_T := gm_T_in (w := Jvm.Cond.code ⟨"GlacierMail$Ice", "heatIn", "(I)I"⟩ prog_4_method_6_code 2 (some .int)) (i := 646) rfl rfl
set_option maxRecDepth 100000 in
theorem gm_cp35 : gm_cwd 35 ∈ gm_T := gm_T_in (w := Jvm.Cond.code ⟨"GlacierMail$Ice", "flowAt", "(III)I"⟩ prog_4_method_9_code 7 (some .int)) (i := 651) rfl rfl
set_option maxRecDepth 100000 in
theorem gm_cp36 : gm_cwd 36 ∈ gm_T := gm_T_in (w := Jvm.Cond.code ⟨"GlacierMail$Ice", "speedAt", "(II)I"⟩ prog_4_method_8_code 4 (some .int)) (i := 655) rfl rfl
set_option maxRecDepth 100000 in
theorem gm_cp37 : gm_cwd 37 ∈ gm_T := gm_T_in (w := Jvm.Cond.code ⟨"GlacierMail$Ice", "recalledFlow", "(I)I"⟩ prog_4_method_10_code 3 (some .int)) (i := 659) rfl rfl
set_option maxRecDepth 100000 in
theorem gm_cp38 : gm_cwd 38 ∈ gm_T := gm_T_in (w := Jvm.Cond.code ⟨"java/util/Arrays", "fill", "([JJ)V"⟩ prog_34_method_101_code 5 none) (i := 663) rfl rfl
set_option maxRecDepth 100000 in
theorem gm_cp39 : gm_cwd 39 ∈ gm_T := gm_T_in (w := Jvm.Cond.code ⟨"GlacierMail$Ice", "setFacts", "(IIII)V"⟩ prog_4_method_12_code 5 none) (i := 667) rfl rfl
set_option maxRecDepth 100000 in
theorem gm_cp40 : gm_cwd 40 ∈ gm_T := gm_T_in (w := Jvm.Cond.code ⟨"GlacierMail$Law", "faster", "([I)I"⟩ prog_5_method_2_code 5 (some .int)) (i := 672) rfl rfl
set_option maxRecDepth 100000 in
theorem gm_cp41 : gm_cwd 41 ∈ gm_T := gm_T_in (w := Jvm.Cond.code ⟨"GlacierMail$Law", "holds", "(II[I)Z"⟩ prog_5_method_4_code 14 (some .boolean)) (i := 679) rfl rfl
set_option maxRecDepth 100000 in
theorem gm_cp42 : gm_cwd 42 ∈ gm_T := gm_T_in (w := Jvm.Cond.code ⟨"GlacierMail$Ice", "keepFlow", "(II)V"⟩ prog_4_method_11_code 6 none) (i := 686) rfl rfl
set_option maxRecDepth 100000 in
theorem gm_cp43 : gm_cwd 43 ∈ gm_T := gm_T_in (w := Jvm.Cond.code ⟨"GlacierMail$Way", "takeFloods", "()V"⟩ prog_11_method_9_code 5 none) (i := 691) rfl rfl
set_option maxRecDepth 100000 in
theorem gm_cp44 : gm_cwd 44 ∈ gm_T := gm_T_in (w := Jvm.Cond.code ⟨"GlacierMail$Ice", "floodsIn", "(I)I"⟩ prog_4_method_7_code 2 (some .int)) (i := 695) rfl rfl
set_option maxRecDepth 100000 in
theorem gm_cp45 : gm_cwd 45 ∈ gm_T := gm_T_in (w := Jvm.Cond.code ⟨"GlacierMail$Rows", "put", "(III)V"⟩ prog_7_method_7_code 4 none) (i := 700) rfl rfl
set_option maxRecDepth 100000 in
theorem gm_cp46 : gm_cwd 46 ∈ gm_T := gm_T_in (w := Jvm.Cond.code ⟨"GlacierMail", "market", "(Z)I"⟩ prog_1_method_28_code 7 (some .int)) (i := 705) rfl rfl
set_option maxRecDepth 100000 in
theorem gm_cp47 : gm_cwd 47 ∈ gm_T := gm_T_in (w := Jvm.Cond.code ⟨"GlacierMail", "outIn", "(IZ)I"⟩ prog_1_method_66_code 5 (some .int)) (i := 709) rfl rfl
set_option maxRecDepth 100000 in
theorem gm_cp48 : gm_cwd 48 ∈ gm_T := gm_T_in (w := Jvm.Cond.code ⟨"GlacierMail", "poles", "()I"⟩ prog_1_method_37_code 4 (some .int)) (i := 714) rfl rfl
set_option maxRecDepth 100000 in
theorem gm_cp49 : gm_cwd 49 ∈ gm_T := gm_T_in (w := Jvm.Cond.code ⟨"java/lang/Integer", "bitCount", "(I)I"⟩ prog_23_method_49_code 1 (some .int)) (i := 717) rfl rfl
set_option maxRecDepth 100000 in
theorem gm_cp50 : gm_cwd 50 ∈ gm_T := gm_T_in (w := Jvm.Cond.code ⟨"GlacierMail", "allToldApart", "(I)Z"⟩ prog_1_method_38_code 4 (some .boolean)) (i := 724) rfl rfl
set_option maxRecDepth 100000 in
theorem gm_cp51 : gm_cwd 51 ∈ gm_T := gm_T_in (w := Jvm.Cond.code ⟨"GlacierMail", "toldApart", "(III)Z"⟩ prog_1_method_36_code 5 (some .boolean)) (i := 728) rfl rfl
set_option maxRecDepth 100000 in
theorem gm_cp52 : gm_cwd 52 ∈ gm_T := gm_T_in (w := Jvm.Cond.code ⟨"GlacierMail", "order", "(I)I"⟩ prog_1_method_51_code 3 (some .int)) (i := 732) rfl rfl
set_option maxRecDepth 100000 in
theorem gm_cp53 : gm_cwd 53 ∈ gm_T := gm_T_in (w := Jvm.Cond.code ⟨"GlacierMail", "outAheadOf", "(I)I"⟩ prog_1_method_52_code 7 (some .int)) (i := 736) rfl rfl
set_option maxRecDepth 100000 in
theorem gm_cp54 : gm_cwd 54 ∈ gm_T := gm_T_in (w := Jvm.Cond.code ⟨"GlacierMail", "undo", "()Z"⟩ prog_1_method_58_code 1 (some .boolean)) (i := 740) rfl rfl
set_option maxRecDepth 100000 in
theorem gm_cp55 : gm_cwd 55 ∈ gm_T := gm_T_in (w := Jvm.Cond.code ⟨"GlacierMail$History", "takeBack", "(LGlacierMail$State;)Z"⟩ prog_3_method_4_code 2 (some .boolean)) (i := 744) rfl rfl
set_option maxRecDepth 100000 in
theorem gm_cp56 : gm_cwd 56 ∈ gm_T := gm_T_in (w := Jvm.Cond.code ⟨"GlacierMail$State", "copyFrom", "(LGlacierMail$State;)V"⟩ prog_8_method_2_code 2 none) (i := 748) rfl rfl
set_option maxRecDepth 100000 in
theorem gm_cp57 : gm_cwd 57 ∈ gm_T := gm_T_in (w := Jvm.Cond.code ⟨"GlacierMail$Rows", "copyFrom", "(LGlacierMail$Rows;)V"⟩ prog_7_method_8_code 2 none) (i := 752) rfl rfl
set_option maxRecDepth 100000 in
theorem gm_cp58 : gm_cwd 58 ∈ gm_T := gm_T_in (w := Jvm.Cond.code ⟨"GlacierMail", "image", "()V"⟩ prog_1_method_59_code 1 none) (i := 759) rfl rfl
set_option maxRecDepth 100000 in
theorem gm_cp59 : gm_cwd 59 ∈ gm_T := gm_T_in (w := Jvm.Cond.code ⟨"GlacierMail", "back", "()Z"⟩ prog_1_method_60_code 1 (some .boolean)) (i := 764) rfl rfl
set_option maxRecDepth 100000 in
theorem gm_cp60 : gm_cwd 60 ∈ gm_T := gm_T_in (w := Jvm.Cond.code ⟨"GlacierMail", "forgetWays", "()V"⟩ prog_1_method_7_code 1 none) (i := 768) rfl rfl
set_option maxRecDepth 100000 in
theorem gm_cp61 : gm_cwd 61 ∈ gm_T := gm_T_in (w := Jvm.Cond.code ⟨"GlacierMail$History", "forget", "()V"⟩ prog_3_method_5_code 1 none) (i := 773) rfl rfl
set_option maxRecDepth 100000 in
theorem gm_cp62 : gm_cwd 62 ∈ gm_T := gm_T_in (w := Jvm.Cond.code ⟨"GlacierMail", "count", "(I)I"⟩ prog_1_method_61_code 2 (some .int)) (i := 777) rfl rfl
set_option maxRecDepth 100000 in
theorem gm_cp63 : gm_cwd 63 ∈ gm_T := gm_T_in (w := Jvm.Cond.code ⟨"GlacierMail", "lawLines", "()I"⟩ prog_1_method_62_code 1 (some .int)) (i := 781) rfl rfl
set_option maxRecDepth 100000 in
theorem gm_cp64 : gm_cwd 64 ∈ gm_T := gm_T_in (w := Jvm.Cond.code ⟨"GlacierMail", "waiting", "(I)I"⟩ prog_1_method_70_code 5 (some .int)) (i := 785) rfl rfl
set_option maxRecDepth 100000 in
theorem gm_cp65 : gm_cwd 65 ∈ gm_T := gm_T_in (w := Jvm.Cond.code ⟨"GlacierMail", "waits", "(I)Z"⟩ prog_1_method_69_code 3 (some .boolean)) (i := 789) rfl rfl
set_option maxRecDepth 100000 in
theorem gm_cp66 : gm_cwd 66 ∈ gm_T := gm_T_in (w := Jvm.Cond.code ⟨"GlacierMail", "isOutBy", "(II)Z"⟩ prog_1_method_68_code 3 (some .boolean)) (i := 793) rfl rfl
set_option maxRecDepth 100000 in
theorem gm_cp67 : gm_cwd 67 ∈ gm_T := gm_T_in (w := Jvm.Cond.code ⟨"GlacierMail", "inIceNow", "()I"⟩ prog_1_method_71_code 3 (some .int)) (i := 797) rfl rfl
set_option maxRecDepth 100000 in
theorem gm_cp68 : gm_cwd 68 ∈ gm_T := gm_T_in (w := Jvm.Cond.code ⟨"GlacierMail$History", "size", "()I"⟩ prog_3_method_2_code 1 (some .int)) (i := 801) rfl rfl
set_option maxRecDepth 100000 in
theorem gm_cp69 : gm_cwd 69 ∈ gm_T := gm_T_in (w := Jvm.Cond.codeWith ⟨"GlacierMailLaw", "valley", "(LGlacierMail;[J)I"⟩ method_3_code 3 (some .int) [(0, 8, 11, 13), (0, 8, 14, 15)]) (i := 804) rfl rfl
set_option maxRecDepth 100000 in
theorem gm_cp70 : gm_cwd 70 ∈ gm_T := gm_T_in (w := Jvm.Cond.code ⟨"GlacierMail", "valley", "()I"⟩ prog_1_method_5_code 1 (some .int)) (i := 810) rfl rfl
set_option maxRecDepth 100000 in
theorem gm_cp71 : gm_cwd 71 ∈ gm_T := gm_T_in (w := Jvm.Cond.code ⟨"GlacierMail$TextReader", "readText", "(I)I"⟩ prog_9_method_4_code 3 (some .int)) (i := 816) rfl rfl
set_option maxRecDepth 100000 in
theorem gm_cp72 : gm_cwd 72 ∈ gm_T := gm_T_in (w := Jvm.Cond.code ⟨"GlacierMail$LawReader", "clear", "()V"⟩ prog_6_method_2_code 1 none) (i := 822) rfl rfl
set_option maxRecDepth 100000 in
theorem gm_cp73 : gm_cwd 73 ∈ gm_T := gm_T_in (w := Jvm.Cond.code ⟨"GlacierMail$ValleyReader", "clear", "()V"⟩ prog_10_method_2_code 1 none) (i := 826) rfl rfl
set_option maxRecDepth 100000 in
theorem gm_cp74 : gm_cwd 74 ∈ gm_T := gm_T_in (w := Jvm.Cond.code ⟨"GlacierMail$Words", "start", "(I)V"⟩ prog_12_method_2_code 2 none) (i := 830) rfl rfl
set_option maxRecDepth 100000 in
theorem gm_cp75 : gm_cwd 75 ∈ gm_T := gm_T_in (w := Jvm.Cond.code ⟨"GlacierMail$Words", "next", "()V"⟩ prog_12_method_4_code 2 none) (i := 835) rfl rfl
set_option maxRecDepth 100000 in
theorem gm_cp76 : gm_cwd 76 ∈ gm_T := gm_T_in (w := Jvm.Cond.code ⟨"GlacierMail$Words", "isSmall", "(B)Z"⟩ prog_12_method_5_code 1 (some .boolean)) (i := 838) rfl rfl
set_option maxRecDepth 100000 in
theorem gm_cp77 : gm_cwd 77 ∈ gm_T := gm_T_in (w := Jvm.Cond.code ⟨"GlacierMail$Words", "isDigit", "(B)Z"⟩ prog_12_method_6_code 1 (some .boolean)) (i := 841) rfl rfl
set_option maxRecDepth 100000 in
theorem gm_cp78 : gm_cwd 78 ∈ gm_T := gm_T_in (w := Jvm.Cond.code ⟨"GlacierMail$LawReader", "readLine", "()Z"⟩ prog_6_method_4_code 5 (some .boolean)) (i := 847) rfl rfl
set_option maxRecDepth 100000 in
theorem gm_cp79 : gm_cwd 79 ∈ gm_T := gm_T_in (w := Jvm.Cond.code ⟨"GlacierMail$LawReader", "readKind", "()I"⟩ prog_6_method_5_code 1 (some .int)) (i := 851) rfl rfl
set_option maxRecDepth 100000 in
theorem gm_cp80 : gm_cwd 80 ∈ gm_T := gm_T_in (w := Jvm.Cond.code ⟨"GlacierMail$Words", "isWord", "(Ljava/lang/String;)Z"⟩ prog_12_method_7_code 3 (some .boolean)) (i := 856) rfl rfl
set_option maxRecDepth 100000 in
theorem gm_cp81 : gm_cwd 81 ∈ gm_T := gm_T_in (w := Jvm.Cond.code ⟨"java/lang/String", "length", "()I"⟩ prog_26_method_54_code 1 (some .int)) (i := 860) rfl rfl
set_option maxRecDepth 100000 in
theorem gm_cp82 : gm_cwd 82 ∈ gm_T := gm_T_in (w := Jvm.Cond.code ⟨"java/lang/String", "coder", "()B"⟩ prog_26_method_152_code 1 (some .byte)) (i := 864) rfl rfl
set_option maxRecDepth 100000 in
theorem gm_cp83 : gm_cwd 83 ∈ gm_T := gm_T_in (w := Jvm.Cond.code ⟨"java/lang/String", "charAt", "(I)C"⟩ prog_26_method_56_code 2 (some .char)) (i := 870) rfl rfl
set_option maxRecDepth 100000 in
theorem gm_cp84 : gm_cwd 84 ∈ gm_T := gm_T_in (w := Jvm.Cond.code ⟨"java/lang/String", "isLatin1", "()Z"⟩ prog_26_method_154_code 1 (some .boolean)) (i := 874) rfl rfl
set_option maxRecDepth 100000 in
theorem gm_cp85 : gm_cwd 85 ∈ gm_T := gm_T_in (w := Jvm.Cond.code ⟨"java/lang/StringLatin1", "charAt", "([BI)C"⟩ prog_27_method_2_code 2 (some .char)) (i := 877) rfl rfl
set_option maxRecDepth 100000 in
theorem gm_cp86 : gm_cwd 86 ∈ gm_T := gm_T_in (w := Jvm.Cond.code ⟨"java/lang/String", "checkIndex", "(II)V"⟩ prog_26_method_155_code 2 none) (i := 880) rfl rfl
set_option maxRecDepth 100000 in
theorem gm_cp87 : gm_cwd 87 ∈ gm_T := gm_T_in (w := Jvm.Cond.code ⟨"jdk/internal/util/Preconditions", "checkIndex", "(IILjava/util/function/BiFunction;)I"⟩ prog_36_method_11_code 3 (some .int)) (i := 885) rfl rfl
set_option maxRecDepth 100000 in
theorem gm_cp88 : gm_cwd 88 ∈ gm_T := gm_T_in (w := Jvm.Cond.code ⟨"java/lang/StringUTF16", "charAt", "([BI)C"⟩ prog_28_method_83_code 2 (some .char)) (i := 888) rfl rfl
set_option maxRecDepth 100000 in
theorem gm_cp89 : gm_cwd 89 ∈ gm_T := gm_T_in (w := Jvm.Cond.code ⟨"java/lang/StringUTF16", "checkIndex", "(I[B)V"⟩ prog_28_method_91_code 2 none) (i := 891) rfl rfl
set_option maxRecDepth 100000 in
theorem gm_cp90 : gm_cwd 90 ∈ gm_T := gm_T_in (w := Jvm.Cond.code ⟨"java/lang/StringUTF16", "length", "([B)I"⟩ prog_28_method_6_code 1 (some .int)) (i := 894) rfl rfl
set_option maxRecDepth 100000 in
theorem gm_cp91 : gm_cwd 91 ∈ gm_T := gm_T_in (w := Jvm.Cond.code ⟨"java/lang/StringUTF16", "getChar", "([BI)C"⟩ prog_28_method_5_code 2 (some .char)) (i := 898) rfl rfl
set_option maxRecDepth 100000 in
theorem gm_cp92 : gm_cwd 92 ∈ gm_T := gm_T_in (w := Jvm.Cond.code ⟨"GlacierMail$Words", "refuse", "()Z"⟩ prog_12_method_12_code 1 (some .boolean)) (i := 910) rfl rfl
set_option maxRecDepth 100000 in
theorem gm_cp93 : gm_cwd 93 ∈ gm_T := gm_T_in (w := Jvm.Cond.code ⟨"GlacierMail$Words", "needNumber", "(II)I"⟩ prog_12_method_11_code 4 (some .int)) (i := 915) rfl rfl
set_option maxRecDepth 100000 in
theorem gm_cp94 : gm_cwd 94 ∈ gm_T := gm_T_in (w := Jvm.Cond.code ⟨"GlacierMail$Words", "takeWord", "(Ljava/lang/String;)Z"⟩ prog_12_method_8_code 3 (some .boolean)) (i := 921) rfl rfl
set_option maxRecDepth 100000 in
theorem gm_cp95 : gm_cwd 95 ∈ gm_T := gm_T_in (w := Jvm.Cond.code ⟨"GlacierMail$LawReader", "readCondition", "(I)Z"⟩ prog_6_method_7_code 4 (some .boolean)) (i := 926) rfl rfl
set_option maxRecDepth 100000 in
theorem gm_cp96 : gm_cwd 96 ∈ gm_T := gm_T_in (w := Jvm.Cond.code ⟨"GlacierMail$LawReader", "readAtom", "(I)Z"⟩ prog_6_method_8_code 4 (some .boolean)) (i := 930) rfl rfl
set_option maxRecDepth 100000 in
theorem gm_cp97 : gm_cwd 97 ∈ gm_T := gm_T_in (w := Jvm.Cond.code ⟨"GlacierMail$Words", "needSign", "(C)Z"⟩ prog_12_method_10_code 2 (some .boolean)) (i := 935) rfl rfl
set_option maxRecDepth 100000 in
theorem gm_cp98 : gm_cwd 98 ∈ gm_T := gm_T_in (w := Jvm.Cond.code ⟨"GlacierMail$LawReader", "put", "(I)V"⟩ prog_6_method_6_code 2 none) (i := 939) rfl rfl
set_option maxRecDepth 100000 in
theorem gm_cp99 : gm_cwd 99 ∈ gm_T := gm_T_in (w := Jvm.Cond.code ⟨"GlacierMail$LawReader", "readSum", "()Z"⟩ prog_6_method_9_code 3 (some .boolean)) (i := 945) rfl rfl
set_option maxRecDepth 100000 in
theorem gm_cp100 : gm_cwd 100 ∈ gm_T := gm_T_in (w := Jvm.Cond.code ⟨"GlacierMail$LawReader", "factCode", "()I"⟩ prog_6_method_10_code 1 (some .int)) (i := 949) rfl rfl
set_option maxRecDepth 100000 in
theorem gm_cp101 : gm_cwd 101 ∈ gm_T := gm_T_in (w := Jvm.Cond.code ⟨"GlacierMail$Rows", "add", "()I"⟩ prog_7_method_4_code 1 (some .int)) (i := 963) rfl rfl
set_option maxRecDepth 100000 in
theorem gm_cp102 : gm_cwd 102 ∈ gm_T := gm_T_in (w := Jvm.Cond.code ⟨"GlacierMail$ValleyReader", "readLine", "()Z"⟩ prog_10_method_3_code 1 (some .boolean)) (i := 967) rfl rfl
set_option maxRecDepth 100000 in
theorem gm_cp103 : gm_cwd 103 ∈ gm_T := gm_T_in (w := Jvm.Cond.code ⟨"GlacierMail$ValleyReader", "readLanes", "()Z"⟩ prog_10_method_4_code 2 (some .boolean)) (i := 973) rfl rfl
set_option maxRecDepth 100000 in
theorem gm_cp104 : gm_cwd 104 ∈ gm_T := gm_T_in (w := Jvm.Cond.code ⟨"GlacierMail$State", "isEmpty", "()Z"⟩ prog_8_method_3_code 1 (some .boolean)) (i := 977) rfl rfl
set_option maxRecDepth 100000 in
theorem gm_cp105 : gm_cwd 105 ∈ gm_T := gm_T_in (w := Jvm.Cond.code ⟨"GlacierMail$ValleyReader", "readLast", "()Z"⟩ prog_10_method_5_code 2 (some .boolean)) (i := 986) rfl rfl
set_option maxRecDepth 100000 in
theorem gm_cp106 : gm_cwd 106 ∈ gm_T := gm_T_in (w := Jvm.Cond.code ⟨"GlacierMail$ValleyReader", "readSection", "()Z"⟩ prog_10_method_6_code 5 (some .boolean)) (i := 991) rfl rfl
set_option maxRecDepth 100000 in
theorem gm_cp107 : gm_cwd 107 ∈ gm_T := gm_T_in (w := Jvm.Cond.code ⟨"GlacierMail$Rows", "isFull", "()Z"⟩ prog_7_method_3_code 1 (some .boolean)) (i := 995) rfl rfl
set_option maxRecDepth 100000 in
theorem gm_cp108 : gm_cwd 108 ∈ gm_T := gm_T_in (w := Jvm.Cond.code ⟨"GlacierMail$ValleyReader", "readSpeeds", "(LGlacierMail$Rows;II)Z"⟩ prog_10_method_7_code 6 (some .boolean)) (i := 1003) rfl rfl
set_option maxRecDepth 100000 in
theorem gm_cp109 : gm_cwd 109 ∈ gm_T := gm_T_in (w := Jvm.Cond.code ⟨"GlacierMail$ValleyReader", "readSnow", "()Z"⟩ prog_10_method_8_code 3 (some .boolean)) (i := 1008) rfl rfl
set_option maxRecDepth 100000 in
theorem gm_cp110 : gm_cwd 110 ∈ gm_T := gm_T_in (w := Jvm.Cond.code ⟨"GlacierMail$ValleyReader", "readRow", "()I"⟩ prog_10_method_16_code 1 (some .int)) (i := 1012) rfl rfl
set_option maxRecDepth 100000 in
theorem gm_cp111 : gm_cwd 111 ∈ gm_T := gm_T_in (w := Jvm.Cond.code ⟨"GlacierMail$Words", "needWord", "(Ljava/lang/String;)Z"⟩ prog_12_method_9_code 2 (some .boolean)) (i := 1017) rfl rfl
set_option maxRecDepth 100000 in
theorem gm_cp112 : gm_cwd 112 ∈ gm_T := gm_T_in (w := Jvm.Cond.code ⟨"GlacierMail$ValleyReader", "readStripe", "()Z"⟩ prog_10_method_9_code 2 (some .boolean)) (i := 1023) rfl rfl
set_option maxRecDepth 100000 in
theorem gm_cp113 : gm_cwd 113 ∈ gm_T := gm_T_in (w := Jvm.Cond.code ⟨"GlacierMail$ValleyReader", "readSeed", "()Z"⟩ prog_10_method_10_code 2 (some .boolean)) (i := 1028) rfl rfl
set_option maxRecDepth 100000 in
theorem gm_cp114 : gm_cwd 114 ∈ gm_T := gm_T_in (w := Jvm.Cond.code ⟨"GlacierMail$ValleyReader", "readFlood", "()Z"⟩ prog_10_method_11_code 5 (some .boolean)) (i := 1033) rfl rfl
set_option maxRecDepth 100000 in
theorem gm_cp115 : gm_cwd 115 ∈ gm_T := gm_T_in (w := Jvm.Cond.code ⟨"GlacierMail$ValleyReader", "readPerson", "()Z"⟩ prog_10_method_12_code 5 (some .boolean)) (i := 1038) rfl rfl
set_option maxRecDepth 100000 in
theorem gm_cp116 : gm_cwd 116 ∈ gm_T := gm_T_in (w := Jvm.Cond.code ⟨"GlacierMail$ValleyReader", "readLane", "()I"⟩ prog_10_method_15_code 1 (some .int)) (i := 1042) rfl rfl
set_option maxRecDepth 100000 in
theorem gm_cp117 : gm_cwd 117 ∈ gm_T := gm_T_in (w := Jvm.Cond.code ⟨"GlacierMail$ValleyReader", "readRock", "()Z"⟩ prog_10_method_13_code 3 (some .boolean)) (i := 1049) rfl rfl
set_option maxRecDepth 100000 in
theorem gm_cp118 : gm_cwd 118 ∈ gm_T := gm_T_in (w := Jvm.Cond.code ⟨"GlacierMail$State", "throwIn", "(IIII)I"⟩ prog_8_method_5_code 6 (some .int)) (i := 1053) rfl rfl
set_option maxRecDepth 100000 in
theorem gm_cp119 : gm_cwd 119 ∈ gm_T := gm_T_in (w := Jvm.Cond.code ⟨"GlacierMail$ValleyReader", "readTable", "()Z"⟩ prog_10_method_14_code 1 (some .boolean)) (i := 1060) rfl rfl
set_option maxRecDepth 100000 in
theorem gm_cp120 : gm_cwd 120 ∈ gm_T := gm_T_in (w := Jvm.Cond.code ⟨"GlacierMail$Words", "wrong", "()I"⟩ prog_12_method_3_code 1 (some .int)) (i := 1065) rfl rfl
set_option maxRecDepth 100000 in
theorem gm_cp121 : gm_cwd 121 ∈ gm_T := gm_T_in (w := Jvm.Cond.codeWith ⟨"GlacierMailLaw", "law", "(LGlacierMail;[J)I"⟩ method_4_code 3 (some .int) [(0, 8, 11, 13)]) (i := 1154) rfl rfl
set_option maxRecDepth 100000 in
theorem gm_cp122 : gm_cwd 122 ∈ gm_T := gm_T_in (w := Jvm.Cond.code ⟨"GlacierMail", "law", "()I"⟩ prog_1_method_6_code 1 (some .int)) (i := 1158) rfl rfl
set_option maxRecDepth 100000 in
theorem gm_cp123 : gm_cwd 123 ∈ gm_T := gm_T_in (w := Jvm.Cond.code ⟨"GlacierMail$LawReader", "makeLaw", "()LGlacierMail$Law;"⟩ prog_6_method_3_code 1 (some (.object "GlacierMail$Law"))) (i := 1166) rfl rfl
set_option maxRecDepth 100000 in
theorem gm_cp124 : gm_cwd 124 ∈ gm_T := gm_T_in (w := Jvm.Cond.code ⟨"java/util/Arrays", "copyOf", "([II)[I"⟩ prog_34_method_123_code 3 (some (.array .int))) (i := 1170) rfl rfl
set_option maxRecDepth 100000 in
theorem gm_cp125 : gm_cwd 125 ∈ gm_T := gm_T_in (w := Jvm.Cond.code ⟨"GlacierMail$Law", "<init>", "(LGlacierMail$Rows;[I)V"⟩ prog_5_method_1_code 3 none) (i := 1182) rfl rfl
set_option maxRecDepth 100000 in
theorem gm_cp126 : gm_cwd 126 ∈ gm_T := gm_T_in (w := Jvm.Cond.codeWith ⟨"GlacierMailLaw", "heat", "(LGlacierMail;I[J)I"⟩ method_5_code 4 (some .int) [(0, 9, 12, 13)]) (i := 1197) rfl rfl
set_option maxRecDepth 100000 in
theorem gm_cp127 : gm_cwd 127 ∈ gm_T := gm_T_in (w := Jvm.Cond.code ⟨"GlacierMail", "heat", "(I)I"⟩ prog_1_method_9_code 2 (some .int)) (i := 1201) rfl rfl
set_option maxRecDepth 100000 in
theorem gm_cp128 : gm_cwd 128 ∈ gm_T := gm_T_in (w := Jvm.Cond.code ⟨"GlacierMail", "needYear", "(I)V"⟩ prog_1_method_83_code 2 none) (i := 1205) rfl rfl
set_option maxRecDepth 100000 in
theorem gm_cp129 : gm_cwd 129 ∈ gm_T := gm_T_in (w := Jvm.Cond.codeWith ⟨"GlacierMailLaw", "speed", "(LGlacierMail;II[J)I"⟩ method_6_code 5 (some .int) [(0, 10, 13, 28)]) (i := 1210) rfl rfl
set_option maxRecDepth 100000 in
theorem gm_cp130 : gm_cwd 130 ∈ gm_T := gm_T_in (w := Jvm.Cond.code ⟨"GlacierMail", "speed", "(II)I"⟩ prog_1_method_10_code 3 (some .int)) (i := 1215) rfl rfl
set_option maxRecDepth 100000 in
theorem gm_cp131 : gm_cwd 131 ∈ gm_T := gm_T_in (w := Jvm.Cond.code ⟨"GlacierMail", "needLane", "(I)V"⟩ prog_1_method_78_code 2 none) (i := 1219) rfl rfl
set_option maxRecDepth 100000 in
theorem gm_cp132 : gm_cwd 132 ∈ gm_T := gm_T_in (w := Jvm.Cond.code ⟨"GlacierMail", "need", "(II)V"⟩ prog_1_method_77_code 3 none) (i := 1223) rfl rfl
set_option maxRecDepth 100000 in
theorem gm_cp133 : gm_cwd 133 ∈ gm_T := gm_T_in (w := Jvm.Cond.code ⟨"GlacierMail", "needRow", "(I)V"⟩ prog_1_method_79_code 2 none) (i := 1243) rfl rfl
set_option maxRecDepth 100000 in
theorem gm_cp134 : gm_cwd 134 ∈ gm_T := gm_T_in (w := Jvm.Cond.codeWith ⟨"GlacierMailLaw", "flow", "(LGlacierMail;III[J)I"⟩ method_7_code 6 (some .int) [(0, 12, 15, 28), (0, 12, 19, 13)]) (i := 1247) rfl rfl
set_option maxRecDepth 100000 in
theorem gm_cp135 : gm_cwd 135 ∈ gm_T := gm_T_in (w := Jvm.Cond.code ⟨"GlacierMail", "flow", "(III)I"⟩ prog_1_method_11_code 4 (some .int)) (i := 1251) rfl rfl
set_option maxRecDepth 100000 in
theorem gm_cp136 : gm_cwd 136 ∈ gm_T := gm_T_in (w := Jvm.Cond.codeWith ⟨"GlacierMailLaw", "person", "(LGlacierMail;II[J)I"⟩ method_8_code 5 (some .int) [(0, 10, 13, 28), (0, 10, 17, 37)]) (i := 1255) rfl rfl
set_option maxRecDepth 100000 in
theorem gm_cp137 : gm_cwd 137 ∈ gm_T := gm_T_in (w := Jvm.Cond.code ⟨"GlacierMail", "person", "(II)I"⟩ prog_1_method_12_code 3 (some .int)) (i := 1260) rfl rfl
set_option maxRecDepth 100000 in
theorem gm_cp138 : gm_cwd 138 ∈ gm_T := gm_T_in (w := Jvm.Cond.code ⟨"GlacierMail", "needPerson", "(I)V"⟩ prog_1_method_80_code 2 none) (i := 1264) rfl rfl
set_option maxRecDepth 100000 in
theorem gm_cp139 : gm_cwd 139 ∈ gm_T := gm_T_in (w := Jvm.Cond.code ⟨"GlacierMail", "lettersWith", "(II)I"⟩ prog_1_method_72_code 5 (some .int)) (i := 1268) rfl rfl
set_option maxRecDepth 100000 in
theorem gm_cp140 : gm_cwd 140 ∈ gm_T := gm_T_in (w := Jvm.Cond.codeWith ⟨"GlacierMailLaw", "letter", "(LGlacierMail;II[J)I"⟩ method_9_code 5 (some .int) [(0, 10, 13, 28), (0, 10, 17, 37)]) (i := 1287) rfl rfl
set_option maxRecDepth 100000 in
theorem gm_cp141 : gm_cwd 141 ∈ gm_T := gm_T_in (w := Jvm.Cond.code ⟨"GlacierMail", "letter", "(II)I"⟩ prog_1_method_13_code 3 (some .int)) (i := 1291) rfl rfl
set_option maxRecDepth 100000 in
theorem gm_cp142 : gm_cwd 142 ∈ gm_T := gm_T_in (w := Jvm.Cond.code ⟨"GlacierMail", "needLetter", "(I)V"⟩ prog_1_method_81_code 2 none) (i := 1295) rfl rfl
set_option maxRecDepth 100000 in
theorem gm_cp143 : gm_cwd 143 ∈ gm_T := gm_T_in (w := Jvm.Cond.code ⟨"GlacierMail", "outOf", "(I)I"⟩ prog_1_method_63_code 2 (some .int)) (i := 1299) rfl rfl
set_option maxRecDepth 100000 in
theorem gm_cp144 : gm_cwd 144 ∈ gm_T := gm_T_in (w := Jvm.Cond.code ⟨"GlacierMail", "firstBare", "(I)I"⟩ prog_1_method_64_code 3 (some .int)) (i := 1303) rfl rfl
set_option maxRecDepth 100000 in
theorem gm_cp145 : gm_cwd 145 ∈ gm_T := gm_T_in (w := Jvm.Cond.codeWith ⟨"GlacierMailLaw", "where", "(LGlacierMail;II[J)I"⟩ method_10_code 5 (some .int) [(0, 10, 13, 28), (0, 10, 17, 13)]) (i := 1309) rfl rfl
set_option maxRecDepth 100000 in
theorem gm_cp146 : gm_cwd 146 ∈ gm_T := gm_T_in (w := Jvm.Cond.code ⟨"GlacierMail", "where", "(II)I"⟩ prog_1_method_14_code 3 (some .int)) (i := 1313) rfl rfl
set_option maxRecDepth 100000 in
theorem gm_cp147 : gm_cwd 147 ∈ gm_T := gm_T_in (w := Jvm.Cond.code ⟨"GlacierMail$Way", "goOnTo", "(I)V"⟩ prog_11_method_10_code 3 none) (i := 1317) rfl rfl
set_option maxRecDepth 100000 in
theorem gm_cp148 : gm_cwd 148 ∈ gm_T := gm_T_in (w := Jvm.Cond.codeWith ⟨"GlacierMailLaw", "deep", "(LGlacierMail;II[J)I"⟩ method_11_code 5 (some .int) [(0, 10, 13, 28), (0, 10, 17, 13)]) (i := 1321) rfl rfl
set_option maxRecDepth 100000 in
theorem gm_cp149 : gm_cwd 149 ∈ gm_T := gm_T_in (w := Jvm.Cond.code ⟨"GlacierMail", "deep", "(II)I"⟩ prog_1_method_15_code 3 (some .int)) (i := 1325) rfl rfl
set_option maxRecDepth 100000 in
theorem gm_cp150 : gm_cwd 150 ∈ gm_T := gm_T_in (w := Jvm.Cond.codeWith ⟨"GlacierMailLaw", "post", "(LGlacierMail;II[J)I"⟩ method_12_code 5 (some .int) [(0, 10, 13, 28), (0, 10, 17, 13), (0, 10, 21, 15)]) (i := 1328) rfl rfl
set_option maxRecDepth 100000 in
theorem gm_cp151 : gm_cwd 151 ∈ gm_T := gm_T_in (w := Jvm.Cond.code ⟨"GlacierMail", "post", "(II)I"⟩ prog_1_method_16_code 3 (some .int)) (i := 1332) rfl rfl
set_option maxRecDepth 100000 in
theorem gm_cp152 : gm_cwd 152 ∈ gm_T := gm_T_in (w := Jvm.Cond.code ⟨"GlacierMail", "needUnlike", "(II)V"⟩ prog_1_method_85_code 3 none) (i := 1336) rfl rfl
set_option maxRecDepth 100000 in
theorem gm_cp153 : gm_cwd 153 ∈ gm_T := gm_T_in (w := Jvm.Cond.code ⟨"GlacierMail$History", "remember", "(LGlacierMail$State;)V"⟩ prog_3_method_3_code 2 none) (i := 1343) rfl rfl
set_option maxRecDepth 100000 in
theorem gm_cp154 : gm_cwd 154 ∈ gm_T := gm_T_in (w := Jvm.Cond.codeWith ⟨"GlacierMailLaw", "watch", "(LGlacierMail;II[J)I"⟩ method_13_code 5 (some .int) [(0, 10, 13, 28)]) (i := 1348) rfl rfl
set_option maxRecDepth 100000 in
theorem gm_cp155 : gm_cwd 155 ∈ gm_T := gm_T_in (w := Jvm.Cond.code ⟨"GlacierMail", "watch", "(II)I"⟩ prog_1_method_17_code 4 (some .int)) (i := 1352) rfl rfl
set_option maxRecDepth 100000 in
theorem gm_cp156 : gm_cwd 156 ∈ gm_T := gm_T_in (w := Jvm.Cond.codeWith ⟨"GlacierMailLaw", "open", "(LGlacierMail;I[J)I"⟩ method_14_code 4 (some .int) [(0, 9, 12, 28), (0, 9, 15, 57)]) (i := 1355) rfl rfl
set_option maxRecDepth 100000 in
theorem gm_cp157 : gm_cwd 157 ∈ gm_T := gm_T_in (w := Jvm.Cond.code ⟨"GlacierMail", "open", "(I)I"⟩ prog_1_method_18_code 2 (some .int)) (i := 1360) rfl rfl
set_option maxRecDepth 100000 in
theorem gm_cp158 : gm_cwd 158 ∈ gm_T := gm_T_in (w := Jvm.Cond.code ⟨"GlacierMail$State", "openLetter", "(II)V"⟩ prog_8_method_6_code 4 none) (i := 1380) rfl rfl
set_option maxRecDepth 100000 in
theorem gm_cp159 : gm_cwd 159 ∈ gm_T := gm_T_in (w := Jvm.Cond.codeWith ⟨"GlacierMailLaw", "years", "(LGlacierMail;I[J)I"⟩ method_15_code 4 (some .int) [(0, 9, 12, 13)]) (i := 1383) rfl rfl
set_option maxRecDepth 100000 in
theorem gm_cp160 : gm_cwd 160 ∈ gm_T := gm_T_in (w := Jvm.Cond.code ⟨"GlacierMail", "years", "(I)I"⟩ prog_1_method_19_code 4 (some .int)) (i := 1387) rfl rfl
set_option maxRecDepth 100000 in
theorem gm_cp161 : gm_cwd 161 ∈ gm_T := gm_T_in (w := Jvm.Cond.code ⟨"GlacierMail", "oneYearMore", "()I"⟩ prog_1_method_20_code 4 (some .int)) (i := 1392) rfl rfl
set_option maxRecDepth 100000 in
theorem gm_cp162 : gm_cwd 162 ∈ gm_T := gm_T_in (w := Jvm.Cond.code ⟨"GlacierMail", "openerOf", "(I)I"⟩ prog_1_method_21_code 6 (some .int)) (i := 1396) rfl rfl
set_option maxRecDepth 100000 in
theorem gm_cp163 : gm_cwd 163 ∈ gm_T := gm_T_in (w := Jvm.Cond.code ⟨"GlacierMail$Ice", "mayOpen", "(IIII)Z"⟩ prog_4_method_13_code 5 (some .boolean)) (i := 1400) rfl rfl
set_option maxRecDepth 100000 in
theorem gm_cp164 : gm_cwd 164 ∈ gm_T := gm_T_in (w := Jvm.Cond.code ⟨"GlacierMail$Law", "letsOpen", "([I)Z"⟩ prog_5_method_3_code 4 (some .boolean)) (i := 1404) rfl rfl
set_option maxRecDepth 100000 in
theorem gm_cp165 : gm_cwd 165 ∈ gm_T := gm_T_in (w := Jvm.Cond.codeWith ⟨"GlacierMailLaw", "throwsFor", "(LGlacierMail;IIII[J)I"⟩ method_16_code 7 (some .int) [(0, 14, 17, 28), (0, 14, 21, 13), (0, 14, 25, 37)]) (i := 1407) rfl rfl
set_option maxRecDepth 100000 in
theorem gm_cp166 : gm_cwd 166 ∈ gm_T := gm_T_in (w := Jvm.Cond.code ⟨"GlacierMail", "throwsFor", "(IIII)I"⟩ prog_1_method_22_code 9 (some .int)) (i := 1411) rfl rfl
set_option maxRecDepth 100000 in
theorem gm_cp167 : gm_cwd 167 ∈ gm_T := gm_T_in (w := Jvm.Cond.codeWith ⟨"GlacierMailLaw", "latest", "(LGlacierMail;II[J)I"⟩ method_17_code 5 (some .int) [(0, 10, 13, 28), (0, 10, 17, 13)]) (i := 1417) rfl rfl
set_option maxRecDepth 100000 in
theorem gm_cp168 : gm_cwd 168 ∈ gm_T := gm_T_in (w := Jvm.Cond.code ⟨"GlacierMail", "latest", "(II)I"⟩ prog_1_method_23_code 4 (some .int)) (i := 1421) rfl rfl
set_option maxRecDepth 100000 in
theorem gm_cp169 : gm_cwd 169 ∈ gm_T := gm_T_in (w := Jvm.Cond.code ⟨"GlacierMail$Way", "startHut", "(II)V"⟩ prog_11_method_4_code 3 none) (i := 1425) rfl rfl
set_option maxRecDepth 100000 in
theorem gm_cp170 : gm_cwd 170 ∈ gm_T := gm_T_in (w := Jvm.Cond.codeWith ⟨"GlacierMailLaw", "hut", "(LGlacierMail;II[J)I"⟩ method_18_code 5 (some .int) [(0, 10, 13, 28), (0, 10, 17, 13)]) (i := 1428) rfl rfl
set_option maxRecDepth 100000 in
theorem gm_cp171 : gm_cwd 171 ∈ gm_T := gm_T_in (w := Jvm.Cond.code ⟨"GlacierMail", "hut", "(II)I"⟩ prog_1_method_24_code 5 (some .int)) (i := 1432) rfl rfl
set_option maxRecDepth 100000 in
theorem gm_cp172 : gm_cwd 172 ∈ gm_T := gm_T_in (w := Jvm.Cond.codeWith ⟨"GlacierMailLaw", "without", "(LGlacierMail;II[J)I"⟩ method_19_code 5 (some .int) [(0, 10, 13, 28)]) (i := 1436) rfl rfl
set_option maxRecDepth 100000 in
theorem gm_cp173 : gm_cwd 173 ∈ gm_T := gm_T_in (w := Jvm.Cond.code ⟨"GlacierMail", "without", "(II)I"⟩ prog_1_method_25_code 3 (some .int)) (i := 1440) rfl rfl
set_option maxRecDepth 100000 in
theorem gm_cp174 : gm_cwd 174 ∈ gm_T := gm_T_in (w := Jvm.Cond.code ⟨"GlacierMail$Way", "leaveOut", "(I)V"⟩ prog_11_method_5_code 2 none) (i := 1444) rfl rfl
set_option maxRecDepth 100000 in
theorem gm_cp175 : gm_cwd 175 ∈ gm_T := gm_T_in (w := Jvm.Cond.codeWith ⟨"GlacierMailLaw", "moved", "(LGlacierMail;I[J)I"⟩ method_20_code 4 (some .int) [(0, 9, 12, 28)]) (i := 1447) rfl rfl
set_option maxRecDepth 100000 in
theorem gm_cp176 : gm_cwd 176 ∈ gm_T := gm_T_in (w := Jvm.Cond.code ⟨"GlacierMail", "moved", "(I)I"⟩ prog_1_method_26_code 2 (some .int)) (i := 1451) rfl rfl
set_option maxRecDepth 100000 in
theorem gm_cp177 : gm_cwd 177 ∈ gm_T := gm_T_in (w := Jvm.Cond.codeWith ⟨"GlacierMailLaw", "passes", "(LGlacierMail;I[J)I"⟩ method_21_code 4 (some .int) [(0, 9, 12, 28)]) (i := 1454) rfl rfl
set_option maxRecDepth 100000 in
theorem gm_cp178 : gm_cwd 178 ∈ gm_T := gm_T_in (w := Jvm.Cond.code ⟨"GlacierMail", "passes", "(I)I"⟩ prog_1_method_29_code 4 (some .int)) (i := 1458) rfl rfl
set_option maxRecDepth 100000 in
theorem gm_cp179 : gm_cwd 179 ∈ gm_T := gm_T_in (w := Jvm.Cond.code ⟨"GlacierMail", "sameLane", "(II)Z"⟩ prog_1_method_73_code 3 (some .boolean)) (i := 1462) rfl rfl
set_option maxRecDepth 100000 in
theorem gm_cp180 : gm_cwd 180 ∈ gm_T := gm_T_in (w := Jvm.Cond.code ⟨"GlacierMail", "passesBy", "(II)Z"⟩ prog_1_method_30_code 5 (some .boolean)) (i := 1466) rfl rfl
set_option maxRecDepth 100000 in
theorem gm_cp181 : gm_cwd 181 ∈ gm_T := gm_T_in (w := Jvm.Cond.code ⟨"GlacierMail", "startBoth", "(III)I"⟩ prog_1_method_74_code 5 (some .int)) (i := 1470) rfl rfl
set_option maxRecDepth 100000 in
theorem gm_cp182 : gm_cwd 182 ∈ gm_T := gm_T_in (w := Jvm.Cond.code ⟨"GlacierMail", "bothInIce", "()Z"⟩ prog_1_method_76_code 1 (some .boolean)) (i := 1475) rfl rfl
set_option maxRecDepth 100000 in
theorem gm_cp183 : gm_cwd 183 ∈ gm_T := gm_T_in (w := Jvm.Cond.code ⟨"GlacierMail", "stepBoth", "()V"⟩ prog_1_method_75_code 1 none) (i := 1479) rfl rfl
set_option maxRecDepth 100000 in
theorem gm_cp184 : gm_cwd 184 ∈ gm_T := gm_T_in (w := Jvm.Cond.codeWith ⟨"GlacierMailLaw", "writers", "(LGlacierMail;III[J)I"⟩ method_22_code 6 (some .int) [(0, 12, 15, 28), (0, 12, 19, 13)]) (i := 1482) rfl rfl
set_option maxRecDepth 100000 in
theorem gm_cp185 : gm_cwd 185 ∈ gm_T := gm_T_in (w := Jvm.Cond.code ⟨"GlacierMail", "writers", "(III)I"⟩ prog_1_method_31_code 6 (some .int)) (i := 1486) rfl rfl
set_option maxRecDepth 100000 in
theorem gm_cp186 : gm_cwd 186 ∈ gm_T := gm_T_in (w := Jvm.Cond.code ⟨"GlacierMail", "needFind", "(II)V"⟩ prog_1_method_84_code 3 none) (i := 1490) rfl rfl
set_option maxRecDepth 100000 in
theorem gm_cp187 : gm_cwd 187 ∈ gm_T := gm_T_in (w := Jvm.Cond.code ⟨"GlacierMail", "latestWriting", "(IIII)I"⟩ prog_1_method_33_code 6 (some .int)) (i := 1495) rfl rfl
set_option maxRecDepth 100000 in
theorem gm_cp188 : gm_cwd 188 ∈ gm_T := gm_T_in (w := Jvm.Cond.codeWith ⟨"GlacierMailLaw", "wrote", "(LGlacierMail;IIII[J)I"⟩ method_23_code 7 (some .int) [(0, 14, 17, 28), (0, 14, 21, 13)]) (i := 1498) rfl rfl
set_option maxRecDepth 100000 in
theorem gm_cp189 : gm_cwd 189 ∈ gm_T := gm_T_in (w := Jvm.Cond.code ⟨"GlacierMail", "wrote", "(IIII)I"⟩ prog_1_method_32_code 5 (some .int)) (i := 1502) rfl rfl
set_option maxRecDepth 100000 in
theorem gm_cp190 : gm_cwd 190 ∈ gm_T := gm_T_in (w := Jvm.Cond.codeWith ⟨"GlacierMailLaw", "table", "(LGlacierMail;II[J)I"⟩ method_24_code 5 (some .int) [(0, 10, 13, 28)]) (i := 1505) rfl rfl
set_option maxRecDepth 100000 in
theorem gm_cp191 : gm_cwd 191 ∈ gm_T := gm_T_in (w := Jvm.Cond.code ⟨"GlacierMail", "table", "(II)I"⟩ prog_1_method_34_code 3 (some .int)) (i := 1509) rfl rfl
set_option maxRecDepth 100000 in
theorem gm_cp192 : gm_cwd 192 ∈ gm_T := gm_T_in (w := Jvm.Cond.code ⟨"GlacierMail", "needTable", "(I)V"⟩ prog_1_method_82_code 2 none) (i := 1513) rfl rfl
set_option maxRecDepth 100000 in
theorem gm_cp193 : gm_cwd 193 ∈ gm_T := gm_T_in (w := Jvm.Cond.codeWith ⟨"GlacierMailLaw", "apart", "(LGlacierMail;III[J)I"⟩ method_25_code 6 (some .int) [(0, 19, 22, 28)]) (i := 1516) rfl rfl
set_option maxRecDepth 100000 in
theorem gm_cp194 : gm_cwd 194 ∈ gm_T := gm_T_in (w := Jvm.Cond.code ⟨"GlacierMail", "apart", "(III)Z"⟩ prog_1_method_35_code 4 (some .boolean)) (i := 1520) rfl rfl
set_option maxRecDepth 100000 in
theorem gm_cp195 : gm_cwd 195 ∈ gm_T := gm_T_in (w := Jvm.Cond.codeWith ⟨"GlacierMailLaw", "fit", "(LGlacierMail;[J)I"⟩ method_26_code 3 (some .int) [(0, 8, 11, 13)]) (i := 1523) rfl rfl
set_option maxRecDepth 100000 in
theorem gm_cp196 : gm_cwd 196 ∈ gm_T := gm_T_in (w := Jvm.Cond.code ⟨"GlacierMail", "fit", "()I"⟩ prog_1_method_39_code 4 (some .int)) (i := 1527) rfl rfl
set_option maxRecDepth 100000 in
theorem gm_cp197 : gm_cwd 197 ∈ gm_T := gm_T_in (w := Jvm.Cond.code ⟨"GlacierMail", "areReadings", "(I)Z"⟩ prog_1_method_40_code 5 (some .boolean)) (i := 1531) rfl rfl
set_option maxRecDepth 100000 in
theorem gm_cp198 : gm_cwd 198 ∈ gm_T := gm_T_in (w := Jvm.Cond.code ⟨"GlacierMail", "fitsReadings", "(II)Z"⟩ prog_1_method_41_code 4 (some .boolean)) (i := 1536) rfl rfl
set_option maxRecDepth 100000 in
theorem gm_cp199 : gm_cwd 199 ∈ gm_T := gm_T_in (w := Jvm.Cond.codeWith ⟨"GlacierMailLaw", "soonest", "(LGlacierMail;IIZ[J)I"⟩ method_27_code 6 (some .int) [(0, 12, 15, 28), (0, 12, 19, 13)]) (i := 1539) rfl rfl
set_option maxRecDepth 100000 in
theorem gm_cp200 : gm_cwd 200 ∈ gm_T := gm_T_in (w := Jvm.Cond.code ⟨"GlacierMail", "soonest", "(IIZ)I"⟩ prog_1_method_42_code 5 (some .int)) (i := 1543) rfl rfl
set_option maxRecDepth 100000 in
theorem gm_cp201 : gm_cwd 201 ∈ gm_T := gm_T_in (w := Jvm.Cond.code ⟨"GlacierMail$Answers", "spread", "(III)V"⟩ prog_2_method_2_code 7 none) (i := 1547) rfl rfl
set_option maxRecDepth 100000 in
theorem gm_cp202 : gm_cwd 202 ∈ gm_T := gm_T_in (w := Jvm.Cond.code ⟨"GlacierMail$Answers", "throwAgain", "(IIII)V"⟩ prog_2_method_3_code 10 none) (i := 1553) rfl rfl
set_option maxRecDepth 100000 in
theorem gm_cp203 : gm_cwd 203 ∈ gm_T := gm_T_in (w := Jvm.Cond.code ⟨"GlacierMail$Answers", "firstYear", "(I)I"⟩ prog_2_method_4_code 3 (some .int)) (i := 1562) rfl rfl
set_option maxRecDepth 100000 in
theorem gm_cp204 : gm_cwd 204 ∈ gm_T := gm_T_in (w := Jvm.Cond.code ⟨"GlacierMail$Answers", "fewestThrows", "(II)I"⟩ prog_2_method_5_code 3 (some .int)) (i := 1566) rfl rfl
set_option maxRecDepth 100000 in
theorem gm_cp205 : gm_cwd 205 ∈ gm_T := gm_T_in (w := Jvm.Cond.codeWith ⟨"GlacierMailLaw", "chain", "(LGlacierMail;III[J)I"⟩ method_28_code 6 (some .int) [(0, 12, 15, 28), (0, 12, 19, 13)]) (i := 1569) rfl rfl
set_option maxRecDepth 100000 in
theorem gm_cp206 : gm_cwd 206 ∈ gm_T := gm_T_in (w := Jvm.Cond.code ⟨"GlacierMail", "chain", "(III)I"⟩ prog_1_method_43_code 4 (some .int)) (i := 1573) rfl rfl
set_option maxRecDepth 100000 in
theorem gm_cp207 : gm_cwd 207 ∈ gm_T := gm_T_in (w := Jvm.Cond.code ⟨"GlacierMail$Answers", "holder", "(III)I"⟩ prog_2_method_6_code 9 (some .int)) (i := 1578) rfl rfl
set_option maxRecDepth 100000 in
theorem gm_cp208 : gm_cwd 208 ∈ gm_T := gm_T_in (w := Jvm.Cond.code ⟨"GlacierMail$Answers", "throwAhead", "(III)I"⟩ prog_2_method_7_code 7 (some .int)) (i := 1583) rfl rfl
set_option maxRecDepth 100000 in
theorem gm_cp209 : gm_cwd 209 ∈ gm_T := gm_T_in (w := Jvm.Cond.codeWith ⟨"GlacierMailLaw", "reached", "(LGlacierMail;II[J)I"⟩ method_29_code 5 (some .int) [(0, 10, 13, 28), (0, 10, 17, 13)]) (i := 1586) rfl rfl
set_option maxRecDepth 100000 in
theorem gm_cp210 : gm_cwd 210 ∈ gm_T := gm_T_in (w := Jvm.Cond.code ⟨"GlacierMail", "reached", "(II)I"⟩ prog_1_method_44_code 5 (some .int)) (i := 1590) rfl rfl
set_option maxRecDepth 100000 in
theorem gm_cp211 : gm_cwd 211 ∈ gm_T := gm_T_in (w := Jvm.Cond.codeWith ⟨"GlacierMailLaw", "thieves", "(LGlacierMail;IZ[J)I"⟩ method_30_code 5 (some .int) [(0, 10, 13, 13)]) (i := 1593) rfl rfl
set_option maxRecDepth 100000 in
theorem gm_cp212 : gm_cwd 212 ∈ gm_T := gm_T_in (w := Jvm.Cond.code ⟨"GlacierMail", "thieves", "(IZ)I"⟩ prog_1_method_45_code 5 (some .int)) (i := 1597) rfl rfl
set_option maxRecDepth 100000 in
theorem gm_cp213 : gm_cwd 213 ∈ gm_T := gm_T_in (w := Jvm.Cond.code ⟨"GlacierMail", "needThiefYears", "(I)V"⟩ prog_1_method_86_code 2 none) (i := 1601) rfl rfl
set_option maxRecDepth 100000 in
theorem gm_cp214 : gm_cwd 214 ∈ gm_T := gm_T_in (w := Jvm.Cond.code ⟨"GlacierMail", "reckonCame", "(I)V"⟩ prog_1_method_67_code 5 none) (i := 1605) rfl rfl
set_option maxRecDepth 100000 in
theorem gm_cp215 : gm_cwd 215 ∈ gm_T := gm_T_in (w := Jvm.Cond.code ⟨"GlacierMail", "bestNext", "(II)I"⟩ prog_1_method_46_code 4 (some .int)) (i := 1609) rfl rfl
set_option maxRecDepth 100000 in
theorem gm_cp216 : gm_cwd 216 ∈ gm_T := gm_T_in (w := Jvm.Cond.codeWith ⟨"GlacierMailLaw", "watchman", "(LGlacierMail;IZ[J)I"⟩ method_31_code 5 (some .int) [(0, 10, 13, 13)]) (i := 1612) rfl rfl
set_option maxRecDepth 100000 in
theorem gm_cp217 : gm_cwd 217 ∈ gm_T := gm_T_in (w := Jvm.Cond.code ⟨"GlacierMail", "watchman", "(IZ)I"⟩ prog_1_method_47_code 5 (some .int)) (i := 1616) rfl rfl
set_option maxRecDepth 100000 in
theorem gm_cp218 : gm_cwd 218 ∈ gm_T := gm_T_in (w := Jvm.Cond.code ⟨"GlacierMail", "mostBeside", "(II)I"⟩ prog_1_method_48_code 7 (some .int)) (i := 1620) rfl rfl
set_option maxRecDepth 100000 in
theorem gm_cp219 : gm_cwd 219 ∈ gm_T := gm_T_in (w := Jvm.Cond.codeWith ⟨"GlacierMailLaw", "meeting", "(LGlacierMail;II[J)I"⟩ method_32_code 5 (some .int) [(0, 10, 13, 28), (0, 10, 17, 13)]) (i := 1623) rfl rfl
set_option maxRecDepth 100000 in
theorem gm_cp220 : gm_cwd 220 ∈ gm_T := gm_T_in (w := Jvm.Cond.code ⟨"GlacierMail", "meeting", "(II)I"⟩ prog_1_method_49_code 5 (some .int)) (i := 1627) rfl rfl
set_option maxRecDepth 100000 in
theorem gm_cp221 : gm_cwd 221 ∈ gm_T := gm_T_in (w := Jvm.Cond.codeWith ⟨"GlacierMailLaw", "outs", "(LGlacierMail;I[J)I"⟩ method_33_code 4 (some .int) [(0, 9, 12, 13)]) (i := 1630) rfl rfl
set_option maxRecDepth 100000 in
theorem gm_cp222 : gm_cwd 222 ∈ gm_T := gm_T_in (w := Jvm.Cond.code ⟨"GlacierMail", "outs", "(I)I"⟩ prog_1_method_50_code 2 (some .int)) (i := 1634) rfl rfl
set_option maxRecDepth 100000 in
theorem gm_cp223 : gm_cwd 223 ∈ gm_T := gm_T_in (w := Jvm.Cond.codeWith ⟨"GlacierMailLaw", "streams", "(LGlacierMail;IZ[J)I"⟩ method_34_code 5 (some .int) [(0, 10, 13, 13)]) (i := 1637) rfl rfl
set_option maxRecDepth 100000 in
theorem gm_cp224 : gm_cwd 224 ∈ gm_T := gm_T_in (w := Jvm.Cond.code ⟨"GlacierMail", "streams", "(IZ)I"⟩ prog_1_method_53_code 6 (some .int)) (i := 1641) rfl rfl
set_option maxRecDepth 100000 in
theorem gm_cp225 : gm_cwd 225 ∈ gm_T := gm_T_in (w := Jvm.Cond.codeWith ⟨"GlacierMailLaw", "range", "(LGlacierMail;II[J)I"⟩ method_35_code 5 (some .int) [(0, 10, 13, 28), (0, 10, 17, 13)]) (i := 1644) rfl rfl
set_option maxRecDepth 100000 in
theorem gm_cp226 : gm_cwd 226 ∈ gm_T := gm_T_in (w := Jvm.Cond.code ⟨"GlacierMail", "range", "(II)I"⟩ prog_1_method_54_code 4 (some .int)) (i := 1648) rfl rfl
set_option maxRecDepth 100000 in
theorem gm_cp227 : gm_cwd 227 ∈ gm_T := gm_T_in (w := Jvm.Cond.codeWith ⟨"GlacierMailLaw", "swiftest", "(LGlacierMail;II[J)I"⟩ method_36_code 5 (some .int) [(0, 10, 13, 28), (0, 10, 17, 13)]) (i := 1651) rfl rfl
set_option maxRecDepth 100000 in
theorem gm_cp228 : gm_cwd 228 ∈ gm_T := gm_T_in (w := Jvm.Cond.code ⟨"GlacierMail", "swiftest", "(II)I"⟩ prog_1_method_55_code 7 (some .int)) (i := 1655) rfl rfl
set_option maxRecDepth 100000 in
theorem gm_cp229 : gm_cwd 229 ∈ gm_T := gm_T_in (w := Jvm.Cond.codeWith ⟨"GlacierMailLaw", "bare", "(LGlacierMail;I[J)I"⟩ method_37_code 4 (some .int) [(0, 9, 12, 13)]) (i := 1658) rfl rfl
set_option maxRecDepth 100000 in
theorem gm_cp230 : gm_cwd 230 ∈ gm_T := gm_T_in (w := Jvm.Cond.code ⟨"GlacierMail", "bare", "(I)I"⟩ prog_1_method_56_code 4 (some .int)) (i := 1662) rfl rfl
set_option maxRecDepth 100000 in
theorem gm_cp231 : gm_cwd 231 ∈ gm_T := gm_T_in (w := Jvm.Cond.codeWith ⟨"GlacierMailLaw", "log", "(LGlacierMail;II[J)I"⟩ method_38_code 5 (some .int) [(0, 10, 13, 37)]) (i := 1665) rfl rfl
set_option maxRecDepth 100000 in
theorem gm_cp232 : gm_cwd 232 ∈ gm_T := gm_T_in (w := Jvm.Cond.code ⟨"GlacierMail", "log", "(II)I"⟩ prog_1_method_57_code 3 (some .int)) (i := 1669) rfl rfl
set_option maxRecDepth 100000 in
theorem gm_cp233 : gm_cwd 233 ∈ gm_T := gm_T_in (w := Jvm.Cond.code ⟨"GlacierMailModel", "thrown", "()I"⟩ prog_14_method_1_code 1 (some .int)) (i := 1674) rfl rfl
set_option maxRecDepth 100000 in
theorem gm_cp234 : gm_cwd 234 ∈ gm_T := gm_T_in (w := Jvm.Cond.code ⟨"GlacierMailModel", "<init>", "()V"⟩ prog_14_method_5_code 1 none) (i := 1679) rfl rfl
set_option maxRecDepth 100000 in
theorem gm_cp235 : gm_cwd 235 ∈ gm_T := gm_T_in (w := Jvm.Cond.code ⟨"GlacierMailModel", "warms", "()V"⟩ prog_14_method_65_code 3 none) (i := 1684) rfl rfl
set_option maxRecDepth 100000 in
theorem gm_cp236 : gm_cwd 236 ∈ gm_T := gm_T_in (w := Jvm.Cond.code ⟨"GlacierMailModel", "image", "()V"⟩ prog_14_method_6_code 2 none) (i := 1807) rfl rfl
set_option maxRecDepth 100000 in
theorem gm_cp237 : gm_cwd 237 ∈ gm_T := gm_T_in (w := Jvm.Cond.code ⟨"GlacierMailModel", "back", "()Z"⟩ prog_14_method_7_code 2 (some .boolean)) (i := 1811) rfl rfl
set_option maxRecDepth 100000 in
theorem gm_cp238 : gm_cwd 238 ∈ gm_T := gm_T_in (w := Jvm.Cond.code ⟨"GlacierMailModel", "undo", "()Z"⟩ prog_14_method_9_code 2 (some .boolean)) (i := 1815) rfl rfl
set_option maxRecDepth 100000 in
theorem gm_cp239 : gm_cwd 239 ∈ gm_T := gm_T_in (w := Jvm.Cond.code ⟨"GlacierMailModel", "feed", "(IIIII)I"⟩ prog_14_method_24_code 7 (some .int)) (i := 1819) rfl rfl
set_option maxRecDepth 100000 in
theorem gm_cp240 : gm_cwd 240 ∈ gm_T := gm_T_in (w := Jvm.Cond.code ⟨"GlacierMailModel", "end", "(I)Z"⟩ prog_14_method_25_code 2 (some .boolean)) (i := 1823) rfl rfl
set_option maxRecDepth 100000 in
theorem gm_cp241 : gm_cwd 241 ∈ gm_T := gm_T_in (w := Jvm.Cond.code ⟨"GlacierMailModel", "fault", "()I"⟩ prog_14_method_35_code 1 (some .int)) (i := 1827) rfl rfl
set_option maxRecDepth 100000 in
theorem gm_cp242 : gm_cwd 242 ∈ gm_T := gm_T_in (w := Jvm.Cond.code ⟨"GlacierMailModel", "valley", "()I"⟩ prog_14_method_60_code 3 (some .int)) (i := 1831) rfl rfl
set_option maxRecDepth 100000 in
theorem gm_cp243 : gm_cwd 243 ∈ gm_T := gm_T_in (w := Jvm.Cond.code ⟨"GlacierMailModel", "readAll", "(Z)I"⟩ prog_14_method_59_code 3 (some .int)) (i := 1835) rfl rfl
set_option maxRecDepth 100000 in
theorem gm_cp244 : gm_cwd 244 ∈ gm_T := gm_T_in (w := Jvm.Cond.code ⟨"GlacierMailModel", "uses", "()V"⟩ prog_14_method_36_code 1 none) (i := 1839) rfl rfl
set_option maxRecDepth 100000 in
theorem gm_cp245 : gm_cwd 245 ∈ gm_T := gm_T_in (w := Jvm.Cond.code ⟨"GlacierMailModel", "blanks", "()V"⟩ prog_14_method_27_code 1 none) (i := 1843) rfl rfl
set_option maxRecDepth 100000 in
theorem gm_cp246 : gm_cwd 246 ∈ gm_T := gm_T_in (w := Jvm.Cond.code ⟨"GlacierMailModel", "isAt", "(II)Z"⟩ prog_14_method_26_code 3 (some .boolean)) (i := 1847) rfl rfl
set_option maxRecDepth 100000 in
theorem gm_cp247 : gm_cwd 247 ∈ gm_T := gm_T_in (w := Jvm.Cond.code ⟨"GlacierMailModel", "readLine", "(ZI)Z"⟩ prog_14_method_58_code 3 (some .boolean)) (i := 1851) rfl rfl
set_option maxRecDepth 100000 in
theorem gm_cp248 : gm_cwd 248 ∈ gm_T := gm_T_in (w := Jvm.Cond.code ⟨"GlacierMailModel", "letterRow", "()V"⟩ prog_14_method_28_code 1 none) (i := 1855) rfl rfl
set_option maxRecDepth 100000 in
theorem gm_cp249 : gm_cwd 249 ∈ gm_T := gm_T_in (w := Jvm.Cond.code ⟨"GlacierMailModel", "readValleyLine", "()Z"⟩ prog_14_method_50_code 3 (some .boolean)) (i := 1859) rfl rfl
set_option maxRecDepth 100000 in
theorem gm_cp250 : gm_cwd 250 ∈ gm_T := gm_T_in (w := Jvm.Cond.code ⟨"GlacierMailModel", "isWord", "(Ljava/lang/String;)Z"⟩ prog_14_method_29_code 4 (some .boolean)) (i := 1864) rfl rfl
set_option maxRecDepth 100000 in
theorem gm_cp251 : gm_cwd 251 ∈ gm_T := gm_T_in (w := Jvm.Cond.code ⟨"GlacierMailModel", "readLanes", "()Z"⟩ prog_14_method_40_code 2 (some .boolean)) (i := 1870) rfl rfl
set_option maxRecDepth 100000 in
theorem gm_cp252 : gm_cwd 252 ∈ gm_T := gm_T_in (w := Jvm.Cond.code ⟨"GlacierMailModel", "isEmpty", "()Z"⟩ prog_14_method_39_code 1 (some .boolean)) (i := 1874) rfl rfl
set_option maxRecDepth 100000 in
theorem gm_cp253 : gm_cwd 253 ∈ gm_T := gm_T_in (w := Jvm.Cond.code ⟨"GlacierMailModel", "people", "()I"⟩ prog_14_method_12_code 1 (some .int)) (i := 1878) rfl rfl
set_option maxRecDepth 100000 in
theorem gm_cp254 : gm_cwd 254 ∈ gm_T := gm_T_in (w := Jvm.Cond.code ⟨"GlacierMailModel", "letters", "()I"⟩ prog_14_method_13_code 1 (some .int)) (i := 1882) rfl rfl
set_option maxRecDepth 100000 in
theorem gm_cp255 : gm_cwd 255 ∈ gm_T := gm_T_in (w := Jvm.Cond.code ⟨"GlacierMailModel", "number", "(II)I"⟩ prog_14_method_33_code 3 (some .int)) (i := 1886) rfl rfl
set_option maxRecDepth 100000 in
theorem gm_cp256 : gm_cwd 256 ∈ gm_T := gm_T_in (w := Jvm.Cond.code ⟨"GlacierMailModel", "figures", "(III)I"⟩ prog_14_method_32_code 5 (some .int)) (i := 1890) rfl rfl
set_option maxRecDepth 100000 in
theorem gm_cp257 : gm_cwd 257 ∈ gm_T := gm_T_in (w := Jvm.Cond.code ⟨"GlacierMailModel", "readLast", "()Z"⟩ prog_14_method_41_code 2 (some .boolean)) (i := 1895) rfl rfl
set_option maxRecDepth 100000 in
theorem gm_cp258 : gm_cwd 258 ∈ gm_T := gm_T_in (w := Jvm.Cond.code ⟨"GlacierMailModel", "readSection", "()Z"⟩ prog_14_method_43_code 4 (some .boolean)) (i := 1900) rfl rfl
set_option maxRecDepth 100000 in
theorem gm_cp259 : gm_cwd 259 ∈ gm_T := gm_T_in (w := Jvm.Cond.code ⟨"GlacierMailModel", "lip", "()I"⟩ prog_14_method_11_code 1 (some .int)) (i := 1904) rfl rfl
set_option maxRecDepth 100000 in
theorem gm_cp260 : gm_cwd 260 ∈ gm_T := gm_T_in (w := Jvm.Cond.code ⟨"GlacierMailModel", "readSpeeds", "(I)Z"⟩ prog_14_method_42_code 4 (some .boolean)) (i := 1908) rfl rfl
set_option maxRecDepth 100000 in
theorem gm_cp261 : gm_cwd 261 ∈ gm_T := gm_T_in (w := Jvm.Cond.code ⟨"GlacierMailModel", "lanes", "()I"⟩ prog_14_method_10_code 1 (some .int)) (i := 1912) rfl rfl
set_option maxRecDepth 100000 in
theorem gm_cp262 : gm_cwd 262 ∈ gm_T := gm_T_in (w := Jvm.Cond.code ⟨"GlacierMailModel", "readSnow", "()Z"⟩ prog_14_method_44_code 3 (some .boolean)) (i := 1917) rfl rfl
set_option maxRecDepth 100000 in
theorem gm_cp263 : gm_cwd 263 ∈ gm_T := gm_T_in (w := Jvm.Cond.code ⟨"GlacierMailModel", "rowTold", "()I"⟩ prog_14_method_38_code 1 (some .int)) (i := 1921) rfl rfl
set_option maxRecDepth 100000 in
theorem gm_cp264 : gm_cwd 264 ∈ gm_T := gm_T_in (w := Jvm.Cond.code ⟨"GlacierMailModel", "after", "(Ljava/lang/String;II)I"⟩ prog_14_method_34_code 4 (some .int)) (i := 1926) rfl rfl
set_option maxRecDepth 100000 in
theorem gm_cp265 : gm_cwd 265 ∈ gm_T := gm_T_in (w := Jvm.Cond.code ⟨"GlacierMailModel", "readFlood", "()Z"⟩ prog_14_method_45_code 5 (some .boolean)) (i := 1931) rfl rfl
set_option maxRecDepth 100000 in
theorem gm_cp266 : gm_cwd 266 ∈ gm_T := gm_T_in (w := Jvm.Cond.code ⟨"GlacierMailModel", "now", "()I"⟩ prog_14_method_14_code 1 (some .int)) (i := 1935) rfl rfl
set_option maxRecDepth 100000 in
theorem gm_cp267 : gm_cwd 267 ∈ gm_T := gm_T_in (w := Jvm.Cond.code ⟨"GlacierMailModel", "readPerson", "()Z"⟩ prog_14_method_46_code 5 (some .boolean)) (i := 1940) rfl rfl
set_option maxRecDepth 100000 in
theorem gm_cp268 : gm_cwd 268 ∈ gm_T := gm_T_in (w := Jvm.Cond.code ⟨"GlacierMailModel", "laneTold", "()I"⟩ prog_14_method_37_code 1 (some .int)) (i := 1944) rfl rfl
set_option maxRecDepth 100000 in
theorem gm_cp269 : gm_cwd 269 ∈ gm_T := gm_T_in (w := Jvm.Cond.code ⟨"GlacierMailModel", "isNext", "(Ljava/lang/String;)Z"⟩ prog_14_method_30_code 2 (some .boolean)) (i := 1949) rfl rfl
set_option maxRecDepth 100000 in
theorem gm_cp270 : gm_cwd 270 ∈ gm_T := gm_T_in (w := Jvm.Cond.code ⟨"GlacierMailModel", "readRock", "()Z"⟩ prog_14_method_48_code 3 (some .boolean)) (i := 1954) rfl rfl
set_option maxRecDepth 100000 in
theorem gm_cp271 : gm_cwd 271 ∈ gm_T := gm_T_in (w := Jvm.Cond.code ⟨"GlacierMailModel", "throwsIn", "(IIII)V"⟩ prog_14_method_47_code 6 none) (i := 1958) rfl rfl
set_option maxRecDepth 100000 in
theorem gm_cp272 : gm_cwd 272 ∈ gm_T := gm_T_in (w := Jvm.Cond.code ⟨"GlacierMailModel", "setsLetter", "(III)V"⟩ prog_14_method_17_code 4 none) (i := 1962) rfl rfl
set_option maxRecDepth 100000 in
theorem gm_cp273 : gm_cwd 273 ∈ gm_T := gm_T_in (w := Jvm.Cond.code ⟨"GlacierMailModel", "readTable", "()Z"⟩ prog_14_method_49_code 2 (some .boolean)) (i := 1967) rfl rfl
set_option maxRecDepth 100000 in
theorem gm_cp274 : gm_cwd 274 ∈ gm_T := gm_T_in (w := Jvm.Cond.code ⟨"GlacierMailModel", "readLawLine", "(I)Z"⟩ prog_14_method_57_code 3 (some .boolean)) (i := 1973) rfl rfl
set_option maxRecDepth 100000 in
theorem gm_cp275 : gm_cwd 275 ∈ gm_T := gm_T_in (w := Jvm.Cond.code ⟨"GlacierMailModel", "readCond", "()Z"⟩ prog_14_method_56_code 1 (some .boolean)) (i := 1981) rfl rfl
set_option maxRecDepth 100000 in
theorem gm_cp276 : gm_cwd 276 ∈ gm_T := gm_T_in (w := Jvm.Cond.code ⟨"GlacierMailModel", "readAllOf", "()Z"⟩ prog_14_method_55_code 1 (some .boolean)) (i := 1985) rfl rfl
set_option maxRecDepth 100000 in
theorem gm_cp277 : gm_cwd 277 ∈ gm_T := gm_T_in (w := Jvm.Cond.code ⟨"GlacierMailModel", "readAtom", "()Z"⟩ prog_14_method_54_code 3 (some .boolean)) (i := 1989) rfl rfl
set_option maxRecDepth 100000 in
theorem gm_cp278 : gm_cwd 278 ∈ gm_T := gm_T_in (w := Jvm.Cond.code ⟨"GlacierMailModel", "sign", "(I)Z"⟩ prog_14_method_31_code 2 (some .boolean)) (i := 1993) rfl rfl
set_option maxRecDepth 100000 in
theorem gm_cp279 : gm_cwd 279 ∈ gm_T := gm_T_in (w := Jvm.Cond.code ⟨"GlacierMailModel", "emits", "(II)V"⟩ prog_14_method_51_code 3 none) (i := 1998) rfl rfl
set_option maxRecDepth 100000 in
theorem gm_cp280 : gm_cwd 280 ∈ gm_T := gm_T_in (w := Jvm.Cond.code ⟨"GlacierMailModel", "readSum", "()Z"⟩ prog_14_method_53_code 1 (some .boolean)) (i := 2004) rfl rfl
set_option maxRecDepth 100000 in
theorem gm_cp281 : gm_cwd 281 ∈ gm_T := gm_T_in (w := Jvm.Cond.code ⟨"GlacierMailModel", "readPart", "()Z"⟩ prog_14_method_52_code 2 (some .boolean)) (i := 2008) rfl rfl
set_option maxRecDepth 100000 in
theorem gm_cp282 : gm_cwd 282 ∈ gm_T := gm_T_in (w := Jvm.Cond.code ⟨"GlacierMailModel", "throwsIf", "(ZI)Z"⟩ prog_14_method_2_code 3 (some .boolean)) (i := 2021) rfl rfl
set_option maxRecDepth 100000 in
theorem gm_cp283 : gm_cwd 283 ∈ gm_T := gm_T_in (w := Jvm.Cond.code ⟨"GlacierMailModel", "law", "()I"⟩ prog_14_method_61_code 3 (some .int)) (i := 2025) rfl rfl
set_option maxRecDepth 100000 in
theorem gm_cp284 : gm_cwd 284 ∈ gm_T := gm_T_in (w := Jvm.Cond.code ⟨"GlacierMailModel", "heat", "(I)I"⟩ prog_14_method_69_code 2 (some .int)) (i := 2029) rfl rfl
set_option maxRecDepth 100000 in
theorem gm_cp285 : gm_cwd 285 ∈ gm_T := gm_T_in (w := Jvm.Cond.code ⟨"GlacierMailModel", "noYear", "(I)Z"⟩ prog_14_method_23_code 1 (some .boolean)) (i := 2032) rfl rfl
set_option maxRecDepth 100000 in
theorem gm_cp286 : gm_cwd 286 ∈ gm_T := gm_T_in (w := Jvm.Cond.code ⟨"GlacierMailModel", "in", "(III)Z"⟩ prog_14_method_3_code 3 (some .boolean)) (i := 2035) rfl rfl
set_option maxRecDepth 100000 in
theorem gm_cp287 : gm_cwd 287 ∈ gm_T := gm_T_in (w := Jvm.Cond.code ⟨"GlacierMailModel", "speed", "(II)I"⟩ prog_14_method_70_code 3 (some .int)) (i := 2039) rfl rfl
set_option maxRecDepth 100000 in
theorem gm_cp288 : gm_cwd 288 ∈ gm_T := gm_T_in (w := Jvm.Cond.code ⟨"GlacierMailModel", "noLane", "(I)Z"⟩ prog_14_method_19_code 2 (some .boolean)) (i := 2043) rfl rfl
set_option maxRecDepth 100000 in
theorem gm_cp289 : gm_cwd 289 ∈ gm_T := gm_T_in (w := Jvm.Cond.code ⟨"GlacierMailModel", "noRow", "(I)Z"⟩ prog_14_method_20_code 2 (some .boolean)) (i := 2047) rfl rfl
set_option maxRecDepth 100000 in
theorem gm_cp290 : gm_cwd 290 ∈ gm_T := gm_T_in (w := Jvm.Cond.code ⟨"GlacierMailModel", "speedAt", "(II)I"⟩ prog_14_method_67_code 5 (some .int)) (i := 2051) rfl rfl
set_option maxRecDepth 100000 in
theorem gm_cp291 : gm_cwd 291 ∈ gm_T := gm_T_in (w := Jvm.Cond.code ⟨"GlacierMailModel", "flow", "(III)I"⟩ prog_14_method_71_code 4 (some .int)) (i := 2055) rfl rfl
set_option maxRecDepth 100000 in
theorem gm_cp292 : gm_cwd 292 ∈ gm_T := gm_T_in (w := Jvm.Cond.code ⟨"GlacierMailModel", "flowAt", "(III)I"⟩ prog_14_method_68_code 6 (some .int)) (i := 2059) rfl rfl
set_option maxRecDepth 100000 in
theorem gm_cp293 : gm_cwd 293 ∈ gm_T := gm_T_in (w := Jvm.Cond.code ⟨"GlacierMailModel", "turnsTo", "(I)V"⟩ prog_14_method_66_code 3 none) (i := 2063) rfl rfl
set_option maxRecDepth 100000 in
theorem gm_cp294 : gm_cwd 294 ∈ gm_T := gm_T_in (w := Jvm.Cond.code ⟨"GlacierMailModel", "sumOf", "(I)I"⟩ prog_14_method_64_code 4 (some .int)) (i := 2067) rfl rfl
set_option maxRecDepth 100000 in
theorem gm_cp295 : gm_cwd 295 ∈ gm_T := gm_T_in (w := Jvm.Cond.code ⟨"GlacierMailModel", "holdsLine", "(I)Z"⟩ prog_14_method_63_code 9 (some .boolean)) (i := 2071) rfl rfl
set_option maxRecDepth 100000 in
theorem gm_cp296 : gm_cwd 296 ∈ gm_T := gm_T_in (w := Jvm.Cond.code ⟨"GlacierMailModel", "factOf", "(II)I"⟩ prog_14_method_62_code 3 (some .int)) (i := 2075) rfl rfl
set_option maxRecDepth 100000 in
theorem gm_cp297 : gm_cwd 297 ∈ gm_T := gm_T_in (w := Jvm.Cond.code ⟨"GlacierMailModel", "person", "(II)I"⟩ prog_14_method_81_code 3 (some .int)) (i := 2081) rfl rfl
set_option maxRecDepth 100000 in
theorem gm_cp298 : gm_cwd 298 ∈ gm_T := gm_T_in (w := Jvm.Cond.code ⟨"GlacierMailModel", "noPerson", "(I)Z"⟩ prog_14_method_21_code 2 (some .boolean)) (i := 2085) rfl rfl
set_option maxRecDepth 100000 in
theorem gm_cp299 : gm_cwd 299 ∈ gm_T := gm_T_in (w := Jvm.Cond.code ⟨"GlacierMailModel", "of", "(II)I"⟩ prog_14_method_15_code 3 (some .int)) (i := 2089) rfl rfl
set_option maxRecDepth 100000 in
theorem gm_cp300 : gm_cwd 300 ∈ gm_T := gm_T_in (w := Jvm.Cond.code ⟨"GlacierMailModel", "countOf", "(II)I"⟩ prog_14_method_80_code 6 (some .int)) (i := 2093) rfl rfl
set_option maxRecDepth 100000 in
theorem gm_cp301 : gm_cwd 301 ∈ gm_T := gm_T_in (w := Jvm.Cond.code ⟨"GlacierMailModel", "ofLetter", "(II)I"⟩ prog_14_method_16_code 3 (some .int)) (i := 2097) rfl rfl
set_option maxRecDepth 100000 in
theorem gm_cp302 : gm_cwd 302 ∈ gm_T := gm_T_in (w := Jvm.Cond.code ⟨"GlacierMailModel", "isWaiting", "(I)Z"⟩ prog_14_method_79_code 3 (some .boolean)) (i := 2101) rfl rfl
set_option maxRecDepth 100000 in
theorem gm_cp303 : gm_cwd 303 ∈ gm_T := gm_T_in (w := Jvm.Cond.code ⟨"GlacierMailModel", "isRock", "(I)Z"⟩ prog_14_method_18_code 2 (some .boolean)) (i := 2105) rfl rfl
set_option maxRecDepth 100000 in
theorem gm_cp304 : gm_cwd 304 ∈ gm_T := gm_T_in (w := Jvm.Cond.code ⟨"GlacierMailModel", "outOf", "(I)I"⟩ prog_14_method_75_code 2 (some .int)) (i := 2109) rfl rfl
set_option maxRecDepth 100000 in
theorem gm_cp305 : gm_cwd 305 ∈ gm_T := gm_T_in (w := Jvm.Cond.code ⟨"GlacierMailModel", "runsLetter", "(II)V"⟩ prog_14_method_74_code 3 none) (i := 2113) rfl rfl
set_option maxRecDepth 100000 in
theorem gm_cp306 : gm_cwd 306 ∈ gm_T := gm_T_in (w := Jvm.Cond.code ⟨"GlacierMailModel", "runs", "(IIIZI)V"⟩ prog_14_method_73_code 9 none) (i := 2117) rfl rfl
set_option maxRecDepth 100000 in
theorem gm_cp307 : gm_cwd 307 ∈ gm_T := gm_T_in (w := Jvm.Cond.code ⟨"GlacierMailModel", "floods", "(III)I"⟩ prog_14_method_72_code 7 (some .int)) (i := 2121) rfl rfl
set_option maxRecDepth 100000 in
theorem gm_cp308 : gm_cwd 308 ∈ gm_T := gm_T_in (w := Jvm.Cond.code ⟨"GlacierMailModel", "letter", "(II)I"⟩ prog_14_method_83_code 4 (some .int)) (i := 2125) rfl rfl
set_option maxRecDepth 100000 in
theorem gm_cp309 : gm_cwd 309 ∈ gm_T := gm_T_in (w := Jvm.Cond.code ⟨"GlacierMailModel", "noLetter", "(I)Z"⟩ prog_14_method_22_code 2 (some .boolean)) (i := 2129) rfl rfl
set_option maxRecDepth 100000 in
theorem gm_cp310 : gm_cwd 310 ∈ gm_T := gm_T_in (w := Jvm.Cond.code ⟨"GlacierMailModel", "bareFrom", "(I)I"⟩ prog_14_method_82_code 3 (some .int)) (i := 2133) rfl rfl
set_option maxRecDepth 100000 in
theorem gm_cp311 : gm_cwd 311 ∈ gm_T := gm_T_in (w := Jvm.Cond.code ⟨"GlacierMailModel", "isBare", "(II)Z"⟩ prog_14_method_78_code 3 (some .boolean)) (i := 2137) rfl rfl
set_option maxRecDepth 100000 in
theorem gm_cp312 : gm_cwd 312 ∈ gm_T := gm_T_in (w := Jvm.Cond.code ⟨"GlacierMailModel", "isInIce", "(I)Z"⟩ prog_14_method_77_code 2 (some .boolean)) (i := 2141) rfl rfl
set_option maxRecDepth 100000 in
theorem gm_cp313 : gm_cwd 313 ∈ gm_T := gm_T_in (w := Jvm.Cond.code ⟨"GlacierMailModel", "where", "(II)I"⟩ prog_14_method_84_code 3 (some .int)) (i := 2145) rfl rfl
set_option maxRecDepth 100000 in
theorem gm_cp314 : gm_cwd 314 ∈ gm_T := gm_T_in (w := Jvm.Cond.code ⟨"GlacierMailModel", "deep", "(II)I"⟩ prog_14_method_85_code 3 (some .int)) (i := 2149) rfl rfl
set_option maxRecDepth 100000 in
theorem gm_cp315 : gm_cwd 315 ∈ gm_T := gm_T_in (w := Jvm.Cond.code ⟨"GlacierMailModel", "post", "(II)I"⟩ prog_14_method_86_code 3 (some .int)) (i := 2153) rfl rfl
set_option maxRecDepth 100000 in
theorem gm_cp316 : gm_cwd 316 ∈ gm_T := gm_T_in (w := Jvm.Cond.code ⟨"GlacierMailModel", "remembers", "()V"⟩ prog_14_method_8_code 2 none) (i := 2157) rfl rfl
set_option maxRecDepth 100000 in
theorem gm_cp317 : gm_cwd 317 ∈ gm_T := gm_T_in (w := Jvm.Cond.code ⟨"GlacierMailModel", "watch", "(II)I"⟩ prog_14_method_87_code 4 (some .int)) (i := 2161) rfl rfl
set_option maxRecDepth 100000 in
theorem gm_cp318 : gm_cwd 318 ∈ gm_T := gm_T_in (w := Jvm.Cond.code ⟨"GlacierMailModel", "open", "(I)I"⟩ prog_14_method_89_code 2 (some .int)) (i := 2165) rfl rfl
set_option maxRecDepth 100000 in
theorem gm_cp319 : gm_cwd 319 ∈ gm_T := gm_T_in (w := Jvm.Cond.code ⟨"GlacierMailModel", "opens", "(II)V"⟩ prog_14_method_88_code 4 none) (i := 2169) rfl rfl
set_option maxRecDepth 100000 in
theorem gm_cp320 : gm_cwd 320 ∈ gm_T := gm_T_in (w := Jvm.Cond.code ⟨"GlacierMailModel", "years", "(I)I"⟩ prog_14_method_93_code 4 (some .int)) (i := 2173) rfl rfl
set_option maxRecDepth 100000 in
theorem gm_cp321 : gm_cwd 321 ∈ gm_T := gm_T_in (w := Jvm.Cond.code ⟨"GlacierMailModel", "year", "()I"⟩ prog_14_method_92_code 4 (some .int)) (i := 2177) rfl rfl
set_option maxRecDepth 100000 in
theorem gm_cp322 : gm_cwd 322 ∈ gm_T := gm_T_in (w := Jvm.Cond.code ⟨"GlacierMailModel", "opener", "(I)I"⟩ prog_14_method_91_code 4 (some .int)) (i := 2181) rfl rfl
set_option maxRecDepth 100000 in
theorem gm_cp323 : gm_cwd 323 ∈ gm_T := gm_T_in (w := Jvm.Cond.code ⟨"GlacierMailModel", "mayOpen", "(II)Z"⟩ prog_14_method_90_code 3 (some .boolean)) (i := 2185) rfl rfl
set_option maxRecDepth 100000 in
theorem gm_cp324 : gm_cwd 324 ∈ gm_T := gm_T_in (w := Jvm.Cond.code ⟨"GlacierMailModel", "throwsFor", "(IIII)I"⟩ prog_14_method_94_code 9 (some .int)) (i := 2189) rfl rfl
set_option maxRecDepth 100000 in
theorem gm_cp325 : gm_cwd 325 ∈ gm_T := gm_T_in (w := Jvm.Cond.code ⟨"GlacierMailModel", "outFrom", "(III)I"⟩ prog_14_method_76_code 4 (some .int)) (i := 2193) rfl rfl
set_option maxRecDepth 100000 in
theorem gm_cp326 : gm_cwd 326 ∈ gm_T := gm_T_in (w := Jvm.Cond.code ⟨"GlacierMailModel", "latest", "(II)I"⟩ prog_14_method_95_code 5 (some .int)) (i := 2197) rfl rfl
set_option maxRecDepth 100000 in
theorem gm_cp327 : gm_cwd 327 ∈ gm_T := gm_T_in (w := Jvm.Cond.code ⟨"GlacierMailModel", "hut", "(II)I"⟩ prog_14_method_96_code 5 (some .int)) (i := 2201) rfl rfl
set_option maxRecDepth 100000 in
theorem gm_cp328 : gm_cwd 328 ∈ gm_T := gm_T_in (w := Jvm.Cond.code ⟨"GlacierMailModel", "without", "(II)I"⟩ prog_14_method_97_code 3 (some .int)) (i := 2205) rfl rfl
set_option maxRecDepth 100000 in
theorem gm_cp329 : gm_cwd 329 ∈ gm_T := gm_T_in (w := Jvm.Cond.code ⟨"GlacierMailModel", "moved", "(I)I"⟩ prog_14_method_98_code 2 (some .int)) (i := 2209) rfl rfl
set_option maxRecDepth 100000 in
theorem gm_cp330 : gm_cwd 330 ∈ gm_T := gm_T_in (w := Jvm.Cond.code ⟨"GlacierMailModel", "lost", "()I"⟩ prog_14_method_99_code 3 (some .int)) (i := 2213) rfl rfl
set_option maxRecDepth 100000 in
theorem gm_cp331 : gm_cwd 331 ∈ gm_T := gm_T_in (w := Jvm.Cond.code ⟨"GlacierMailModel", "market", "(Z)I"⟩ prog_14_method_102_code 6 (some .int)) (i := 2217) rfl rfl
set_option maxRecDepth 100000 in
theorem gm_cp332 : gm_cwd 332 ∈ gm_T := gm_T_in (w := Jvm.Cond.code ⟨"GlacierMailModel", "outsAll", "()V"⟩ prog_14_method_100_code 2 none) (i := 2221) rfl rfl
set_option maxRecDepth 100000 in
theorem gm_cp333 : gm_cwd 333 ∈ gm_T := gm_T_in (w := Jvm.Cond.code ⟨"GlacierMailModel", "outsIn", "(IIZ)I"⟩ prog_14_method_101_code 6 (some .int)) (i := 2225) rfl rfl
set_option maxRecDepth 100000 in
theorem gm_cp334 : gm_cwd 334 ∈ gm_T := gm_T_in (w := Jvm.Cond.code ⟨"GlacierMailModel", "passes", "(I)I"⟩ prog_14_method_106_code 4 (some .int)) (i := 2229) rfl rfl
set_option maxRecDepth 100000 in
theorem gm_cp335 : gm_cwd 335 ∈ gm_T := gm_T_in (w := Jvm.Cond.code ⟨"GlacierMailModel", "keepsRows", "()V"⟩ prog_14_method_103_code 2 none) (i := 2233) rfl rfl
set_option maxRecDepth 100000 in
theorem gm_cp336 : gm_cwd 336 ∈ gm_T := gm_T_in (w := Jvm.Cond.code ⟨"GlacierMailModel", "isPassing", "(I)Z"⟩ prog_14_method_105_code 3 (some .boolean)) (i := 2237) rfl rfl
set_option maxRecDepth 100000 in
theorem gm_cp337 : gm_cwd 337 ∈ gm_T := gm_T_in (w := Jvm.Cond.code ⟨"GlacierMailModel", "isOtherInIce", "(I)Z"⟩ prog_14_method_104_code 2 (some .boolean)) (i := 2241) rfl rfl
set_option maxRecDepth 100000 in
theorem gm_cp338 : gm_cwd 338 ∈ gm_T := gm_T_in (w := Jvm.Cond.code ⟨"GlacierMailModel", "writers", "(III)I"⟩ prog_14_method_108_code 6 (some .int)) (i := 2245) rfl rfl
set_option maxRecDepth 100000 in
theorem gm_cp339 : gm_cwd 339 ∈ gm_T := gm_T_in (w := Jvm.Cond.code ⟨"GlacierMailModel", "wroteIn", "(IIII)I"⟩ prog_14_method_107_code 6 (some .int)) (i := 2249) rfl rfl
set_option maxRecDepth 100000 in
theorem gm_cp340 : gm_cwd 340 ∈ gm_T := gm_T_in (w := Jvm.Cond.code ⟨"GlacierMailModel", "wrote", "(IIII)I"⟩ prog_14_method_109_code 5 (some .int)) (i := 2253) rfl rfl
set_option maxRecDepth 100000 in
theorem gm_cp341 : gm_cwd 341 ∈ gm_T := gm_T_in (w := Jvm.Cond.code ⟨"GlacierMailModel", "table", "(II)I"⟩ prog_14_method_112_code 3 (some .int)) (i := 2257) rfl rfl
set_option maxRecDepth 100000 in
theorem gm_cp342 : gm_cwd 342 ∈ gm_T := gm_T_in (w := Jvm.Cond.code ⟨"GlacierMailModel", "noTable", "(I)Z"⟩ prog_14_method_111_code 2 (some .boolean)) (i := 2261) rfl rfl
set_option maxRecDepth 100000 in
theorem gm_cp343 : gm_cwd 343 ∈ gm_T := gm_T_in (w := Jvm.Cond.code ⟨"GlacierMailModel", "ofTable", "(II)I"⟩ prog_14_method_110_code 3 (some .int)) (i := 2265) rfl rfl
set_option maxRecDepth 100000 in
theorem gm_cp344 : gm_cwd 344 ∈ gm_T := gm_T_in (w := Jvm.Cond.code ⟨"GlacierMailModel", "apart", "(III)Z"⟩ prog_14_method_114_code 4 (some .boolean)) (i := 2269) rfl rfl
set_option maxRecDepth 100000 in
theorem gm_cp345 : gm_cwd 345 ∈ gm_T := gm_T_in (w := Jvm.Cond.code ⟨"GlacierMailModel", "areApart", "(III)Z"⟩ prog_14_method_113_code 6 (some .boolean)) (i := 2273) rfl rfl
set_option maxRecDepth 100000 in
theorem gm_cp346 : gm_cwd 346 ∈ gm_T := gm_T_in (w := Jvm.Cond.code ⟨"GlacierMailModel", "has", "(II)Z"⟩ prog_14_method_4_code 2 (some .boolean)) (i := 2276) rfl rfl
set_option maxRecDepth 100000 in
theorem gm_cp347 : gm_cwd 347 ∈ gm_T := gm_T_in (w := Jvm.Cond.code ⟨"GlacierMailModel", "poles", "()I"⟩ prog_14_method_115_code 6 (some .int)) (i := 2280) rfl rfl
set_option maxRecDepth 100000 in
theorem gm_cp348 : gm_cwd 348 ∈ gm_T := gm_T_in (w := Jvm.Cond.code ⟨"GlacierMailModel", "fit", "()I"⟩ prog_14_method_116_code 5 (some .int)) (i := 2285) rfl rfl
set_option maxRecDepth 100000 in
theorem gm_cp349 : gm_cwd 349 ∈ gm_T := gm_T_in (w := Jvm.Cond.code ⟨"GlacierMailModel", "soonest", "(IIZ)I"⟩ prog_14_method_121_code 5 (some .int)) (i := 2289) rfl rfl
set_option maxRecDepth 100000 in
theorem gm_cp350 : gm_cwd 350 ∈ gm_T := gm_T_in (w := Jvm.Cond.code ⟨"GlacierMailModel", "answers", "(I)V"⟩ prog_14_method_119_code 7 none) (i := 2293) rfl rfl
set_option maxRecDepth 100000 in
theorem gm_cp351 : gm_cwd 351 ∈ gm_T := gm_T_in (w := Jvm.Cond.code ⟨"GlacierMailModel", "at", "(II)I"⟩ prog_14_method_117_code 2 (some .int)) (i := 2296) rfl rfl
set_option maxRecDepth 100000 in
theorem gm_cp352 : gm_cwd 352 ∈ gm_T := gm_T_in (w := Jvm.Cond.code ⟨"GlacierMailModel", "isWatching", "(II)Z"⟩ prog_14_method_118_code 3 (some .boolean)) (i := 2300) rfl rfl
set_option maxRecDepth 100000 in
theorem gm_cp353 : gm_cwd 353 ∈ gm_T := gm_T_in (w := Jvm.Cond.code ⟨"GlacierMailModel", "hasIn", "(I)I"⟩ prog_14_method_120_code 3 (some .int)) (i := 2304) rfl rfl
set_option maxRecDepth 100000 in
theorem gm_cp354 : gm_cwd 354 ∈ gm_T := gm_T_in (w := Jvm.Cond.code ⟨"GlacierMailModel", "chain", "(III)I"⟩ prog_14_method_123_code 7 (some .int)) (i := 2308) rfl rfl
set_option maxRecDepth 100000 in
theorem gm_cp355 : gm_cwd 355 ∈ gm_T := gm_T_in (w := Jvm.Cond.code ⟨"GlacierMailModel", "thrower", "(III)I"⟩ prog_14_method_122_code 6 (some .int)) (i := 2312) rfl rfl
set_option maxRecDepth 100000 in
theorem gm_cp356 : gm_cwd 356 ∈ gm_T := gm_T_in (w := Jvm.Cond.code ⟨"GlacierMailModel", "reached", "(II)I"⟩ prog_14_method_124_code 6 (some .int)) (i := 2316) rfl rfl
set_option maxRecDepth 100000 in
theorem gm_cp357 : gm_cwd 357 ∈ gm_T := gm_T_in (w := Jvm.Cond.code ⟨"GlacierMailModel", "thieves", "(IZ)I"⟩ prog_14_method_126_code 5 (some .int)) (i := 2320) rfl rfl
set_option maxRecDepth 100000 in
theorem gm_cp358 : gm_cwd 358 ∈ gm_T := gm_T_in (w := Jvm.Cond.code ⟨"GlacierMailModel", "steals", "(I)V"⟩ prog_14_method_125_code 5 none) (i := 2324) rfl rfl
set_option maxRecDepth 100000 in
theorem gm_cp359 : gm_cwd 359 ∈ gm_T := gm_T_in (w := Jvm.Cond.code ⟨"GlacierMailModel", "watchman", "(IZ)I"⟩ prog_14_method_127_code 8 (some .int)) (i := 2328) rfl rfl
set_option maxRecDepth 100000 in
theorem gm_cp360 : gm_cwd 360 ∈ gm_T := gm_T_in (w := Jvm.Cond.code ⟨"GlacierMailModel", "meeting", "(II)I"⟩ prog_14_method_128_code 4 (some .int)) (i := 2332) rfl rfl
set_option maxRecDepth 100000 in
theorem gm_cp361 : gm_cwd 361 ∈ gm_T := gm_T_in (w := Jvm.Cond.code ⟨"GlacierMailModel", "outs", "(I)I"⟩ prog_14_method_129_code 2 (some .int)) (i := 2336) rfl rfl
set_option maxRecDepth 100000 in
theorem gm_cp362 : gm_cwd 362 ∈ gm_T := gm_T_in (w := Jvm.Cond.code ⟨"GlacierMailModel", "order", "(I)I"⟩ prog_14_method_130_code 5 (some .int)) (i := 2340) rfl rfl
set_option maxRecDepth 100000 in
theorem gm_cp363 : gm_cwd 363 ∈ gm_T := gm_T_in (w := Jvm.Cond.code ⟨"GlacierMailModel", "streams", "(IZ)I"⟩ prog_14_method_131_code 5 (some .int)) (i := 2344) rfl rfl
set_option maxRecDepth 100000 in
theorem gm_cp364 : gm_cwd 364 ∈ gm_T := gm_T_in (w := Jvm.Cond.code ⟨"GlacierMailModel", "range", "(II)I"⟩ prog_14_method_132_code 4 (some .int)) (i := 2348) rfl rfl
set_option maxRecDepth 100000 in
theorem gm_cp365 : gm_cwd 365 ∈ gm_T := gm_T_in (w := Jvm.Cond.code ⟨"GlacierMailModel", "swiftest", "(II)I"⟩ prog_14_method_133_code 7 (some .int)) (i := 2352) rfl rfl
set_option maxRecDepth 100000 in
theorem gm_cp366 : gm_cwd 366 ∈ gm_T := gm_T_in (w := Jvm.Cond.code ⟨"GlacierMailModel", "bare", "(I)I"⟩ prog_14_method_134_code 4 (some .int)) (i := 2356) rfl rfl
set_option maxRecDepth 100000 in
theorem gm_cp367 : gm_cwd 367 ∈ gm_T := gm_T_in (w := Jvm.Cond.code ⟨"GlacierMailModel", "log", "(II)I"⟩ prog_14_method_135_code 3 (some .int)) (i := 2360) rfl rfl
set_option maxRecDepth 100000 in
theorem gm_cp368 : gm_cwd 368 ∈ gm_T := gm_T_in (w := Jvm.Cond.code ⟨"GlacierMailModel", "count", "(I)I"⟩ prog_14_method_136_code 5 (some .int)) (i := 2364) rfl rfl
set_option maxRecDepth 100000 in
theorem gm_cpr0 : ∀ w ∈ (List.range' 0 30).map gm_cwd, w ∈ gm_T := List.forall_mem_cons.mpr ⟨gm_cp0, List.forall_mem_cons.mpr ⟨gm_cp1, List.forall_mem_cons.mpr ⟨gm_cp2, List.forall_mem_cons.mpr ⟨gm_cp3, List.forall_mem_cons.mpr ⟨gm_cp4, List.forall_mem_cons.mpr ⟨gm_cp5, List.forall_mem_cons.mpr ⟨gm_cp6, List.forall_mem_cons.mpr ⟨gm_cp7, List.forall_mem_cons.mpr ⟨gm_cp8, List.forall_mem_cons.mpr ⟨gm_cp9, List.forall_mem_cons.mpr ⟨gm_cp10, List.forall_mem_cons.mpr ⟨gm_cp11, List.forall_mem_cons.mpr ⟨gm_cp12, List.forall_mem_cons.mpr ⟨gm_cp13, List.forall_mem_cons.mpr ⟨gm_cp14, List.forall_mem_cons.mpr ⟨gm_cp15, List.forall_mem_cons.mpr ⟨gm_cp16, List.forall_mem_cons.mpr ⟨gm_cp17, List.forall_mem_cons.mpr ⟨gm_cp18, List.forall_mem_cons.mpr ⟨gm_cp19, List.forall_mem_cons.mpr ⟨gm_cp20, List.forall_mem_cons.mpr ⟨gm_cp21, List.forall_mem_cons.mpr ⟨gm_cp22, List.forall_mem_cons.mpr ⟨gm_cp23, List.forall_mem_cons.mpr ⟨gm_cp24, List.forall_mem_cons.mpr ⟨gm_cp25, List.forall_mem_cons.mpr ⟨gm_cp26, List.forall_mem_cons.mpr ⟨gm_cp27, List.forall_mem_cons.mpr ⟨gm_cp28, List.forall_mem_cons.mpr ⟨gm_cp29, fun _ h => absurd h List.not_mem_nil⟩⟩⟩⟩⟩⟩⟩⟩⟩⟩⟩⟩⟩⟩⟩⟩⟩⟩⟩⟩⟩⟩⟩⟩⟩⟩⟩⟩⟩⟩
set_option maxRecDepth 100000 in
theorem gm_cpr30 : ∀ w ∈ (List.range' 30 30).map gm_cwd, w ∈ gm_T := List.forall_mem_cons.mpr ⟨gm_cp30, List.forall_mem_cons.mpr ⟨gm_cp31, List.forall_mem_cons.mpr ⟨gm_cp32, List.forall_mem_cons.mpr ⟨gm_cp33, List.forall_mem_cons.mpr ⟨gm_cp34, List.forall_mem_cons.mpr ⟨gm_cp35, List.forall_mem_cons.mpr ⟨gm_cp36, List.forall_mem_cons.mpr ⟨gm_cp37, List.forall_mem_cons.mpr ⟨gm_cp38, List.forall_mem_cons.mpr ⟨gm_cp39, List.forall_mem_cons.mpr ⟨gm_cp40, List.forall_mem_cons.mpr ⟨gm_cp41, List.forall_mem_cons.mpr ⟨gm_cp42, List.forall_mem_cons.mpr ⟨gm_cp43, List.forall_mem_cons.mpr ⟨gm_cp44, List.forall_mem_cons.mpr ⟨gm_cp45, List.forall_mem_cons.mpr ⟨gm_cp46, List.forall_mem_cons.mpr ⟨gm_cp47, List.forall_mem_cons.mpr ⟨gm_cp48, List.forall_mem_cons.mpr ⟨gm_cp49, List.forall_mem_cons.mpr ⟨gm_cp50, List.forall_mem_cons.mpr ⟨gm_cp51, List.forall_mem_cons.mpr ⟨gm_cp52, List.forall_mem_cons.mpr ⟨gm_cp53, List.forall_mem_cons.mpr ⟨gm_cp54, List.forall_mem_cons.mpr ⟨gm_cp55, List.forall_mem_cons.mpr ⟨gm_cp56, List.forall_mem_cons.mpr ⟨gm_cp57, List.forall_mem_cons.mpr ⟨gm_cp58, List.forall_mem_cons.mpr ⟨gm_cp59, fun _ h => absurd h List.not_mem_nil⟩⟩⟩⟩⟩⟩⟩⟩⟩⟩⟩⟩⟩⟩⟩⟩⟩⟩⟩⟩⟩⟩⟩⟩⟩⟩⟩⟩⟩⟩
set_option maxRecDepth 100000 in
theorem gm_cpr60 : ∀ w ∈ (List.range' 60 30).map gm_cwd, w ∈ gm_T := List.forall_mem_cons.mpr ⟨gm_cp60, List.forall_mem_cons.mpr ⟨gm_cp61, List.forall_mem_cons.mpr ⟨gm_cp62, List.forall_mem_cons.mpr ⟨gm_cp63, List.forall_mem_cons.mpr ⟨gm_cp64, List.forall_mem_cons.mpr ⟨gm_cp65, List.forall_mem_cons.mpr ⟨gm_cp66, List.forall_mem_cons.mpr ⟨gm_cp67, List.forall_mem_cons.mpr ⟨gm_cp68, List.forall_mem_cons.mpr ⟨gm_cp69, List.forall_mem_cons.mpr ⟨gm_cp70, List.forall_mem_cons.mpr ⟨gm_cp71, List.forall_mem_cons.mpr ⟨gm_cp72, List.forall_mem_cons.mpr ⟨gm_cp73, List.forall_mem_cons.mpr ⟨gm_cp74, List.forall_mem_cons.mpr ⟨gm_cp75, List.forall_mem_cons.mpr ⟨gm_cp76, List.forall_mem_cons.mpr ⟨gm_cp77, List.forall_mem_cons.mpr ⟨gm_cp78, List.forall_mem_cons.mpr ⟨gm_cp79, List.forall_mem_cons.mpr ⟨gm_cp80, List.forall_mem_cons.mpr ⟨gm_cp81, List.forall_mem_cons.mpr ⟨gm_cp82, List.forall_mem_cons.mpr ⟨gm_cp83, List.forall_mem_cons.mpr ⟨gm_cp84, List.forall_mem_cons.mpr ⟨gm_cp85, List.forall_mem_cons.mpr ⟨gm_cp86, List.forall_mem_cons.mpr ⟨gm_cp87, List.forall_mem_cons.mpr ⟨gm_cp88, List.forall_mem_cons.mpr ⟨gm_cp89, fun _ h => absurd h List.not_mem_nil⟩⟩⟩⟩⟩⟩⟩⟩⟩⟩⟩⟩⟩⟩⟩⟩⟩⟩⟩⟩⟩⟩⟩⟩⟩⟩⟩⟩⟩⟩
set_option maxRecDepth 100000 in
theorem gm_cpr90 : ∀ w ∈ (List.range' 90 30).map gm_cwd, w ∈ gm_T := List.forall_mem_cons.mpr ⟨gm_cp90, List.forall_mem_cons.mpr ⟨gm_cp91, List.forall_mem_cons.mpr ⟨gm_cp92, List.forall_mem_cons.mpr ⟨gm_cp93, List.forall_mem_cons.mpr ⟨gm_cp94, List.forall_mem_cons.mpr ⟨gm_cp95, List.forall_mem_cons.mpr ⟨gm_cp96, List.forall_mem_cons.mpr ⟨gm_cp97, List.forall_mem_cons.mpr ⟨gm_cp98, List.forall_mem_cons.mpr ⟨gm_cp99, List.forall_mem_cons.mpr ⟨gm_cp100, List.forall_mem_cons.mpr ⟨gm_cp101, List.forall_mem_cons.mpr ⟨gm_cp102, List.forall_mem_cons.mpr ⟨gm_cp103, List.forall_mem_cons.mpr ⟨gm_cp104, List.forall_mem_cons.mpr ⟨gm_cp105, List.forall_mem_cons.mpr ⟨gm_cp106, List.forall_mem_cons.mpr ⟨gm_cp107, List.forall_mem_cons.mpr ⟨gm_cp108, List.forall_mem_cons.mpr ⟨gm_cp109, List.forall_mem_cons.mpr ⟨gm_cp110, List.forall_mem_cons.mpr ⟨gm_cp111, List.forall_mem_cons.mpr ⟨gm_cp112, List.forall_mem_cons.mpr ⟨gm_cp113, List.forall_mem_cons.mpr ⟨gm_cp114, List.forall_mem_cons.mpr ⟨gm_cp115, List.forall_mem_cons.mpr ⟨gm_cp116, List.forall_mem_cons.mpr ⟨gm_cp117, List.forall_mem_cons.mpr ⟨gm_cp118, List.forall_mem_cons.mpr ⟨gm_cp119, fun _ h => absurd h List.not_mem_nil⟩⟩⟩⟩⟩⟩⟩⟩⟩⟩⟩⟩⟩⟩⟩⟩⟩⟩⟩⟩⟩⟩⟩⟩⟩⟩⟩⟩⟩⟩
set_option maxRecDepth 100000 in
theorem gm_cpr120 : ∀ w ∈ (List.range' 120 30).map gm_cwd, w ∈ gm_T := List.forall_mem_cons.mpr ⟨gm_cp120, List.forall_mem_cons.mpr ⟨gm_cp121, List.forall_mem_cons.mpr ⟨gm_cp122, List.forall_mem_cons.mpr ⟨gm_cp123, List.forall_mem_cons.mpr ⟨gm_cp124, List.forall_mem_cons.mpr ⟨gm_cp125, List.forall_mem_cons.mpr ⟨gm_cp126, List.forall_mem_cons.mpr ⟨gm_cp127, List.forall_mem_cons.mpr ⟨gm_cp128, List.forall_mem_cons.mpr ⟨gm_cp129, List.forall_mem_cons.mpr ⟨gm_cp130, List.forall_mem_cons.mpr ⟨gm_cp131, List.forall_mem_cons.mpr ⟨gm_cp132, List.forall_mem_cons.mpr ⟨gm_cp133, List.forall_mem_cons.mpr ⟨gm_cp134, List.forall_mem_cons.mpr ⟨gm_cp135, List.forall_mem_cons.mpr ⟨gm_cp136, List.forall_mem_cons.mpr ⟨gm_cp137, List.forall_mem_cons.mpr ⟨gm_cp138, List.forall_mem_cons.mpr ⟨gm_cp139, List.forall_mem_cons.mpr ⟨gm_cp140, List.forall_mem_cons.mpr ⟨gm_cp141, List.forall_mem_cons.mpr ⟨gm_cp142, List.forall_mem_cons.mpr ⟨gm_cp143, List.forall_mem_cons.mpr ⟨gm_cp144, List.forall_mem_cons.mpr ⟨gm_cp145, List.forall_mem_cons.mpr ⟨gm_cp146, List.forall_mem_cons.mpr ⟨gm_cp147, List.forall_mem_cons.mpr ⟨gm_cp148, List.forall_mem_cons.mpr ⟨gm_cp149, fun _ h => absurd h List.not_mem_nil⟩⟩⟩⟩⟩⟩⟩⟩⟩⟩⟩⟩⟩⟩⟩⟩⟩⟩⟩⟩⟩⟩⟩⟩⟩⟩⟩⟩⟩⟩
set_option maxRecDepth 100000 in
theorem gm_cpr150 : ∀ w ∈ (List.range' 150 30).map gm_cwd, w ∈ gm_T := List.forall_mem_cons.mpr ⟨gm_cp150, List.forall_mem_cons.mpr ⟨gm_cp151, List.forall_mem_cons.mpr ⟨gm_cp152, List.forall_mem_cons.mpr ⟨gm_cp153, List.forall_mem_cons.mpr ⟨gm_cp154, List.forall_mem_cons.mpr ⟨gm_cp155, List.forall_mem_cons.mpr ⟨gm_cp156, List.forall_mem_cons.mpr ⟨gm_cp157, List.forall_mem_cons.mpr ⟨gm_cp158, List.forall_mem_cons.mpr ⟨gm_cp159, List.forall_mem_cons.mpr ⟨gm_cp160, List.forall_mem_cons.mpr ⟨gm_cp161, List.forall_mem_cons.mpr ⟨gm_cp162, List.forall_mem_cons.mpr ⟨gm_cp163, List.forall_mem_cons.mpr ⟨gm_cp164, List.forall_mem_cons.mpr ⟨gm_cp165, List.forall_mem_cons.mpr ⟨gm_cp166, List.forall_mem_cons.mpr ⟨gm_cp167, List.forall_mem_cons.mpr ⟨gm_cp168, List.forall_mem_cons.mpr ⟨gm_cp169, List.forall_mem_cons.mpr ⟨gm_cp170, List.forall_mem_cons.mpr ⟨gm_cp171, List.forall_mem_cons.mpr ⟨gm_cp172, List.forall_mem_cons.mpr ⟨gm_cp173, List.forall_mem_cons.mpr ⟨gm_cp174, List.forall_mem_cons.mpr ⟨gm_cp175, List.forall_mem_cons.mpr ⟨gm_cp176, List.forall_mem_cons.mpr ⟨gm_cp177, List.forall_mem_cons.mpr ⟨gm_cp178, List.forall_mem_cons.mpr ⟨gm_cp179, fun _ h => absurd h List.not_mem_nil⟩⟩⟩⟩⟩⟩⟩⟩⟩⟩⟩⟩⟩⟩⟩⟩⟩⟩⟩⟩⟩⟩⟩⟩⟩⟩⟩⟩⟩⟩
set_option maxRecDepth 100000 in
theorem gm_cpr180 : ∀ w ∈ (List.range' 180 30).map gm_cwd, w ∈ gm_T := List.forall_mem_cons.mpr ⟨gm_cp180, List.forall_mem_cons.mpr ⟨gm_cp181, List.forall_mem_cons.mpr ⟨gm_cp182, List.forall_mem_cons.mpr ⟨gm_cp183, List.forall_mem_cons.mpr ⟨gm_cp184, List.forall_mem_cons.mpr ⟨gm_cp185, List.forall_mem_cons.mpr ⟨gm_cp186, List.forall_mem_cons.mpr ⟨gm_cp187, List.forall_mem_cons.mpr ⟨gm_cp188, List.forall_mem_cons.mpr ⟨gm_cp189, List.forall_mem_cons.mpr ⟨gm_cp190, List.forall_mem_cons.mpr ⟨gm_cp191, List.forall_mem_cons.mpr ⟨gm_cp192, List.forall_mem_cons.mpr ⟨gm_cp193, List.forall_mem_cons.mpr ⟨gm_cp194, List.forall_mem_cons.mpr ⟨gm_cp195, List.forall_mem_cons.mpr ⟨gm_cp196, List.forall_mem_cons.mpr ⟨gm_cp197, List.forall_mem_cons.mpr ⟨gm_cp198, List.forall_mem_cons.mpr ⟨gm_cp199, List.forall_mem_cons.mpr ⟨gm_cp200, List.forall_mem_cons.mpr ⟨gm_cp201, List.forall_mem_cons.mpr ⟨gm_cp202, List.forall_mem_cons.mpr ⟨gm_cp203, List.forall_mem_cons.mpr ⟨gm_cp204, List.forall_mem_cons.mpr ⟨gm_cp205, List.forall_mem_cons.mpr ⟨gm_cp206, List.forall_mem_cons.mpr ⟨gm_cp207, List.forall_mem_cons.mpr ⟨gm_cp208, List.forall_mem_cons.mpr ⟨gm_cp209, fun _ h => absurd h List.not_mem_nil⟩⟩⟩⟩⟩⟩⟩⟩⟩⟩⟩⟩⟩⟩⟩⟩⟩⟩⟩⟩⟩⟩⟩⟩⟩⟩⟩⟩⟩⟩
set_option maxRecDepth 100000 in
theorem gm_cpr210 : ∀ w ∈ (List.range' 210 30).map gm_cwd, w ∈ gm_T := List.forall_mem_cons.mpr ⟨gm_cp210, List.forall_mem_cons.mpr ⟨gm_cp211, List.forall_mem_cons.mpr ⟨gm_cp212, List.forall_mem_cons.mpr ⟨gm_cp213, List.forall_mem_cons.mpr ⟨gm_cp214, List.forall_mem_cons.mpr ⟨gm_cp215, List.forall_mem_cons.mpr ⟨gm_cp216, List.forall_mem_cons.mpr ⟨gm_cp217, List.forall_mem_cons.mpr ⟨gm_cp218, List.forall_mem_cons.mpr ⟨gm_cp219, List.forall_mem_cons.mpr ⟨gm_cp220, List.forall_mem_cons.mpr ⟨gm_cp221, List.forall_mem_cons.mpr ⟨gm_cp222, List.forall_mem_cons.mpr ⟨gm_cp223, List.forall_mem_cons.mpr ⟨gm_cp224, List.forall_mem_cons.mpr ⟨gm_cp225, List.forall_mem_cons.mpr ⟨gm_cp226, List.forall_mem_cons.mpr ⟨gm_cp227, List.forall_mem_cons.mpr ⟨gm_cp228, List.forall_mem_cons.mpr ⟨gm_cp229, List.forall_mem_cons.mpr ⟨gm_cp230, List.forall_mem_cons.mpr ⟨gm_cp231, List.forall_mem_cons.mpr ⟨gm_cp232, List.forall_mem_cons.mpr ⟨gm_cp233, List.forall_mem_cons.mpr ⟨gm_cp234, List.forall_mem_cons.mpr ⟨gm_cp235, List.forall_mem_cons.mpr ⟨gm_cp236, List.forall_mem_cons.mpr ⟨gm_cp237, List.forall_mem_cons.mpr ⟨gm_cp238, List.forall_mem_cons.mpr ⟨gm_cp239, fun _ h => absurd h List.not_mem_nil⟩⟩⟩⟩⟩⟩⟩⟩⟩⟩⟩⟩⟩⟩⟩⟩⟩⟩⟩⟩⟩⟩⟩⟩⟩⟩⟩⟩⟩⟩
set_option maxRecDepth 100000 in
theorem gm_cpr240 : ∀ w ∈ (List.range' 240 30).map gm_cwd, w ∈ gm_T := List.forall_mem_cons.mpr ⟨gm_cp240, List.forall_mem_cons.mpr ⟨gm_cp241, List.forall_mem_cons.mpr ⟨gm_cp242, List.forall_mem_cons.mpr ⟨gm_cp243, List.forall_mem_cons.mpr ⟨gm_cp244, List.forall_mem_cons.mpr ⟨gm_cp245, List.forall_mem_cons.mpr ⟨gm_cp246, List.forall_mem_cons.mpr ⟨gm_cp247, List.forall_mem_cons.mpr ⟨gm_cp248, List.forall_mem_cons.mpr ⟨gm_cp249, List.forall_mem_cons.mpr ⟨gm_cp250, List.forall_mem_cons.mpr ⟨gm_cp251, List.forall_mem_cons.mpr ⟨gm_cp252, List.forall_mem_cons.mpr ⟨gm_cp253, List.forall_mem_cons.mpr ⟨gm_cp254, List.forall_mem_cons.mpr ⟨gm_cp255, List.forall_mem_cons.mpr ⟨gm_cp256, List.forall_mem_cons.mpr ⟨gm_cp257, List.forall_mem_cons.mpr ⟨gm_cp258, List.forall_mem_cons.mpr ⟨gm_cp259, List.forall_mem_cons.mpr ⟨gm_cp260, List.forall_mem_cons.mpr ⟨gm_cp261, List.forall_mem_cons.mpr ⟨gm_cp262, List.forall_mem_cons.mpr ⟨gm_cp263, List.forall_mem_cons.mpr ⟨gm_cp264, List.forall_mem_cons.mpr ⟨gm_cp265, List.forall_mem_cons.mpr ⟨gm_cp266, List.forall_mem_cons.mpr ⟨gm_cp267, List.forall_mem_cons.mpr ⟨gm_cp268, List.forall_mem_cons.mpr ⟨gm_cp269, fun _ h => absurd h List.not_mem_nil⟩⟩⟩⟩⟩⟩⟩⟩⟩⟩⟩⟩⟩⟩⟩⟩⟩⟩⟩⟩⟩⟩⟩⟩⟩⟩⟩⟩⟩⟩
set_option maxRecDepth 100000 in
theorem gm_cpr270 : ∀ w ∈ (List.range' 270 30).map gm_cwd, w ∈ gm_T := List.forall_mem_cons.mpr ⟨gm_cp270, List.forall_mem_cons.mpr ⟨gm_cp271, List.forall_mem_cons.mpr ⟨gm_cp272, List.forall_mem_cons.mpr ⟨gm_cp273, List.forall_mem_cons.mpr ⟨gm_cp274, List.forall_mem_cons.mpr ⟨gm_cp275, List.forall_mem_cons.mpr ⟨gm_cp276, List.forall_mem_cons.mpr ⟨gm_cp277, List.forall_mem_cons.mpr ⟨gm_cp278, List.forall_mem_cons.mpr ⟨gm_cp279, List.forall_mem_cons.mpr ⟨gm_cp280, List.forall_mem_cons.mpr ⟨gm_cp281, List.forall_mem_cons.mpr ⟨gm_cp282, List.forall_mem_cons.mpr ⟨gm_cp283, List.forall_mem_cons.mpr ⟨gm_cp284, List.forall_mem_cons.mpr ⟨gm_cp285, List.forall_mem_cons.mpr ⟨gm_cp286, List.forall_mem_cons.mpr ⟨gm_cp287, List.forall_mem_cons.mpr ⟨gm_cp288, List.forall_mem_cons.mpr ⟨gm_cp289, List.forall_mem_cons.mpr ⟨gm_cp290, List.forall_mem_cons.mpr ⟨gm_cp291, List.forall_mem_cons.mpr ⟨gm_cp292, List.forall_mem_cons.mpr ⟨gm_cp293, List.forall_mem_cons.mpr ⟨gm_cp294, List.forall_mem_cons.mpr ⟨gm_cp295, List.forall_mem_cons.mpr ⟨gm_cp296, List.forall_mem_cons.mpr ⟨gm_cp297, List.forall_mem_cons.mpr ⟨gm_cp298, List.forall_mem_cons.mpr ⟨gm_cp299, fun _ h => absurd h List.not_mem_nil⟩⟩⟩⟩⟩⟩⟩⟩⟩⟩⟩⟩⟩⟩⟩⟩⟩⟩⟩⟩⟩⟩⟩⟩⟩⟩⟩⟩⟩⟩
set_option maxRecDepth 100000 in
theorem gm_cpr300 : ∀ w ∈ (List.range' 300 30).map gm_cwd, w ∈ gm_T := List.forall_mem_cons.mpr ⟨gm_cp300, List.forall_mem_cons.mpr ⟨gm_cp301, List.forall_mem_cons.mpr ⟨gm_cp302, List.forall_mem_cons.mpr ⟨gm_cp303, List.forall_mem_cons.mpr ⟨gm_cp304, List.forall_mem_cons.mpr ⟨gm_cp305, List.forall_mem_cons.mpr ⟨gm_cp306, List.forall_mem_cons.mpr ⟨gm_cp307, List.forall_mem_cons.mpr ⟨gm_cp308, List.forall_mem_cons.mpr ⟨gm_cp309, List.forall_mem_cons.mpr ⟨gm_cp310, List.forall_mem_cons.mpr ⟨gm_cp311, List.forall_mem_cons.mpr ⟨gm_cp312, List.forall_mem_cons.mpr ⟨gm_cp313, List.forall_mem_cons.mpr ⟨gm_cp314, List.forall_mem_cons.mpr ⟨gm_cp315, List.forall_mem_cons.mpr ⟨gm_cp316, List.forall_mem_cons.mpr ⟨gm_cp317, List.forall_mem_cons.mpr ⟨gm_cp318, List.forall_mem_cons.mpr ⟨gm_cp319, List.forall_mem_cons.mpr ⟨gm_cp320, List.forall_mem_cons.mpr ⟨gm_cp321, List.forall_mem_cons.mpr ⟨gm_cp322, List.forall_mem_cons.mpr ⟨gm_cp323, List.forall_mem_cons.mpr ⟨gm_cp324, List.forall_mem_cons.mpr ⟨gm_cp325, List.forall_mem_cons.mpr ⟨gm_cp326, List.forall_mem_cons.mpr ⟨gm_cp327, List.forall_mem_cons.mpr ⟨gm_cp328, List.forall_mem_cons.mpr ⟨gm_cp329, fun _ h => absurd h List.not_mem_nil⟩⟩⟩⟩⟩⟩⟩⟩⟩⟩⟩⟩⟩⟩⟩⟩⟩⟩⟩⟩⟩⟩⟩⟩⟩⟩⟩⟩⟩⟩
set_option maxRecDepth 100000 in
theorem gm_cpr330 : ∀ w ∈ (List.range' 330 30).map gm_cwd, w ∈ gm_T := List.forall_mem_cons.mpr ⟨gm_cp330, List.forall_mem_cons.mpr ⟨gm_cp331, List.forall_mem_cons.mpr ⟨gm_cp332, List.forall_mem_cons.mpr ⟨gm_cp333, List.forall_mem_cons.mpr ⟨gm_cp334, List.forall_mem_cons.mpr ⟨gm_cp335, List.forall_mem_cons.mpr ⟨gm_cp336, List.forall_mem_cons.mpr ⟨gm_cp337, List.forall_mem_cons.mpr ⟨gm_cp338, List.forall_mem_cons.mpr ⟨gm_cp339, List.forall_mem_cons.mpr ⟨gm_cp340, List.forall_mem_cons.mpr ⟨gm_cp341, List.forall_mem_cons.mpr ⟨gm_cp342, List.forall_mem_cons.mpr ⟨gm_cp343, List.forall_mem_cons.mpr ⟨gm_cp344, List.forall_mem_cons.mpr ⟨gm_cp345, List.forall_mem_cons.mpr ⟨gm_cp346, List.forall_mem_cons.mpr ⟨gm_cp347, List.forall_mem_cons.mpr ⟨gm_cp348, List.forall_mem_cons.mpr ⟨gm_cp349, List.forall_mem_cons.mpr ⟨gm_cp350, List.forall_mem_cons.mpr ⟨gm_cp351, List.forall_mem_cons.mpr ⟨gm_cp352, List.forall_mem_cons.mpr ⟨gm_cp353, List.forall_mem_cons.mpr ⟨gm_cp354, List.forall_mem_cons.mpr ⟨gm_cp355, List.forall_mem_cons.mpr ⟨gm_cp356, List.forall_mem_cons.mpr ⟨gm_cp357, List.forall_mem_cons.mpr ⟨gm_cp358, List.forall_mem_cons.mpr ⟨gm_cp359, fun _ h => absurd h List.not_mem_nil⟩⟩⟩⟩⟩⟩⟩⟩⟩⟩⟩⟩⟩⟩⟩⟩⟩⟩⟩⟩⟩⟩⟩⟩⟩⟩⟩⟩⟩⟩
set_option maxRecDepth 100000 in
theorem gm_cpr360 : ∀ w ∈ (List.range' 360 9).map gm_cwd, w ∈ gm_T := List.forall_mem_cons.mpr ⟨gm_cp360, List.forall_mem_cons.mpr ⟨gm_cp361, List.forall_mem_cons.mpr ⟨gm_cp362, List.forall_mem_cons.mpr ⟨gm_cp363, List.forall_mem_cons.mpr ⟨gm_cp364, List.forall_mem_cons.mpr ⟨gm_cp365, List.forall_mem_cons.mpr ⟨gm_cp366, List.forall_mem_cons.mpr ⟨gm_cp367, List.forall_mem_cons.mpr ⟨gm_cp368, fun _ h => absurd h List.not_mem_nil⟩⟩⟩⟩⟩⟩⟩⟩⟩
theorem gm_cp_ok {mi : Nat} (h : mi < 369) : gm_cwd mi ∈ gm_T := by
  have key : ∀ a k : Nat, (∀ w ∈ (List.range' a k).map gm_cwd, w ∈ gm_T) → a ≤ mi → mi < a + k → gm_cwd mi ∈ gm_T := fun a k h1 h2 h3 => h1 _ (List.mem_map.mpr ⟨mi, List.mem_range'_1.mpr ⟨h2, h3⟩, rfl⟩)
  rcases Nat.lt_or_ge mi 30 with h0 | h0
  · exact key 0 30 gm_cpr0 (by omega) (by omega)
  rcases Nat.lt_or_ge mi 60 with h30 | h30
  · exact key 30 30 gm_cpr30 (by omega) (by omega)
  rcases Nat.lt_or_ge mi 90 with h60 | h60
  · exact key 60 30 gm_cpr60 (by omega) (by omega)
  rcases Nat.lt_or_ge mi 120 with h90 | h90
  · exact key 90 30 gm_cpr90 (by omega) (by omega)
  rcases Nat.lt_or_ge mi 150 with h120 | h120
  · exact key 120 30 gm_cpr120 (by omega) (by omega)
  rcases Nat.lt_or_ge mi 180 with h150 | h150
  · exact key 150 30 gm_cpr150 (by omega) (by omega)
  rcases Nat.lt_or_ge mi 210 with h180 | h180
  · exact key 180 30 gm_cpr180 (by omega) (by omega)
  rcases Nat.lt_or_ge mi 240 with h210 | h210
  · exact key 210 30 gm_cpr210 (by omega) (by omega)
  rcases Nat.lt_or_ge mi 270 with h240 | h240
  · exact key 240 30 gm_cpr240 (by omega) (by omega)
  rcases Nat.lt_or_ge mi 300 with h270 | h270
  · exact key 270 30 gm_cpr270 (by omega) (by omega)
  rcases Nat.lt_or_ge mi 330 with h300 | h300
  · exact key 300 30 gm_cpr300 (by omega) (by omega)
  rcases Nat.lt_or_ge mi 360 with h330 | h330
  · exact key 330 30 gm_cpr330 (by omega) (by omega)
  exact key 360 9 gm_cpr360 (by omega) (by omega)
theorem gm_mck0 : ((List.range 30).drop 0).all gm_mck = true := by decide +kernel
theorem gm_mck30 : ((List.range 60).drop 30).all gm_mck = true := by decide +kernel
theorem gm_mck60 : ((List.range 90).drop 60).all gm_mck = true := by decide +kernel
theorem gm_mck90 : ((List.range 120).drop 90).all gm_mck = true := by decide +kernel
theorem gm_mck120 : ((List.range 150).drop 120).all gm_mck = true := by decide +kernel
theorem gm_mck150 : ((List.range 180).drop 150).all gm_mck = true := by decide +kernel
theorem gm_mck180 : ((List.range 210).drop 180).all gm_mck = true := by decide +kernel
theorem gm_mck210 : ((List.range 240).drop 210).all gm_mck = true := by decide +kernel
theorem gm_mck240 : ((List.range 270).drop 240).all gm_mck = true := by decide +kernel
theorem gm_mck270 : ((List.range 300).drop 270).all gm_mck = true := by decide +kernel
theorem gm_mck300 : ((List.range 330).drop 300).all gm_mck = true := by decide +kernel
theorem gm_mck330 : ((List.range 360).drop 330).all gm_mck = true := by decide +kernel
theorem gm_mck360 : ((List.range 369).drop 360).all gm_mck = true := by decide +kernel
theorem gm_mck_ok {mi : Nat} (h : mi < 369) : gm_mck mi = true := by
  have key : ∀ a z : Nat, ((List.range z).drop a).all gm_mck = true → a ≤ mi → mi < z → gm_mck mi = true := by
    intro a z h1 h2 h3
    refine List.all_eq_true.mp h1 mi (List.mem_iff_getElem?.mpr ⟨mi - a, ?_⟩)
    rw [List.getElem?_drop, List.getElem?_range (by omega)]
    congr 1; omega
  rcases Nat.lt_or_ge mi 30 with h0 | h0
  · exact key 0 30 gm_mck0 (by omega) (by omega)
  rcases Nat.lt_or_ge mi 60 with h30 | h30
  · exact key 30 60 gm_mck30 (by omega) (by omega)
  rcases Nat.lt_or_ge mi 90 with h60 | h60
  · exact key 60 90 gm_mck60 (by omega) (by omega)
  rcases Nat.lt_or_ge mi 120 with h90 | h90
  · exact key 90 120 gm_mck90 (by omega) (by omega)
  rcases Nat.lt_or_ge mi 150 with h120 | h120
  · exact key 120 150 gm_mck120 (by omega) (by omega)
  rcases Nat.lt_or_ge mi 180 with h150 | h150
  · exact key 150 180 gm_mck150 (by omega) (by omega)
  rcases Nat.lt_or_ge mi 210 with h180 | h180
  · exact key 180 210 gm_mck180 (by omega) (by omega)
  rcases Nat.lt_or_ge mi 240 with h210 | h210
  · exact key 210 240 gm_mck210 (by omega) (by omega)
  rcases Nat.lt_or_ge mi 270 with h240 | h240
  · exact key 240 270 gm_mck240 (by omega) (by omega)
  rcases Nat.lt_or_ge mi 300 with h270 | h270
  · exact key 270 300 gm_mck270 (by omega) (by omega)
  rcases Nat.lt_or_ge mi 330 with h300 | h300
  · exact key 300 330 gm_mck300 (by omega) (by omega)
  rcases Nat.lt_or_ge mi 360 with h330 | h330
  · exact key 330 360 gm_mck330 (by omega) (by omega)
  exact key 360 369 gm_mck360 (by omega) (by omega)
/-- class of the code, place in the pool, kind (0 virtual, 1 constructor, 2 static, 3 a nest mate's constructor, 5 static with a table), the method; words -/
def gm_cl_ : List (Nat × Nat × Nat × Nat × Nat × Nat × Nat × Nat) := [(15, 135, 1, 0, 184, 185, 0, 153), (0, 22, 3, 1, 192, 193, 0, 154), (1, 42, 1, 2, 198, 199, 0, 155), (0, 39, 1, 3, 308, 309, 0, 156), (3, 24, 3, 1, 314, 193, 0, 154), (0, 46, 1, 4, 327, 328, 0, 157), (4, 38, 0, 5, 331, 332, 333, 157), (4, 41, 0, 6, 335, 337, 0, 157), (4, 44, 0, 7, 340, 342, 1, 157), (4, 57, 2, 8, 344, 345, 0, 158), (4, 67, 0, 9, 347, 348, 349, 155), (4, 73, 0, 10, 351, 352, 353, 155), (4, 77, 2, 11, 355, 356, 0, 159), (4, 47, 0, 12, 358, 360, 2, 157), (0, 55, 1, 13, 387, 388, 0, 160), (0, 67, 1, 14, 425, 426, 0, 161), (8, 11, 1, 2, 430, 199, 0, 155), (0, 76, 1, 15, 446, 447, 0, 163), (9, 3, 1, 16, 449, 450, 0, 162), (10, 11, 1, 17, 455, 456, 0, 164), (0, 85, 1, 18, 503, 504, 0, 165), (12, 3, 1, 16, 506, 450, 0, 162), (12, 11, 1, 2, 508, 199, 0, 155), (0, 94, 1, 2, 522, 199, 0, 155), (15, 139, 0, 19, 578, 579, 580, 153), (0, 110, 0, 20, 582, 584, 3, 153), (15, 144, 0, 21, 586, 587, 588, 153), (15, 161, 0, 22, 590, 591, 592, 153), (15, 217, 0, 23, 594, 595, 596, 153), (0, 254, 0, 24, 598, 600, 4, 153), (0, 277, 0, 9, 602, 348, 349, 155), (0, 390, 0, 25, 603, 604, 605, 155), (2, 25, 2, 26, 607, 608, 0, 159), (2, 31, 2, 11, 610, 356, 0, 159), (2, 34, 2, 8, 611, 345, 0, 158), (0, 217, 0, 27, 612, 613, 614, 160), (7, 48, 0, 10, 616, 352, 353, 155), (7, 54, 0, 28, 617, 618, 619, 154), (1, 72, 0, 10, 621, 352, 353, 155), (7, 58, 0, 29, 622, 623, 624, 160), (0, 295, 0, 30, 626, 627, 628, 160), (7, 68, 0, 31, 630, 631, 632, 160), (7, 112, 0, 32, 634, 635, 636, 160), (7, 72, 0, 33, 638, 640, 5, 160), (7, 91, 2, 26, 642, 608, 0, 159), (7, 96, 0, 34, 643, 644, 645, 157), (7, 100, 2, 11, 647, 356, 0, 159), (7, 76, 0, 35, 648, 649, 650, 157), (4, 90, 0, 36, 652, 653, 654, 157), (4, 97, 0, 37, 656, 658, 6, 157), (4, 118, 2, 38, 661, 662, 0, 158), (4, 101, 0, 39, 664, 666, 7, 157), (4, 123, 0, 34, 668, 644, 645, 157), (4, 105, 0, 40, 669, 670, 671, 177), (13, 26, 0, 9, 673, 348, 349, 155), (13, 30, 0, 10, 674, 352, 353, 155), (13, 34, 0, 41, 675, 677, 8, 177), (13, 38, 2, 11, 680, 356, 0, 159), (13, 43, 2, 26, 681, 608, 0, 159), (4, 109, 2, 26, 682, 608, 0, 159), (4, 112, 0, 42, 683, 685, 9, 157), (7, 82, 0, 43, 688, 690, 10, 160), (7, 106, 0, 44, 692, 693, 694, 157), (7, 109, 0, 9, 696, 348, 349, 155), (0, 250, 0, 45, 697, 698, 699, 155), (0, 186, 0, 10, 701, 352, 353, 155), (15, 221, 0, 46, 702, 703, 704, 153), (0, 315, 0, 47, 706, 708, 11, 153), (0, 450, 0, 28, 710, 618, 619, 154), (15, 241, 0, 48, 711, 712, 713, 153), (0, 354, 2, 49, 715, 716, 0, 181), (0, 359, 0, 50, 721, 723, 12, 153), (0, 347, 0, 51, 725, 727, 13, 153), (15, 271, 0, 52, 729, 730, 731, 153), (0, 402, 0, 53, 733, 735, 14, 153), (15, 290, 0, 54, 737, 738, 739, 153), (0, 419, 0, 55, 741, 742, 743, 156), (3, 25, 0, 56, 745, 746, 747, 154), (1, 64, 0, 57, 749, 750, 751, 155), (15, 295, 0, 58, 756, 757, 758, 153), (0, 114, 0, 56, 760, 746, 747, 154), (15, 299, 0, 59, 761, 762, 763, 153), (0, 136, 0, 60, 765, 767, 15, 153), (0, 154, 0, 5, 769, 332, 333, 157), (0, 157, 0, 61, 770, 771, 772, 156), (15, 303, 0, 62, 774, 775, 776, 153), (0, 150, 0, 63, 778, 780, 16, 153), (0, 192, 0, 64, 782, 784, 17, 153), (0, 257, 0, 65, 786, 788, 18, 153), (0, 408, 0, 66, 790, 792, 19, 153), (0, 435, 0, 67, 794, 796, 20, 153), (0, 438, 0, 68, 798, 799, 800, 156), (15, 149, 5, 69, 802, 803, 0, 152), (15, 7, 0, 70, 807, 808, 809, 153), (12, 28, 0, 25, 823, 604, 605, 155), (10, 27, 0, 74, 827, 828, 829, 164), (11, 37, 2, 26, 831, 608, 0, 159), (11, 43, 0, 75, 832, 833, 834, 164), (11, 46, 2, 76, 836, 837, 0, 164), (11, 50, 2, 77, 839, 840, 0, 164), (12, 43, 0, 79, 848, 850, 21, 165), (12, 84, 0, 80, 853, 854, 855, 164), (11, 53, 0, 81, 857, 858, 859, 168), (16, 335, 0, 82, 861, 862, 863, 168), (11, 58, 0, 83, 867, 868, 869, 168), (16, 492, 0, 84, 871, 872, 873, 168), (16, 495, 2, 85, 875, 876, 0, 169), (17, 9, 2, 86, 878, 879, 0, 168), (16, 1059, 2, 87, 883, 884, 0, 170), (16, 498, 2, 88, 886, 887, 0, 171), (19, 67, 2, 89, 889, 890, 0, 171), (19, 48, 2, 90, 892, 893, 0, 171), (19, 414, 2, 86, 895, 879, 0, 168), (19, 71, 2, 91, 896, 897, 0, 171), (12, 51, 0, 92, 907, 908, 909, 164), (12, 57, 0, 75, 911, 833, 834, 164), (12, 61, 0, 93, 912, 913, 914, 164), (11, 69, 0, 92, 916, 908, 909, 164), (12, 67, 0, 94, 918, 919, 920, 164), (11, 62, 0, 80, 922, 854, 855, 164), (12, 71, 0, 95, 923, 925, 22, 165), (12, 91, 0, 96, 927, 929, 23, 165), (12, 105, 0, 97, 932, 933, 934, 164), (12, 94, 0, 98, 936, 938, 24, 165), (12, 113, 0, 99, 942, 944, 25, 165), (12, 119, 0, 100, 946, 948, 26, 165), (12, 75, 0, 101, 960, 961, 962, 155), (12, 78, 0, 45, 964, 698, 699, 155), (9, 21, 0, 80, 969, 854, 855, 164), (9, 27, 0, 103, 970, 972, 27, 163), (9, 79, 0, 104, 974, 975, 976, 154), (1, 68, 0, 9, 978, 348, 349, 155), (9, 76, 0, 92, 979, 908, 909, 164), (9, 84, 0, 75, 980, 833, 834, 164), (9, 88, 0, 93, 981, 913, 914, 164), (9, 33, 0, 105, 983, 985, 28, 163), (9, 38, 0, 106, 988, 990, 29, 163), (9, 105, 0, 107, 992, 993, 994, 155), (9, 110, 0, 9, 996, 348, 349, 155), (9, 114, 0, 10, 997, 352, 353, 155), (9, 117, 0, 101, 998, 961, 962, 155), (9, 120, 0, 45, 999, 698, 699, 155), (9, 124, 0, 108, 1000, 1002, 30, 163), (9, 43, 0, 109, 1005, 1007, 31, 163), (9, 128, 0, 110, 1009, 1011, 32, 163), (9, 133, 0, 111, 1014, 1015, 1016, 164), (11, 66, 0, 94, 1018, 919, 920, 164), (9, 48, 0, 112, 1020, 1022, 33, 163), (9, 53, 0, 113, 1025, 1027, 34, 163), (9, 58, 0, 114, 1030, 1032, 35, 163), (9, 63, 0, 115, 1035, 1037, 36, 163), (9, 149, 0, 116, 1039, 1041, 37, 163), (9, 154, 0, 94, 1044, 919, 920, 164), (9, 68, 0, 117, 1046, 1048, 38, 163), (9, 160, 0, 118, 1050, 1051, 1052, 154), (1, 76, 0, 101, 1054, 961, 962, 155), (1, 79, 0, 45, 1055, 698, 699, 155), (9, 73, 0, 119, 1057, 1059, 39, 163), (10, 38, 0, 97, 1061, 933, 934, 164), (10, 42, 0, 120, 1062, 1063, 1064, 164), (10, 46, 0, 92, 1066, 908, 909, 164), (15, 158, 5, 121, 1152, 1153, 0, 152), (15, 17, 0, 122, 1155, 1156, 1157, 153), (0, 142, 0, 123, 1163, 1164, 1165, 165), (12, 34, 2, 124, 1168, 1169, 0, 158), (5, 304, 2, 26, 1178, 608, 0, 159), (12, 40, 1, 125, 1180, 1181, 0, 177), (13, 11, 1, 2, 1185, 199, 0, 155), (13, 18, 0, 57, 1186, 750, 751, 155), (15, 165, 5, 126, 1195, 1196, 0, 152), (15, 20, 0, 127, 1198, 1199, 1200, 153), (0, 160, 0, 128, 1202, 1204, 41, 153), (0, 163, 0, 34, 1207, 644, 645, 157), (15, 169, 5, 129, 1208, 1209, 0, 152), (15, 24, 0, 130, 1212, 1213, 1214, 153), (0, 166, 0, 131, 1216, 1218, 42, 153), (0, 306, 0, 132, 1220, 1222, 43, 153), (0, 169, 0, 133, 1240, 1242, 44, 153), (0, 172, 0, 36, 1244, 653, 654, 157), (15, 173, 5, 134, 1245, 1246, 0, 152), (15, 30, 0, 135, 1248, 1249, 1250, 153), (0, 176, 0, 35, 1252, 649, 650, 157), (15, 177, 5, 136, 1253, 1254, 0, 152), (15, 34, 0, 137, 1257, 1258, 1259, 153), (0, 180, 0, 138, 1261, 1263, 45, 153), (0, 189, 0, 139, 1265, 1267, 46, 153), (15, 180, 5, 140, 1285, 1286, 0, 152), (15, 39, 0, 141, 1288, 1289, 1290, 153), (0, 200, 0, 142, 1292, 1294, 47, 153), (0, 206, 0, 143, 1296, 1298, 48, 153), (0, 212, 0, 144, 1300, 1302, 49, 153), (0, 447, 0, 32, 1304, 635, 636, 160), (0, 411, 0, 31, 1305, 631, 632, 160), (15, 183, 5, 145, 1307, 1308, 0, 152), (15, 42, 0, 146, 1310, 1311, 1312, 153), (0, 220, 0, 147, 1314, 1315, 1316, 160), (0, 229, 2, 26, 1318, 608, 0, 159), (15, 186, 5, 148, 1319, 1320, 0, 152), (15, 45, 0, 149, 1322, 1323, 1324, 153), (15, 189, 5, 150, 1326, 1327, 0, 152), (15, 48, 0, 151, 1329, 1330, 1331, 153), (0, 234, 0, 152, 1333, 1335, 50, 153), (0, 237, 0, 107, 1338, 993, 994, 155), (0, 243, 0, 153, 1340, 1341, 1342, 156), (3, 29, 2, 26, 1344, 608, 0, 159), (0, 246, 0, 118, 1345, 1051, 1052, 154), (15, 192, 5, 154, 1346, 1347, 0, 152), (15, 51, 0, 155, 1349, 1350, 1351, 153), (15, 195, 5, 156, 1353, 1354, 0, 152), (15, 54, 0, 157, 1357, 1358, 1359, 153), (0, 266, 0, 158, 1377, 1378, 1379, 154), (15, 198, 5, 159, 1381, 1382, 0, 152), (15, 59, 0, 160, 1384, 1385, 1386, 153), (0, 274, 0, 161, 1389, 1391, 51, 153), (0, 280, 0, 162, 1393, 1395, 52, 153), (0, 283, 0, 163, 1397, 1398, 1399, 157), (4, 132, 0, 164, 1401, 1402, 1403, 177), (15, 201, 5, 165, 1405, 1406, 0, 152), (15, 62, 0, 166, 1408, 1409, 1410, 153), (0, 291, 0, 29, 1414, 623, 624, 160), (15, 205, 5, 167, 1415, 1416, 0, 152), (15, 66, 0, 168, 1418, 1419, 1420, 153), (0, 298, 0, 169, 1422, 1423, 1424, 160), (15, 208, 5, 170, 1426, 1427, 0, 152), (15, 69, 0, 171, 1429, 1430, 1431, 153), (15, 211, 5, 172, 1434, 1435, 0, 152), (15, 72, 0, 173, 1437, 1438, 1439, 153), (0, 309, 0, 174, 1441, 1442, 1443, 160), (15, 214, 5, 175, 1445, 1446, 0, 152), (15, 75, 0, 176, 1448, 1449, 1450, 153), (15, 226, 5, 177, 1452, 1453, 0, 152), (15, 78, 0, 178, 1455, 1456, 1457, 153), (0, 319, 0, 179, 1459, 1461, 53, 153), (0, 323, 0, 180, 1463, 1465, 54, 153), (0, 326, 0, 181, 1467, 1469, 55, 153), (0, 396, 2, 11, 1471, 356, 0, 159), (0, 329, 0, 182, 1472, 1474, 56, 153), (0, 332, 0, 183, 1476, 1478, 57, 153), (15, 229, 5, 184, 1480, 1481, 0, 152), (15, 81, 0, 185, 1483, 1484, 1485, 153), (0, 335, 0, 186, 1487, 1489, 58, 153), (0, 338, 0, 187, 1492, 1494, 59, 153), (15, 232, 5, 188, 1496, 1497, 0, 152), (15, 84, 0, 189, 1499, 1500, 1501, 153), (15, 235, 5, 190, 1503, 1504, 0, 152), (15, 87, 0, 191, 1506, 1507, 1508, 153), (0, 341, 0, 192, 1510, 1512, 60, 153), (15, 238, 5, 193, 1514, 1515, 0, 152), (15, 90, 0, 194, 1517, 1518, 1519, 153), (15, 245, 5, 195, 1521, 1522, 0, 152), (15, 94, 0, 196, 1524, 1525, 1526, 153), (0, 362, 0, 197, 1528, 1530, 61, 153), (0, 367, 0, 198, 1533, 1535, 62, 153), (15, 248, 5, 199, 1537, 1538, 0, 152), (15, 97, 0, 200, 1540, 1541, 1542, 153), (0, 370, 0, 201, 1544, 1545, 1546, 161), (8, 36, 0, 9, 1548, 348, 349, 155), (8, 40, 0, 25, 1549, 604, 605, 155), (8, 48, 0, 202, 1550, 1552, 63, 161), (8, 52, 0, 10, 1554, 352, 353, 155), (8, 56, 0, 169, 1555, 1423, 1424, 160), (8, 61, 0, 30, 1556, 627, 628, 160), (8, 65, 0, 45, 1557, 698, 699, 155), (8, 69, 2, 26, 1558, 608, 0, 159), (0, 373, 0, 203, 1559, 1560, 1561, 161), (0, 376, 0, 204, 1563, 1564, 1565, 161), (15, 252, 5, 205, 1567, 1568, 0, 152), (15, 101, 0, 206, 1570, 1571, 1572, 153), (0, 381, 0, 207, 1575, 1576, 1577, 161), (8, 74, 0, 203, 1579, 1560, 1561, 161), (8, 77, 0, 208, 1580, 1582, 64, 161), (15, 255, 5, 209, 1584, 1585, 0, 152), (15, 104, 0, 210, 1587, 1588, 1589, 153), (15, 258, 5, 211, 1591, 1592, 0, 152), (15, 107, 0, 212, 1594, 1595, 1596, 153), (0, 384, 0, 213, 1598, 1600, 65, 153), (0, 387, 0, 214, 1602, 1604, 66, 153), (0, 393, 0, 215, 1606, 1608, 67, 153), (15, 262, 5, 216, 1610, 1611, 0, 152), (15, 111, 0, 217, 1613, 1614, 1615, 153), (0, 399, 0, 218, 1617, 1619, 68, 153), (15, 265, 5, 219, 1621, 1622, 0, 152), (15, 114, 0, 220, 1624, 1625, 1626, 153), (15, 268, 5, 221, 1628, 1629, 0, 152), (15, 117, 0, 222, 1631, 1632, 1633, 153), (15, 275, 5, 223, 1635, 1636, 0, 152), (15, 120, 0, 224, 1638, 1639, 1640, 153), (15, 278, 5, 225, 1642, 1643, 0, 152), (15, 123, 0, 226, 1645, 1646, 1647, 153), (15, 281, 5, 227, 1649, 1650, 0, 152), (15, 126, 0, 228, 1652, 1653, 1654, 153), (15, 284, 5, 229, 1656, 1657, 0, 152), (15, 129, 0, 230, 1659, 1660, 1661, 153), (15, 287, 5, 231, 1663, 1664, 0, 152), (15, 132, 0, 232, 1666, 1667, 1668, 153), (15, 155, 0, 233, 1671, 1672, 1673, 166), (15, 138, 1, 234, 1677, 1678, 0, 166), (20, 72, 0, 235, 1681, 1683, 69, 166), (15, 298, 0, 236, 1804, 1805, 1806, 166), (15, 302, 0, 237, 1808, 1809, 1810, 166), (15, 294, 0, 238, 1812, 1813, 1814, 166), (15, 143, 0, 239, 1816, 1817, 1818, 166), (15, 148, 0, 240, 1820, 1821, 1822, 166), (15, 164, 0, 241, 1824, 1825, 1826, 166), (15, 154, 0, 242, 1828, 1829, 1830, 166), (20, 296, 0, 243, 1832, 1834, 70, 166), (20, 289, 0, 244, 1836, 1838, 71, 166), (20, 119, 0, 245, 1840, 1842, 72, 166), (20, 112, 0, 246, 1844, 1846, 73, 166), (20, 292, 0, 247, 1848, 1850, 74, 166), (20, 131, 0, 248, 1852, 1854, 75, 166), (20, 283, 0, 249, 1856, 1858, 76, 166), (20, 134, 0, 250, 1861, 1863, 77, 166), (20, 122, 0, 81, 1865, 858, 859, 168), (20, 127, 0, 83, 1866, 868, 869, 168), (20, 182, 0, 251, 1867, 1869, 78, 166), (20, 145, 0, 252, 1871, 1873, 79, 166), (20, 97, 0, 253, 1875, 1877, 80, 166), (20, 100, 0, 254, 1879, 1881, 81, 166), (20, 142, 0, 255, 1883, 1885, 82, 166), (20, 138, 0, 256, 1887, 1889, 83, 166), (20, 187, 0, 257, 1892, 1894, 84, 166), (20, 192, 0, 258, 1897, 1899, 85, 166), (20, 94, 0, 259, 1901, 1903, 86, 166), (20, 149, 0, 260, 1905, 1907, 87, 166), (20, 86, 0, 261, 1909, 1911, 88, 166), (20, 197, 0, 262, 1914, 1916, 89, 166), (20, 153, 0, 263, 1918, 1920, 90, 166), (20, 158, 0, 264, 1923, 1925, 91, 166), (20, 202, 0, 265, 1928, 1930, 92, 166), (20, 162, 0, 266, 1932, 1934, 93, 166), (20, 207, 0, 267, 1937, 1939, 94, 166), (20, 165, 0, 268, 1941, 1943, 95, 166), (20, 170, 0, 269, 1946, 1948, 96, 166), (20, 212, 0, 270, 1951, 1953, 97, 166), (20, 177, 0, 271, 1955, 1957, 98, 166), (20, 173, 0, 272, 1959, 1961, 99, 166), (20, 217, 0, 273, 1964, 1966, 100, 166), (20, 286, 0, 274, 1970, 1972, 101, 166), (20, 253, 0, 275, 1978, 1980, 102, 166), (20, 270, 0, 276, 1982, 1984, 103, 166), (20, 258, 0, 277, 1986, 1988, 104, 166), (20, 248, 0, 278, 1990, 1992, 105, 166), (20, 227, 0, 279, 1995, 1997, 106, 166), (20, 265, 0, 280, 2001, 2003, 107, 166), (20, 245, 0, 281, 2005, 2007, 108, 166), (20, 300, 0, 282, 2018, 2020, 109, 166), (15, 160, 0, 283, 2022, 2023, 2024, 166), (15, 168, 0, 284, 2026, 2027, 2028, 166), (20, 353, 2, 285, 2030, 2031, 0, 166), (20, 90, 2, 286, 2033, 2034, 0, 166), (15, 172, 0, 287, 2036, 2037, 2038, 166), (20, 356, 0, 288, 2040, 2042, 110, 166), (20, 359, 0, 289, 2044, 2046, 111, 166), (20, 338, 0, 290, 2048, 2050, 112, 166), (15, 176, 0, 291, 2052, 2053, 2054, 166), (20, 362, 0, 292, 2056, 2058, 113, 166), (20, 334, 0, 293, 2060, 2062, 114, 166), (20, 341, 0, 294, 2064, 2066, 115, 166), (20, 327, 0, 295, 2068, 2070, 116, 166), (20, 324, 0, 296, 2072, 2074, 117, 166), (20, 345, 2, 26, 2076, 608, 0, 159), (20, 350, 2, 11, 2077, 356, 0, 159), (15, 179, 0, 297, 2078, 2079, 2080, 166), (20, 393, 0, 298, 2082, 2084, 118, 166), (20, 396, 0, 299, 2086, 2088, 119, 166), (20, 399, 0, 300, 2090, 2092, 120, 166), (20, 82, 0, 301, 2094, 2096, 121, 166), (20, 390, 0, 302, 2098, 2100, 122, 166), (20, 374, 0, 303, 2102, 2104, 123, 166), (20, 387, 0, 304, 2106, 2108, 124, 166), (20, 381, 0, 305, 2110, 2112, 125, 166), (20, 377, 0, 306, 2114, 2116, 126, 166), (20, 371, 0, 307, 2118, 2120, 127, 166), (15, 182, 0, 308, 2122, 2123, 2124, 166), (20, 405, 0, 309, 2126, 2128, 128, 166), (20, 408, 0, 310, 2130, 2132, 129, 166), (20, 402, 0, 311, 2134, 2136, 130, 166), (20, 384, 0, 312, 2138, 2140, 131, 166), (15, 185, 0, 313, 2142, 2143, 2144, 166), (15, 188, 0, 314, 2146, 2147, 2148, 166), (15, 191, 0, 315, 2150, 2151, 2152, 166), (20, 411, 0, 316, 2154, 2156, 132, 166), (15, 194, 0, 317, 2158, 2159, 2160, 166), (15, 197, 0, 318, 2162, 2163, 2164, 166), (20, 414, 0, 319, 2166, 2168, 133, 166), (15, 200, 0, 320, 2170, 2171, 2172, 166), (20, 423, 0, 321, 2174, 2176, 134, 166), (20, 420, 0, 322, 2178, 2180, 135, 166), (20, 417, 0, 323, 2182, 2184, 136, 166), (15, 204, 0, 324, 2186, 2187, 2188, 166), (20, 425, 0, 325, 2190, 2192, 137, 166), (15, 207, 0, 326, 2194, 2195, 2196, 166), (15, 210, 0, 327, 2198, 2199, 2200, 166), (15, 213, 0, 328, 2202, 2203, 2204, 166), (15, 216, 0, 329, 2206, 2207, 2208, 166), (15, 220, 0, 330, 2210, 2211, 2212, 166), (15, 225, 0, 331, 2214, 2215, 2216, 166), (20, 428, 0, 332, 2218, 2220, 138, 166), (20, 431, 0, 333, 2222, 2224, 139, 166), (15, 228, 0, 334, 2226, 2227, 2228, 166), (20, 438, 0, 335, 2230, 2232, 140, 166), (20, 441, 0, 336, 2234, 2236, 141, 166), (20, 435, 0, 337, 2238, 2240, 142, 166), (15, 231, 0, 338, 2242, 2243, 2244, 166), (20, 444, 0, 339, 2246, 2248, 143, 166), (15, 234, 0, 340, 2250, 2251, 2252, 166), (15, 237, 0, 341, 2254, 2255, 2256, 166), (20, 448, 0, 342, 2258, 2260, 144, 166), (20, 451, 0, 343, 2262, 2264, 145, 166), (15, 240, 0, 344, 2266, 2267, 2268, 166), (20, 457, 0, 345, 2270, 2272, 146, 166), (20, 454, 2, 346, 2274, 2275, 0, 166), (15, 244, 0, 347, 2277, 2278, 2279, 166), (20, 460, 2, 49, 2281, 716, 0, 181), (15, 247, 0, 348, 2282, 2283, 2284, 166), (15, 251, 0, 349, 2286, 2287, 2288, 166), (20, 471, 0, 350, 2290, 2292, 147, 166), (20, 465, 2, 351, 2294, 2295, 0, 166), (20, 468, 0, 352, 2297, 2299, 148, 166), (20, 474, 0, 353, 2301, 2303, 149, 166), (15, 254, 0, 354, 2305, 2306, 2307, 166), (20, 480, 0, 355, 2309, 2311, 150, 166), (15, 257, 0, 356, 2313, 2314, 2315, 166), (15, 261, 0, 357, 2317, 2318, 2319, 166), (20, 483, 0, 358, 2321, 2323, 151, 166), (15, 264, 0, 359, 2325, 2326, 2327, 166), (15, 267, 0, 360, 2329, 2330, 2331, 166), (15, 270, 0, 361, 2333, 2334, 2335, 166), (15, 274, 0, 362, 2337, 2338, 2339, 166), (15, 277, 0, 363, 2341, 2342, 2343, 166), (15, 280, 0, 364, 2345, 2346, 2347, 166), (15, 283, 0, 365, 2349, 2350, 2351, 166), (15, 286, 0, 366, 2353, 2354, 2355, 166), (15, 289, 0, 367, 2357, 2358, 2359, 166), (15, 306, 0, 368, 2361, 2362, 2363, 166)]
def gm_cck (q : Nat × Nat × Nat × Nat × Nat × Nat × Nat × Nat) : Bool := match q with
  | (o, ix, kd, mj, p1, p2, p3, p4) => decide (mj < 369) && (decide (lw_tbl[p4]? = some (.initialized (gm_mn mj).cls)) && (if kd = 3 then true else decide (lw_tbl[p1]? = some (.methodLink (gm_rn o) ix (gm_mn mj)))) && (if kd = 0 then decide (lw_tbl[p2]? = some (.instanceMethod (gm_mn mj))) && decide (lw_tbl[p3]? = some (.selects (gm_mn mj).cls (gm_mn mj) (gm_mn mj))) else if kd = 1 ∨ kd = 3 then decide (lw_tbl[p2]? = some (.instanceMethod (gm_mn mj))) && (decide ((gm_mn mj).name = "<init>") && decide (gm_rt mj = none)) else decide (lw_tbl[p2]? = some (.static (gm_mn mj)))) && (if kd = 5 then decide (gm_hh mj ≠ []) else decide (gm_hh mj = [])) && (if kd = 3 then gm_nst.any (fun r => decide (r.1 = gm_rn o ∧ r.2.1 = ix ∧ r.2.2.1 = gm_mn mj)) else true))
theorem gm_cl_len : gm_cl_.length = 436 := by decide +kernel
theorem gm_cl_ok0 : (gm_cl_.drop 0 |>.take 80).all gm_cck = true := by decide +kernel
theorem gm_cl_ok80 : (gm_cl_.drop 80 |>.take 80).all gm_cck = true := by decide +kernel
theorem gm_cl_ok160 : (gm_cl_.drop 160 |>.take 80).all gm_cck = true := by decide +kernel
theorem gm_cl_ok240 : (gm_cl_.drop 240 |>.take 80).all gm_cck = true := by decide +kernel
theorem gm_cl_ok320 : (gm_cl_.drop 320 |>.take 80).all gm_cck = true := by decide +kernel
theorem gm_cl_ok400 : (gm_cl_.drop 400 |>.take 80).all gm_cck = true := by decide +kernel
theorem gm_cl_ok {q : Nat × Nat × Nat × Nat × Nat × Nat × Nat × Nat} (h : q ∈ gm_cl_) : gm_cck q = true := by
  have key : ∀ a : Nat, ((gm_cl_.drop a).take 80).all gm_cck = true → ∀ i, a ≤ i → i < a + 80 → gm_cl_[i]? = some q → gm_cck q = true := by
    intro a h1 i h2 h3 h4
    refine List.all_eq_true.mp h1 q (List.mem_iff_getElem?.mpr ⟨i - a, ?_⟩)
    rw [List.getElem?_take_of_lt (by omega), List.getElem?_drop, show a + (i - a) = i by omega]; exact h4
  obtain ⟨i, hi⟩ := List.getElem?_of_mem h
  have hl : i < 436 := by rw [← gm_cl_len]; exact (List.getElem?_eq_some_iff.mp hi).1
  rcases Nat.lt_or_ge i 80 with h0 | h0
  · exact key 0 gm_cl_ok0 i (by omega) (by omega) hi
  rcases Nat.lt_or_ge i 160 with h80 | h80
  · exact key 80 gm_cl_ok80 i (by omega) (by omega) hi
  rcases Nat.lt_or_ge i 240 with h160 | h160
  · exact key 160 gm_cl_ok160 i (by omega) (by omega) hi
  rcases Nat.lt_or_ge i 320 with h240 | h240
  · exact key 240 gm_cl_ok240 i (by omega) (by omega) hi
  rcases Nat.lt_or_ge i 400 with h320 | h320
  · exact key 320 gm_cl_ok320 i (by omega) (by omega) hi
  exact key 400 gm_cl_ok400 i (by omega) (by omega) hi
def gm_co : List (List (Nat × Nat × Nat)) := [[(22, 3, 1), (39, 1, 3), (46, 1, 4), (55, 1, 13), (67, 1, 14), (76, 1, 15), (85, 1, 18), (94, 1, 2), (110, 0, 20), (254, 0, 24), (277, 0, 9), (390, 0, 25), (217, 0, 27), (295, 0, 30), (250, 0, 45), (186, 0, 10), (315, 0, 47), (450, 0, 28), (354, 2, 49), (359, 0, 50), (347, 0, 51), (402, 0, 53), (419, 0, 55), (114, 0, 56), (136, 0, 60), (154, 0, 5), (157, 0, 61), (150, 0, 63), (192, 0, 64), (257, 0, 65), (408, 0, 66), (435, 0, 67), (438, 0, 68), (142, 0, 123), (160, 0, 128), (163, 0, 34), (166, 0, 131), (306, 0, 132), (169, 0, 133), (172, 0, 36), (176, 0, 35), (180, 0, 138), (189, 0, 139), (200, 0, 142), (206, 0, 143), (212, 0, 144), (447, 0, 32), (411, 0, 31), (220, 0, 147), (229, 2, 26), (234, 0, 152), (237, 0, 107), (243, 0, 153), (246, 0, 118), (266, 0, 158), (274, 0, 161), (280, 0, 162), (283, 0, 163), (291, 0, 29), (298, 0, 169), (309, 0, 174), (319, 0, 179), (323, 0, 180), (326, 0, 181), (396, 2, 11), (329, 0, 182), (332, 0, 183), (335, 0, 186), (338, 0, 187), (341, 0, 192), (362, 0, 197), (367, 0, 198), (370, 0, 201), (373, 0, 203), (376, 0, 204), (381, 0, 207), (384, 0, 213), (387, 0, 214), (393, 0, 215), (399, 0, 218)], [(42, 1, 2), (72, 0, 10), (64, 0, 57), (68, 0, 9), (76, 0, 101), (79, 0, 45)], [(25, 2, 26), (31, 2, 11), (34, 2, 8)], [(24, 3, 1), (25, 0, 56), (29, 2, 26)], [(38, 0, 5), (41, 0, 6), (44, 0, 7), (57, 2, 8), (67, 0, 9), (73, 0, 10), (77, 2, 11), (47, 0, 12), (90, 0, 36), (97, 0, 37), (118, 2, 38), (101, 0, 39), (123, 0, 34), (105, 0, 40), (109, 2, 26), (112, 0, 42), (132, 0, 164)], [(304, 2, 26)], [], [(48, 0, 10), (54, 0, 28), (58, 0, 29), (68, 0, 31), (112, 0, 32), (72, 0, 33), (91, 2, 26), (96, 0, 34), (100, 2, 11), (76, 0, 35), (82, 0, 43), (106, 0, 44), (109, 0, 9)], [(11, 1, 2), (36, 0, 9), (40, 0, 25), (48, 0, 202), (52, 0, 10), (56, 0, 169), (61, 0, 30), (65, 0, 45), (69, 2, 26), (74, 0, 203), (77, 0, 208)], [(3, 1, 16), (21, 0, 80), (27, 0, 103), (79, 0, 104), (76, 0, 92), (84, 0, 75), (88, 0, 93), (33, 0, 105), (38, 0, 106), (105, 0, 107), (110, 0, 9), (114, 0, 10), (117, 0, 101), (120, 0, 45), (124, 0, 108), (43, 0, 109), (128, 0, 110), (133, 0, 111), (48, 0, 112), (53, 0, 113), (58, 0, 114), (63, 0, 115), (149, 0, 116), (154, 0, 94), (68, 0, 117), (160, 0, 118), (73, 0, 119)], [(11, 1, 17), (27, 0, 74), (38, 0, 97), (42, 0, 120), (46, 0, 92)], [(37, 2, 26), (43, 0, 75), (46, 2, 76), (50, 2, 77), (53, 0, 81), (58, 0, 83), (69, 0, 92), (62, 0, 80), (66, 0, 94)], [(3, 1, 16), (11, 1, 2), (28, 0, 25), (43, 0, 79), (84, 0, 80), (51, 0, 92), (57, 0, 75), (61, 0, 93), (67, 0, 94), (71, 0, 95), (91, 0, 96), (105, 0, 97), (94, 0, 98), (113, 0, 99), (119, 0, 100), (75, 0, 101), (78, 0, 45), (34, 2, 124), (40, 1, 125)], [(26, 0, 9), (30, 0, 10), (34, 0, 41), (38, 2, 11), (43, 2, 26), (11, 1, 2), (18, 0, 57)], [], [(135, 1, 0), (139, 0, 19), (144, 0, 21), (161, 0, 22), (217, 0, 23), (221, 0, 46), (241, 0, 48), (271, 0, 52), (290, 0, 54), (295, 0, 58), (299, 0, 59), (303, 0, 62), (149, 5, 69), (7, 0, 70), (158, 5, 121), (17, 0, 122), (165, 5, 126), (20, 0, 127), (169, 5, 129), (24, 0, 130), (173, 5, 134), (30, 0, 135), (177, 5, 136), (34, 0, 137), (180, 5, 140), (39, 0, 141), (183, 5, 145), (42, 0, 146), (186, 5, 148), (45, 0, 149), (189, 5, 150), (48, 0, 151), (192, 5, 154), (51, 0, 155), (195, 5, 156), (54, 0, 157), (198, 5, 159), (59, 0, 160), (201, 5, 165), (62, 0, 166), (205, 5, 167), (66, 0, 168), (208, 5, 170), (69, 0, 171), (211, 5, 172), (72, 0, 173), (214, 5, 175), (75, 0, 176), (226, 5, 177), (78, 0, 178), (229, 5, 184), (81, 0, 185), (232, 5, 188), (84, 0, 189), (235, 5, 190), (87, 0, 191), (238, 5, 193), (90, 0, 194), (245, 5, 195), (94, 0, 196), (248, 5, 199), (97, 0, 200), (252, 5, 205), (101, 0, 206), (255, 5, 209), (104, 0, 210), (258, 5, 211), (107, 0, 212), (262, 5, 216), (111, 0, 217), (265, 5, 219), (114, 0, 220), (268, 5, 221), (117, 0, 222), (275, 5, 223), (120, 0, 224), (278, 5, 225), (123, 0, 226), (281, 5, 227), (126, 0, 228), (284, 5, 229), (129, 0, 230), (287, 5, 231), (132, 0, 232), (155, 0, 233), (138, 1, 234), (298, 0, 236), (302, 0, 237), (294, 0, 238), (143, 0, 239), (148, 0, 240), (164, 0, 241), (154, 0, 242), (160, 0, 283), (168, 0, 284), (172, 0, 287), (176, 0, 291), (179, 0, 297), (182, 0, 308), (185, 0, 313), (188, 0, 314), (191, 0, 315), (194, 0, 317), (197, 0, 318), (200, 0, 320), (204, 0, 324), (207, 0, 326), (210, 0, 327), (213, 0, 328), (216, 0, 329), (220, 0, 330), (225, 0, 331), (228, 0, 334), (231, 0, 338), (234, 0, 340), (237, 0, 341), (240, 0, 344), (244, 0, 347), (247, 0, 348), (251, 0, 349), (254, 0, 354), (257, 0, 356), (261, 0, 357), (264, 0, 359), (267, 0, 360), (270, 0, 361), (274, 0, 362), (277, 0, 363), (280, 0, 364), (283, 0, 365), (286, 0, 366), (289, 0, 367), (306, 0, 368)], [(335, 0, 82), (492, 0, 84), (495, 2, 85), (1059, 2, 87), (498, 2, 88)], [(9, 2, 86)], [], [(67, 2, 89), (48, 2, 90), (414, 2, 86), (71, 2, 91)], [(72, 0, 235), (296, 0, 243), (289, 0, 244), (119, 0, 245), (112, 0, 246), (292, 0, 247), (131, 0, 248), (283, 0, 249), (134, 0, 250), (122, 0, 81), (127, 0, 83), (182, 0, 251), (145, 0, 252), (97, 0, 253), (100, 0, 254), (142, 0, 255), (138, 0, 256), (187, 0, 257), (192, 0, 258), (94, 0, 259), (149, 0, 260), (86, 0, 261), (197, 0, 262), (153, 0, 263), (158, 0, 264), (202, 0, 265), (162, 0, 266), (207, 0, 267), (165, 0, 268), (170, 0, 269), (212, 0, 270), (177, 0, 271), (173, 0, 272), (217, 0, 273), (286, 0, 274), (253, 0, 275), (270, 0, 276), (258, 0, 277), (248, 0, 278), (227, 0, 279), (265, 0, 280), (245, 0, 281), (300, 0, 282), (353, 2, 285), (90, 2, 286), (356, 0, 288), (359, 0, 289), (338, 0, 290), (362, 0, 292), (334, 0, 293), (341, 0, 294), (327, 0, 295), (324, 0, 296), (345, 2, 26), (350, 2, 11), (393, 0, 298), (396, 0, 299), (399, 0, 300), (82, 0, 301), (390, 0, 302), (374, 0, 303), (387, 0, 304), (381, 0, 305), (377, 0, 306), (371, 0, 307), (405, 0, 309), (408, 0, 310), (402, 0, 311), (384, 0, 312), (411, 0, 316), (414, 0, 319), (423, 0, 321), (420, 0, 322), (417, 0, 323), (425, 0, 325), (428, 0, 332), (431, 0, 333), (438, 0, 335), (441, 0, 336), (435, 0, 337), (444, 0, 339), (448, 0, 342), (451, 0, 343), (457, 0, 345), (454, 2, 346), (460, 2, 49), (471, 0, 350), (465, 2, 351), (468, 0, 352), (474, 0, 353), (480, 0, 355), (483, 0, 358)]]
/-- the call at a place of the pool: kind, method -/
def gm_cal (o ix : Nat) : Option (Nat × Nat) := ((gm_co[o]?).getD []).lookup ix
theorem gm_co_ok : (List.range gm_co.length).all (fun o => ((gm_co[o]?).getD []).all (fun q => gm_cl_.any (fun r => decide ((r.1, r.2.1, r.2.2.1, r.2.2.2.1) = (o, q.1, q.2.1, q.2.2))))) = true := by decide +kernel
