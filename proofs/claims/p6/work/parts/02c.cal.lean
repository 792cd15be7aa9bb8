/-! CALLS, laid by wip/am/gen_tables.py. -/
def gm_na (i : Nat) : Nat := (([0, 0, 2, 0, 1, 0, 0, 0, 2, 0, 2, 2, 0, 2, 2, 2, 3, 2, 1, 5, 1, 1, 0, 0, 0, 1, 2, 1, 1, 4, 1, 0, 0, 0, 1, 3, 2, 1, 2, 4, 1, 3, 2, 0, 1, 3, 1, 2, 0, 1, 1, 3, 1, 1, 0, 1, 1, 1, 1, 0, 0, 0, 0, 1, 0, 1, 1, 2, 0, 0, 2, 0, 1, 0, 0, 1, 0, 1, 1, 0, 0, 1, 0, 0, 1, 0, 2, 2, 3, 2, 2, 1, 2, 0, 2, 1, 1, 1, 1, 1, 0, 0, 0, 0, 0, 0, 0, 0, 0, 3, 0, 0, 1, 0, 0, 0, 0, 0, 0, 4, 0, 0, 2, 0, 0, 2, 2, 3, 1, 1, 4, 2, 1, 2, 1, 5, 3, 4, 2, 1, 2, 4, 2, 1, 1, 1, 4, 2, 1, 4, 2, 4, 2, 2, 1, 4, 2, 3, 1, 2, 3, 1, 0, 1, 4, 1, 6, 4, 4, 2, 2, 4, 2, 4, 2, 1, 3, 1, 3, 1, 2, 2, 3, 0, 0, 5, 3, 2, 4, 6, 4, 4, 2, 1, 5, 3, 2, 0, 1, 2, 5, 3, 3, 4, 1, 2, 5, 3, 3, 3, 4, 2, 4, 2, 1, 1, 2, 4, 2, 2, 4, 2, 3, 1, 4, 2, 4, 2, 4, 2, 3, 1, 4, 2, 0, 0, 0, 0, 0, 5, 1, 0, 0, 1, 0, 0, 2, 2, 0, 0, 1, 0, 0, 0, 0, 2, 3, 0, 0, 0, 1, 0, 0, 0, 3, 0, 0, 0, 0, 1, 0, 4, 3, 0, 1, 0, 0, 0, 1, 2, 0, 0, 2, 0, 1, 1, 3, 2, 1, 1, 2, 3, 3, 1, 1, 1, 2, 2, 1, 2, 2, 2, 1, 1, 1, 2, 5, 3, 2, 1, 1, 2, 1, 2, 2, 2, 0, 2, 1, 2, 1, 0, 1, 2, 4, 3, 2, 2, 2, 1, 0, 1, 0, 3, 1, 0, 1, 1, 3, 4, 4, 2, 1, 2, 3, 3, 2, 0, 0, 3, 1, 2, 2, 1, 3, 3, 2, 2, 1, 2, 2, 1, 1, 2, 2, 2, 1, 2, 1, 1] : List Nat)[i]?).getD 0
def gm_cpl : List Nat := [187, 195, 201, 311, 330, 335, 339, 344, 347, 351, 355, 358, 362, 390, 428, 449, 452, 458, 506, 582, 586, 590, 594, 598, 602, 607, 610, 616, 621, 626, 630, 634, 638, 642, 647, 652, 656, 660, 664, 668, 673, 680, 685, 690, 694, 699, 704, 708, 713, 716, 723, 727, 731, 735, 739, 743, 747, 751, 755, 762, 767, 771, 776, 780, 784, 788, 792, 796, 800, 804, 807, 813, 819, 825, 829, 833, 838, 841, 844, 850, 854, 859, 863, 867, 873, 877, 880, 883, 888, 891, 894, 897, 901, 913, 918, 924, 929, 933, 938, 942, 948, 952, 966, 970, 976, 980, 989, 994, 998, 1006, 1011, 1015, 1020, 1026, 1031, 1036, 1041, 1045, 1052, 1056, 1063, 1068, 1157, 1161, 1169, 1173, 1185, 1200, 1204, 1208, 1213, 1218, 1222, 1226, 1246, 1250, 1254, 1258, 1263, 1267, 1271, 1290, 1294, 1298, 1302, 1306, 1312, 1316, 1320, 1324, 1328, 1331, 1335, 1339, 1346, 1351, 1355, 1358, 1363, 1383, 1386, 1390, 1395, 1399, 1403, 1407, 1410, 1414, 1420, 1424, 1428, 1431, 1435, 1439, 1443, 1447, 1450, 1454, 1457, 1461, 1465, 1469, 1473, 1478, 1482, 1485, 1489, 1493, 1498, 1501, 1505, 1508, 1512, 1516, 1519, 1523, 1526, 1530, 1534, 1539, 1542, 1546, 1550, 1556, 1565, 1569, 1572, 1576, 1581, 1586, 1589, 1593, 1596, 1600, 1604, 1608, 1612, 1615, 1619, 1623, 1626, 1630, 1633, 1637, 1640, 1644, 1647, 1651, 1654, 1658, 1661, 1665, 1668, 1672, 1678, 1683, 1806, 1810, 1814, 1818, 1822, 1826, 1830, 1834, 1838, 1842, 1846, 1850, 1854, 1858, 1863, 1869, 1873, 1877, 1881, 1885, 1889, 1894, 1899, 1903, 1907, 1911, 1916, 1920, 1925, 1930, 1934, 1939, 1943, 1948, 1953, 1957, 1961, 1966, 1972, 1980, 1984, 1988, 1992, 1997, 2003, 2007, 2020, 2024, 2028, 2031, 2034, 2038, 2042, 2046, 2050, 2054, 2058, 2062, 2066, 2070, 2074, 2080, 2084, 2088, 2092, 2096, 2100, 2104, 2108, 2112, 2116, 2120, 2124, 2128, 2132, 2136, 2140, 2144, 2148, 2152, 2156, 2160, 2164, 2168, 2172, 2176, 2180, 2184, 2188, 2192, 2196, 2200, 2204, 2208, 2212, 2216, 2220, 2224, 2228, 2232, 2236, 2240, 2244, 2248, 2252, 2256, 2260, 2264, 2268, 2272, 2275, 2279, 2284, 2288, 2292, 2295, 2299, 2303, 2307, 2311, 2315, 2319, 2323, 2327, 2331, 2335, 2339, 2343, 2347, 2351, 2355, 2359, 2363]
def gm_cwd (i : Nat) : Jvm.Cond := if gm_hh i = [] then .code (gm_mn i) (gm_bc i) (gm_ml i) (gm_rt i) else .codeWith (gm_mn i) (gm_bc i) (gm_ml i) (gm_rt i) (gm_hh i)
def gm_mck (i : Nat) : Bool := (decide ((gm_mn i).cls ≠ "java/lang/invoke/MethodHandle" ∧ (gm_mn i).cls ≠ "java/lang/invoke/VarHandle") && (decide ((parseMethodDescriptor (gm_mn i).desc).map (fun d => d.parameters.length) = some (gm_na i)) && decide (gm_ml i ≤ 200)))
theorem gm_tq1 {w : Jvm.Cond} {j : Nat} (h : tables_1_1[j]? = some w) (hg : goodWord w = true) : w ∈ gm_T := List.mem_filter.mpr ⟨List.mem_append_right _ (by unfold tables_1; exact List.mem_append_left _ (List.mem_of_getElem? h)), hg⟩
theorem gm_tq2 {w : Jvm.Cond} {j : Nat} (h : tables_1_2[j]? = some w) (hg : goodWord w = true) : w ∈ gm_T := List.mem_filter.mpr ⟨List.mem_append_right _ (by unfold tables_1; exact List.mem_append_right _ (List.mem_append_left _ (List.mem_of_getElem? h))), hg⟩
theorem gm_tq3 {w : Jvm.Cond} {j : Nat} (h : tables_1_3[j]? = some w) (hg : goodWord w = true) : w ∈ gm_T := List.mem_filter.mpr ⟨List.mem_append_right _ (by unfold tables_1; exact List.mem_append_right _ (List.mem_append_right _ (List.mem_append_left _ (List.mem_of_getElem? h)))), hg⟩
theorem gm_tq4 {w : Jvm.Cond} {j : Nat} (h : tables_1_4[j]? = some w) (hg : goodWord w = true) : w ∈ gm_T := List.mem_filter.mpr ⟨List.mem_append_right _ (by unfold tables_1; exact List.mem_append_right _ (List.mem_append_right _ (List.mem_append_right _ (List.mem_append_left _ (List.mem_of_getElem? h))))), hg⟩
theorem gm_tq5 {w : Jvm.Cond} {j : Nat} (h : tables_1_5[j]? = some w) (hg : goodWord w = true) : w ∈ gm_T := List.mem_filter.mpr ⟨List.mem_append_right _ (by unfold tables_1; exact List.mem_append_right _ (List.mem_append_right _ (List.mem_append_right _ (List.mem_append_right _ (List.mem_append_left _ (List.mem_of_getElem? h)))))), hg⟩
theorem gm_tq6 {w : Jvm.Cond} {j : Nat} (h : tables_1_6[j]? = some w) (hg : goodWord w = true) : w ∈ gm_T := List.mem_filter.mpr ⟨List.mem_append_right _ (by unfold tables_1; exact List.mem_append_right _ (List.mem_append_right _ (List.mem_append_right _ (List.mem_append_right _ (List.mem_append_right _ (List.mem_append_left _ (List.mem_of_getElem? h))))))), hg⟩
theorem gm_tq7 {w : Jvm.Cond} {j : Nat} (h : tables_1_7[j]? = some w) (hg : goodWord w = true) : w ∈ gm_T := List.mem_filter.mpr ⟨List.mem_append_right _ (by unfold tables_1; exact List.mem_append_right _ (List.mem_append_right _ (List.mem_append_right _ (List.mem_append_right _ (List.mem_append_right _ (List.mem_append_right _ (List.mem_append_left _ (List.mem_of_getElem? h)))))))), hg⟩
theorem gm_tq8 {w : Jvm.Cond} {j : Nat} (h : tables_1_8[j]? = some w) (hg : goodWord w = true) : w ∈ gm_T := List.mem_filter.mpr ⟨List.mem_append_right _ (by unfold tables_1; exact List.mem_append_right _ (List.mem_append_right _ (List.mem_append_right _ (List.mem_append_right _ (List.mem_append_right _ (List.mem_append_right _ (List.mem_append_right _ (List.mem_append_left _ (List.mem_of_getElem? h))))))))), hg⟩
theorem gm_tq9 {w : Jvm.Cond} {j : Nat} (h : tables_1_9[j]? = some w) (hg : goodWord w = true) : w ∈ gm_T := List.mem_filter.mpr ⟨List.mem_append_right _ (by unfold tables_1; exact List.mem_append_right _ (List.mem_append_right _ (List.mem_append_right _ (List.mem_append_right _ (List.mem_append_right _ (List.mem_append_right _ (List.mem_append_right _ (List.mem_append_right _ (List.mem_append_left _ (List.mem_of_getElem? h)))))))))), hg⟩
theorem gm_tq10 {w : Jvm.Cond} {j : Nat} (h : tables_1_10[j]? = some w) (hg : goodWord w = true) : w ∈ gm_T := List.mem_filter.mpr ⟨List.mem_append_right _ (by unfold tables_1; exact List.mem_append_right _ (List.mem_append_right _ (List.mem_append_right _ (List.mem_append_right _ (List.mem_append_right _ (List.mem_append_right _ (List.mem_append_right _ (List.mem_append_right _ (List.mem_append_right _ (List.mem_of_getElem? h)))))))))), hg⟩
set_option maxRecDepth 100000 in
theorem gm_cp0 : gm_cwd 0 ∈ gm_T := gm_tq1 (w := Jvm.Cond.code ⟨"GlacierMail", "<init>", "()V"⟩ prog_1_method_1_code 1 none) (j := 34) rfl rfl
set_option maxRecDepth 100000 in
theorem gm_cp1 : gm_cwd 1 ∈ gm_T := gm_tq1 (w := Jvm.Cond.code ⟨"GlacierMail$State", "<init>", "()V"⟩ prog_8_method_1_code 1 none) (j := 42) rfl rfl
set_option maxRecDepth 100000 in
theorem gm_cp2 : gm_cwd 2 ∈ gm_T := gm_tq1 (w := Jvm.Cond.code ⟨"GlacierMail$Rows", "<init>", "(II)V"⟩ prog_7_method_1_code 3 none) (j := 48) rfl rfl
set_option maxRecDepth 100000 in
theorem gm_cp3 : gm_cwd 3 ∈ gm_T := gm_tq1 (w := Jvm.Cond.code ⟨"GlacierMail$History", "<init>", "()V"⟩ prog_3_method_1_code 2 none) (j := 158) rfl rfl
set_option maxRecDepth 100000 in
theorem gm_cp4 : gm_cwd 4 ∈ gm_T := gm_tq1 (w := Jvm.Cond.code ⟨"GlacierMail$Ice", "<init>", "(LGlacierMail$State;)V"⟩ prog_4_method_1_code 2 none) (j := 177) rfl rfl
set_option maxRecDepth 100000 in
theorem gm_cp5 : gm_cwd 5 ∈ gm_T := gm_tq1 (w := Jvm.Cond.code ⟨"GlacierMail$Ice", "renew", "()V"⟩ prog_4_method_2_code 1 none) (j := 182) rfl rfl
set_option maxRecDepth 100000 in
theorem gm_cp6 : gm_cwd 6 ∈ gm_T := gm_tq1 (w := Jvm.Cond.code ⟨"GlacierMail$Ice", "reckonHeats", "()V"⟩ prog_4_method_3_code 3 none) (j := 186) rfl rfl
set_option maxRecDepth 100000 in
theorem gm_cp7 : gm_cwd 7 ∈ gm_T := gm_tq1 (w := Jvm.Cond.code ⟨"GlacierMail$Ice", "reckonSpeeds", "()V"⟩ prog_4_method_4_code 6 none) (j := 191) rfl rfl
set_option maxRecDepth 100000 in
theorem gm_cp8 : gm_cwd 8 ∈ gm_T := gm_tq1 (w := Jvm.Cond.code ⟨"java/util/Arrays", "fill", "([II)V"⟩ prog_34_method_103_code 4 none) (j := 194) rfl rfl
set_option maxRecDepth 100000 in
theorem gm_cp9 : gm_cwd 9 ∈ gm_T := gm_tq1 (w := Jvm.Cond.code ⟨"GlacierMail$Rows", "size", "()I"⟩ prog_7_method_2_code 1 (some .int)) (j := 198) rfl rfl
set_option maxRecDepth 100000 in
theorem gm_cp10 : gm_cwd 10 ∈ gm_T := gm_tq1 (w := Jvm.Cond.code ⟨"GlacierMail$Rows", "get", "(II)I"⟩ prog_7_method_6_code 3 (some .int)) (j := 202) rfl rfl
set_option maxRecDepth 100000 in
theorem gm_cp11 : gm_cwd 11 ∈ gm_T := gm_tq1 (w := Jvm.Cond.code ⟨"java/lang/Math", "max", "(II)I"⟩ prog_24_method_65_code 2 (some .int)) (j := 205) rfl rfl
set_option maxRecDepth 100000 in
theorem gm_cp12 : gm_cwd 12 ∈ gm_T := gm_tq1 (w := Jvm.Cond.code ⟨"GlacierMail$Ice", "reckonFloods", "()V"⟩ prog_4_method_5_code 3 none) (j := 209) rfl rfl
set_option maxRecDepth 100000 in
theorem gm_cp13 : gm_cwd 13 ∈ gm_T := gm_tq1 (w := Jvm.Cond.code ⟨"GlacierMail$Way", "<init>", "(LGlacierMail$State;LGlacierMail$Ice;)V"⟩ prog_11_method_1_code 3 none) (j := 237) rfl rfl
set_option maxRecDepth 100000 in
theorem gm_cp14 : gm_cwd 14 ∈ gm_T := gm_tq2 (w := Jvm.Cond.code ⟨"GlacierMail$Answers", "<init>", "(LGlacierMail$State;LGlacierMail$Way;)V"⟩ prog_2_method_1_code 3 none) (j := 35) rfl rfl
set_option maxRecDepth 100000 in
theorem gm_cp15 : gm_cwd 15 ∈ gm_T := gm_tq2 (w := Jvm.Cond.code ⟨"GlacierMail$ValleyReader", "<init>", "([BLGlacierMail$State;)V"⟩ prog_10_method_1_code 3 none) (j := 56) rfl rfl
set_option maxRecDepth 100000 in
theorem gm_cp16 : gm_cwd 16 ∈ gm_T := gm_tq2 (w := Jvm.Cond.code ⟨"GlacierMail$TextReader", "<init>", "([BII)V"⟩ prog_9_method_1_code 4 none) (j := 59) rfl rfl
set_option maxRecDepth 100000 in
theorem gm_cp17 : gm_cwd 17 ∈ gm_T := gm_tq2 (w := Jvm.Cond.code ⟨"GlacierMail$Words", "<init>", "([BI)V"⟩ prog_12_method_1_code 3 none) (j := 65) rfl rfl
set_option maxRecDepth 100000 in
theorem gm_cp18 : gm_cwd 18 ∈ gm_T := gm_tq2 (w := Jvm.Cond.code ⟨"GlacierMail$LawReader", "<init>", "([B)V"⟩ prog_6_method_1_code 2 none) (j := 113) rfl rfl
set_option maxRecDepth 100000 in
theorem gm_cp19 : gm_cwd 19 ∈ gm_T := gm_tq2 (w := Jvm.Cond.code ⟨"GlacierMail", "feed", "(IIIII)I"⟩ prog_1_method_2_code 6 (some .int)) (j := 189) rfl rfl
set_option maxRecDepth 100000 in
theorem gm_cp20 : gm_cwd 20 ∈ gm_T := gm_tq2 (w := Jvm.Cond.code ⟨"GlacierMail", "putNumber", "(I)V"⟩ prog_1_method_3_code 3 none) (j := 193) rfl rfl
set_option maxRecDepth 100000 in
theorem gm_cp21 : gm_cwd 21 ∈ gm_T := gm_tq2 (w := Jvm.Cond.code ⟨"GlacierMail", "end", "(I)Z"⟩ prog_1_method_4_code 2 (some .boolean)) (j := 197) rfl rfl
set_option maxRecDepth 100000 in
theorem gm_cp22 : gm_cwd 22 ∈ gm_T := gm_tq2 (w := Jvm.Cond.code ⟨"GlacierMail", "fault", "()I"⟩ prog_1_method_8_code 1 (some .int)) (j := 201) rfl rfl
set_option maxRecDepth 100000 in
theorem gm_cp23 : gm_cwd 23 ∈ gm_T := gm_tq2 (w := Jvm.Cond.code ⟨"GlacierMail", "lost", "()I"⟩ prog_1_method_27_code 3 (some .int)) (j := 205) rfl rfl
set_option maxRecDepth 100000 in
theorem gm_cp24 : gm_cwd 24 ∈ gm_T := gm_tq2 (w := Jvm.Cond.code ⟨"GlacierMail", "reckonEnds", "()V"⟩ prog_1_method_65_code 2 none) (j := 209) rfl rfl
set_option maxRecDepth 100000 in
theorem gm_cp25 : gm_cwd 25 ∈ gm_T := gm_tq2 (w := Jvm.Cond.code ⟨"GlacierMail$Rows", "reset", "(I)V"⟩ prog_7_method_5_code 2 none) (j := 214) rfl rfl
set_option maxRecDepth 100000 in
theorem gm_cp26 : gm_cwd 26 ∈ gm_T := gm_tq2 (w := Jvm.Cond.code ⟨"java/lang/Math", "min", "(II)I"⟩ prog_24_method_69_code 2 (some .int)) (j := 217) rfl rfl
set_option maxRecDepth 100000 in
theorem gm_cp27 : gm_cwd 27 ∈ gm_T := gm_tq2 (w := Jvm.Cond.code ⟨"GlacierMail$Way", "startLetter", "(I)V"⟩ prog_11_method_3_code 3 none) (j := 223) rfl rfl
set_option maxRecDepth 100000 in
theorem gm_cp28 : gm_cwd 28 ∈ gm_T := gm_tq2 (w := Jvm.Cond.code ⟨"GlacierMail$State", "isRock", "(I)Z"⟩ prog_8_method_4_code 2 (some .boolean)) (j := 228) rfl rfl
set_option maxRecDepth 100000 in
theorem gm_cp29 : gm_cwd 29 ∈ gm_T := gm_tq2 (w := Jvm.Cond.code ⟨"GlacierMail$Way", "start", "(IIIZ)V"⟩ prog_11_method_2_code 5 none) (j := 233) rfl rfl
set_option maxRecDepth 100000 in
theorem gm_cp30 : gm_cwd 30 ∈ gm_T := gm_tq2 (w := Jvm.Cond.code ⟨"GlacierMail$Way", "runOut", "(I)I"⟩ prog_11_method_11_code 3 (some .int)) (j := 237) rfl rfl
set_option maxRecDepth 100000 in
theorem gm_cp31 : gm_cwd 31 ∈ gm_T := gm_tq3 (w := Jvm.Cond.code ⟨"GlacierMail$Way", "isOut", "()Z"⟩ prog_11_method_6_code 1 (some .boolean)) (j := 1) rfl rfl
set_option maxRecDepth 100000 in
theorem gm_cp32 : gm_cwd 32 ∈ gm_T := gm_tq3 (w := Jvm.Cond.code ⟨"GlacierMail$Way", "step", "()V"⟩ prog_11_method_7_code 2 none) (j := 5) rfl rfl
set_option maxRecDepth 100000 in
theorem gm_cp33 : gm_cwd 33 ∈ gm_T := gm_tq3 (w := Jvm.Cond.code ⟨"GlacierMail$Way", "deepAfter", "()I"⟩ prog_11_method_8_code 1 (some .int)) (j := 9) rfl rfl
set_option maxRecDepth 100000 in
theorem gm_cp34 : gm_cwd 34 ∈ gm_T := gm_tq3 (w := Jvm.Cond.code ⟨"GlacierMail$Ice", "heatIn", "(I)I"⟩ prog_4_method_6_code 2 (some .int)) (j := 14) rfl rfl
set_option maxRecDepth 100000 in
theorem gm_cp35 : gm_cwd 35 ∈ gm_T := gm_tq3 (w := Jvm.Cond.code ⟨"GlacierMail$Ice", "flowAt", "(III)I"⟩ prog_4_method_9_code 7 (some .int)) (j := 19) rfl rfl
set_option maxRecDepth 100000 in
theorem gm_cp36 : gm_cwd 36 ∈ gm_T := gm_tq3 (w := Jvm.Cond.code ⟨"GlacierMail$Ice", "speedAt", "(II)I"⟩ prog_4_method_8_code 4 (some .int)) (j := 23) rfl rfl
set_option maxRecDepth 100000 in
theorem gm_cp37 : gm_cwd 37 ∈ gm_T := gm_tq3 (w := Jvm.Cond.code ⟨"GlacierMail$Ice", "recalledFlow", "(I)I"⟩ prog_4_method_10_code 3 (some .int)) (j := 27) rfl rfl
set_option maxRecDepth 100000 in
theorem gm_cp38 : gm_cwd 38 ∈ gm_T := gm_tq3 (w := Jvm.Cond.code ⟨"java/util/Arrays", "fill", "([JJ)V"⟩ prog_34_method_101_code 5 none) (j := 31) rfl rfl
set_option maxRecDepth 100000 in
theorem gm_cp39 : gm_cwd 39 ∈ gm_T := gm_tq3 (w := Jvm.Cond.code ⟨"GlacierMail$Ice", "setFacts", "(IIII)V"⟩ prog_4_method_12_code 5 none) (j := 35) rfl rfl
set_option maxRecDepth 100000 in
theorem gm_cp40 : gm_cwd 40 ∈ gm_T := gm_tq3 (w := Jvm.Cond.code ⟨"GlacierMail$Law", "faster", "([I)I"⟩ prog_5_method_2_code 5 (some .int)) (j := 40) rfl rfl
set_option maxRecDepth 100000 in
theorem gm_cp41 : gm_cwd 41 ∈ gm_T := gm_tq3 (w := Jvm.Cond.code ⟨"GlacierMail$Law", "holds", "(II[I)Z"⟩ prog_5_method_4_code 14 (some .boolean)) (j := 47) rfl rfl
set_option maxRecDepth 100000 in
theorem gm_cp42 : gm_cwd 42 ∈ gm_T := gm_tq3 (w := Jvm.Cond.code ⟨"GlacierMail$Ice", "keepFlow", "(II)V"⟩ prog_4_method_11_code 6 none) (j := 52) rfl rfl
set_option maxRecDepth 100000 in
theorem gm_cp43 : gm_cwd 43 ∈ gm_T := gm_tq3 (w := Jvm.Cond.code ⟨"GlacierMail$Way", "takeFloods", "()V"⟩ prog_11_method_9_code 5 none) (j := 57) rfl rfl
set_option maxRecDepth 100000 in
theorem gm_cp44 : gm_cwd 44 ∈ gm_T := gm_tq3 (w := Jvm.Cond.code ⟨"GlacierMail$Ice", "floodsIn", "(I)I"⟩ prog_4_method_7_code 2 (some .int)) (j := 61) rfl rfl
set_option maxRecDepth 100000 in
theorem gm_cp45 : gm_cwd 45 ∈ gm_T := gm_tq3 (w := Jvm.Cond.code ⟨"GlacierMail$Rows", "put", "(III)V"⟩ prog_7_method_7_code 4 none) (j := 66) rfl rfl
set_option maxRecDepth 100000 in
theorem gm_cp46 : gm_cwd 46 ∈ gm_T := gm_tq3 (w := Jvm.Cond.code ⟨"GlacierMail", "market", "(Z)I"⟩ prog_1_method_28_code 7 (some .int)) (j := 71) rfl rfl
set_option maxRecDepth 100000 in
theorem gm_cp47 : gm_cwd 47 ∈ gm_T := gm_tq3 (w := Jvm.Cond.code ⟨"GlacierMail", "outIn", "(IZ)I"⟩ prog_1_method_66_code 5 (some .int)) (j := 75) rfl rfl
set_option maxRecDepth 100000 in
theorem gm_cp48 : gm_cwd 48 ∈ gm_T := gm_tq3 (w := Jvm.Cond.code ⟨"GlacierMail", "poles", "()I"⟩ prog_1_method_37_code 4 (some .int)) (j := 80) rfl rfl
set_option maxRecDepth 100000 in
theorem gm_cp49 : gm_cwd 49 ∈ gm_T := gm_tq3 (w := Jvm.Cond.code ⟨"java/lang/Integer", "bitCount", "(I)I"⟩ prog_23_method_49_code 1 (some .int)) (j := 83) rfl rfl
set_option maxRecDepth 100000 in
theorem gm_cp50 : gm_cwd 50 ∈ gm_T := gm_tq3 (w := Jvm.Cond.code ⟨"GlacierMail", "allToldApart", "(I)Z"⟩ prog_1_method_38_code 4 (some .boolean)) (j := 90) rfl rfl
set_option maxRecDepth 100000 in
theorem gm_cp51 : gm_cwd 51 ∈ gm_T := gm_tq3 (w := Jvm.Cond.code ⟨"GlacierMail", "toldApart", "(III)Z"⟩ prog_1_method_36_code 5 (some .boolean)) (j := 94) rfl rfl
set_option maxRecDepth 100000 in
theorem gm_cp52 : gm_cwd 52 ∈ gm_T := gm_tq3 (w := Jvm.Cond.code ⟨"GlacierMail", "order", "(I)I"⟩ prog_1_method_51_code 3 (some .int)) (j := 98) rfl rfl
set_option maxRecDepth 100000 in
theorem gm_cp53 : gm_cwd 53 ∈ gm_T := gm_tq3 (w := Jvm.Cond.code ⟨"GlacierMail", "outAheadOf", "(I)I"⟩ prog_1_method_52_code 7 (some .int)) (j := 102) rfl rfl
set_option maxRecDepth 100000 in
theorem gm_cp54 : gm_cwd 54 ∈ gm_T := gm_tq3 (w := Jvm.Cond.code ⟨"GlacierMail", "undo", "()Z"⟩ prog_1_method_58_code 1 (some .boolean)) (j := 106) rfl rfl
set_option maxRecDepth 100000 in
theorem gm_cp55 : gm_cwd 55 ∈ gm_T := gm_tq3 (w := Jvm.Cond.code ⟨"GlacierMail$History", "takeBack", "(LGlacierMail$State;)Z"⟩ prog_3_method_5_code 3 (some .boolean)) (j := 110) rfl rfl
set_option maxRecDepth 100000 in
theorem gm_cp56 : gm_cwd 56 ∈ gm_T := gm_tq3 (w := Jvm.Cond.code ⟨"GlacierMail$History", "at", "(I)LGlacierMail$State;"⟩ prog_3_method_3_code 2 (some (.object "GlacierMail$State"))) (j := 114) rfl rfl
set_option maxRecDepth 100000 in
theorem gm_cp57 : gm_cwd 57 ∈ gm_T := gm_tq3 (w := Jvm.Cond.code ⟨"GlacierMail$State", "copyFrom", "(LGlacierMail$State;)V"⟩ prog_8_method_2_code 2 none) (j := 118) rfl rfl
set_option maxRecDepth 100000 in
theorem gm_cp58 : gm_cwd 58 ∈ gm_T := gm_tq3 (w := Jvm.Cond.code ⟨"GlacierMail$Rows", "copyFrom", "(LGlacierMail$Rows;)V"⟩ prog_7_method_8_code 2 none) (j := 122) rfl rfl
set_option maxRecDepth 100000 in
theorem gm_cp59 : gm_cwd 59 ∈ gm_T := gm_tq3 (w := Jvm.Cond.code ⟨"GlacierMail", "image", "()V"⟩ prog_1_method_59_code 1 none) (j := 129) rfl rfl
set_option maxRecDepth 100000 in
theorem gm_cp60 : gm_cwd 60 ∈ gm_T := gm_tq3 (w := Jvm.Cond.code ⟨"GlacierMail", "back", "()Z"⟩ prog_1_method_60_code 1 (some .boolean)) (j := 134) rfl rfl
set_option maxRecDepth 100000 in
theorem gm_cp61 : gm_cwd 61 ∈ gm_T := gm_tq3 (w := Jvm.Cond.code ⟨"GlacierMail", "forgetWays", "()V"⟩ prog_1_method_7_code 1 none) (j := 138) rfl rfl
set_option maxRecDepth 100000 in
theorem gm_cp62 : gm_cwd 62 ∈ gm_T := gm_tq3 (w := Jvm.Cond.code ⟨"GlacierMail$History", "forget", "()V"⟩ prog_3_method_6_code 1 none) (j := 143) rfl rfl
set_option maxRecDepth 100000 in
theorem gm_cp63 : gm_cwd 63 ∈ gm_T := gm_tq3 (w := Jvm.Cond.code ⟨"GlacierMail", "count", "(I)I"⟩ prog_1_method_61_code 2 (some .int)) (j := 147) rfl rfl
set_option maxRecDepth 100000 in
theorem gm_cp64 : gm_cwd 64 ∈ gm_T := gm_tq3 (w := Jvm.Cond.code ⟨"GlacierMail", "lawLines", "()I"⟩ prog_1_method_62_code 1 (some .int)) (j := 151) rfl rfl
set_option maxRecDepth 100000 in
theorem gm_cp65 : gm_cwd 65 ∈ gm_T := gm_tq3 (w := Jvm.Cond.code ⟨"GlacierMail", "waiting", "(I)I"⟩ prog_1_method_70_code 5 (some .int)) (j := 155) rfl rfl
set_option maxRecDepth 100000 in
theorem gm_cp66 : gm_cwd 66 ∈ gm_T := gm_tq3 (w := Jvm.Cond.code ⟨"GlacierMail", "waits", "(I)Z"⟩ prog_1_method_69_code 3 (some .boolean)) (j := 159) rfl rfl
set_option maxRecDepth 100000 in
theorem gm_cp67 : gm_cwd 67 ∈ gm_T := gm_tq3 (w := Jvm.Cond.code ⟨"GlacierMail", "isOutBy", "(II)Z"⟩ prog_1_method_68_code 3 (some .boolean)) (j := 163) rfl rfl
set_option maxRecDepth 100000 in
theorem gm_cp68 : gm_cwd 68 ∈ gm_T := gm_tq3 (w := Jvm.Cond.code ⟨"GlacierMail", "inIceNow", "()I"⟩ prog_1_method_71_code 3 (some .int)) (j := 167) rfl rfl
set_option maxRecDepth 100000 in
theorem gm_cp69 : gm_cwd 69 ∈ gm_T := gm_tq3 (w := Jvm.Cond.code ⟨"GlacierMail$History", "size", "()I"⟩ prog_3_method_2_code 1 (some .int)) (j := 171) rfl rfl
set_option maxRecDepth 100000 in
theorem gm_cp70 : gm_cwd 70 ∈ gm_T := gm_tq3 (w := Jvm.Cond.codeWith ⟨"GlacierMailLaw", "valley", "(LGlacierMail;[J)I"⟩ method_3_code 3 (some .int) [(0, 8, 11, 13), (0, 8, 14, 15)]) (j := 174) rfl rfl
set_option maxRecDepth 100000 in
theorem gm_cp71 : gm_cwd 71 ∈ gm_T := gm_tq3 (w := Jvm.Cond.code ⟨"GlacierMail", "valley", "()I"⟩ prog_1_method_5_code 1 (some .int)) (j := 180) rfl rfl
set_option maxRecDepth 100000 in
theorem gm_cp72 : gm_cwd 72 ∈ gm_T := gm_tq3 (w := Jvm.Cond.code ⟨"GlacierMail$TextReader", "readText", "(I)I"⟩ prog_9_method_4_code 3 (some .int)) (j := 186) rfl rfl
set_option maxRecDepth 100000 in
theorem gm_cp73 : gm_cwd 73 ∈ gm_T := gm_tq3 (w := Jvm.Cond.code ⟨"GlacierMail$LawReader", "clear", "()V"⟩ prog_6_method_2_code 1 none) (j := 192) rfl rfl
set_option maxRecDepth 100000 in
theorem gm_cp74 : gm_cwd 74 ∈ gm_T := gm_tq3 (w := Jvm.Cond.code ⟨"GlacierMail$ValleyReader", "clear", "()V"⟩ prog_10_method_2_code 1 none) (j := 196) rfl rfl
set_option maxRecDepth 100000 in
theorem gm_cp75 : gm_cwd 75 ∈ gm_T := gm_tq3 (w := Jvm.Cond.code ⟨"GlacierMail$Words", "start", "(I)V"⟩ prog_12_method_2_code 2 none) (j := 200) rfl rfl
set_option maxRecDepth 100000 in
theorem gm_cp76 : gm_cwd 76 ∈ gm_T := gm_tq3 (w := Jvm.Cond.code ⟨"GlacierMail$Words", "next", "()V"⟩ prog_12_method_4_code 2 none) (j := 205) rfl rfl
set_option maxRecDepth 100000 in
theorem gm_cp77 : gm_cwd 77 ∈ gm_T := gm_tq3 (w := Jvm.Cond.code ⟨"GlacierMail$Words", "isSmall", "(B)Z"⟩ prog_12_method_5_code 1 (some .boolean)) (j := 208) rfl rfl
set_option maxRecDepth 100000 in
theorem gm_cp78 : gm_cwd 78 ∈ gm_T := gm_tq3 (w := Jvm.Cond.code ⟨"GlacierMail$Words", "isDigit", "(B)Z"⟩ prog_12_method_6_code 1 (some .boolean)) (j := 211) rfl rfl
set_option maxRecDepth 100000 in
theorem gm_cp79 : gm_cwd 79 ∈ gm_T := gm_tq3 (w := Jvm.Cond.code ⟨"GlacierMail$LawReader", "readLine", "()Z"⟩ prog_6_method_4_code 5 (some .boolean)) (j := 217) rfl rfl
set_option maxRecDepth 100000 in
theorem gm_cp80 : gm_cwd 80 ∈ gm_T := gm_tq3 (w := Jvm.Cond.code ⟨"GlacierMail$LawReader", "readKind", "()I"⟩ prog_6_method_5_code 1 (some .int)) (j := 221) rfl rfl
set_option maxRecDepth 100000 in
theorem gm_cp81 : gm_cwd 81 ∈ gm_T := gm_tq3 (w := Jvm.Cond.code ⟨"GlacierMail$Words", "isWord", "(Ljava/lang/String;)Z"⟩ prog_12_method_7_code 3 (some .boolean)) (j := 226) rfl rfl
set_option maxRecDepth 100000 in
theorem gm_cp82 : gm_cwd 82 ∈ gm_T := gm_tq3 (w := Jvm.Cond.code ⟨"java/lang/String", "length", "()I"⟩ prog_26_method_54_code 1 (some .int)) (j := 230) rfl rfl
set_option maxRecDepth 100000 in
theorem gm_cp83 : gm_cwd 83 ∈ gm_T := gm_tq3 (w := Jvm.Cond.code ⟨"java/lang/String", "coder", "()B"⟩ prog_26_method_152_code 1 (some .byte)) (j := 234) rfl rfl
set_option maxRecDepth 100000 in
theorem gm_cp84 : gm_cwd 84 ∈ gm_T := gm_tq4 (w := Jvm.Cond.code ⟨"java/lang/String", "charAt", "(I)C"⟩ prog_26_method_56_code 2 (some .char)) (j := 0) rfl rfl
set_option maxRecDepth 100000 in
theorem gm_cp85 : gm_cwd 85 ∈ gm_T := gm_tq4 (w := Jvm.Cond.code ⟨"java/lang/String", "isLatin1", "()Z"⟩ prog_26_method_154_code 1 (some .boolean)) (j := 4) rfl rfl
set_option maxRecDepth 100000 in
theorem gm_cp86 : gm_cwd 86 ∈ gm_T := gm_tq4 (w := Jvm.Cond.code ⟨"java/lang/StringLatin1", "charAt", "([BI)C"⟩ prog_27_method_2_code 2 (some .char)) (j := 7) rfl rfl
set_option maxRecDepth 100000 in
theorem gm_cp87 : gm_cwd 87 ∈ gm_T := gm_tq4 (w := Jvm.Cond.code ⟨"java/lang/String", "checkIndex", "(II)V"⟩ prog_26_method_155_code 2 none) (j := 10) rfl rfl
set_option maxRecDepth 100000 in
theorem gm_cp88 : gm_cwd 88 ∈ gm_T := gm_tq4 (w := Jvm.Cond.code ⟨"jdk/internal/util/Preconditions", "checkIndex", "(IILjava/util/function/BiFunction;)I"⟩ prog_36_method_11_code 3 (some .int)) (j := 15) rfl rfl
set_option maxRecDepth 100000 in
theorem gm_cp89 : gm_cwd 89 ∈ gm_T := gm_tq4 (w := Jvm.Cond.code ⟨"java/lang/StringUTF16", "charAt", "([BI)C"⟩ prog_28_method_83_code 2 (some .char)) (j := 18) rfl rfl
set_option maxRecDepth 100000 in
theorem gm_cp90 : gm_cwd 90 ∈ gm_T := gm_tq4 (w := Jvm.Cond.code ⟨"java/lang/StringUTF16", "checkIndex", "(I[B)V"⟩ prog_28_method_91_code 2 none) (j := 21) rfl rfl
set_option maxRecDepth 100000 in
theorem gm_cp91 : gm_cwd 91 ∈ gm_T := gm_tq4 (w := Jvm.Cond.code ⟨"java/lang/StringUTF16", "length", "([B)I"⟩ prog_28_method_6_code 1 (some .int)) (j := 24) rfl rfl
set_option maxRecDepth 100000 in
theorem gm_cp92 : gm_cwd 92 ∈ gm_T := gm_tq4 (w := Jvm.Cond.code ⟨"java/lang/StringUTF16", "getChar", "([BI)C"⟩ prog_28_method_5_code 2 (some .char)) (j := 28) rfl rfl
set_option maxRecDepth 100000 in
theorem gm_cp93 : gm_cwd 93 ∈ gm_T := gm_tq4 (w := Jvm.Cond.code ⟨"GlacierMail$Words", "refuse", "()Z"⟩ prog_12_method_12_code 1 (some .boolean)) (j := 40) rfl rfl
set_option maxRecDepth 100000 in
theorem gm_cp94 : gm_cwd 94 ∈ gm_T := gm_tq4 (w := Jvm.Cond.code ⟨"GlacierMail$Words", "needNumber", "(II)I"⟩ prog_12_method_11_code 4 (some .int)) (j := 45) rfl rfl
set_option maxRecDepth 100000 in
theorem gm_cp95 : gm_cwd 95 ∈ gm_T := gm_tq4 (w := Jvm.Cond.code ⟨"GlacierMail$Words", "takeWord", "(Ljava/lang/String;)Z"⟩ prog_12_method_8_code 3 (some .boolean)) (j := 51) rfl rfl
set_option maxRecDepth 100000 in
theorem gm_cp96 : gm_cwd 96 ∈ gm_T := gm_tq4 (w := Jvm.Cond.code ⟨"GlacierMail$LawReader", "readCondition", "(I)Z"⟩ prog_6_method_7_code 4 (some .boolean)) (j := 56) rfl rfl
set_option maxRecDepth 100000 in
theorem gm_cp97 : gm_cwd 97 ∈ gm_T := gm_tq4 (w := Jvm.Cond.code ⟨"GlacierMail$LawReader", "readAtom", "(I)Z"⟩ prog_6_method_8_code 4 (some .boolean)) (j := 60) rfl rfl
set_option maxRecDepth 100000 in
theorem gm_cp98 : gm_cwd 98 ∈ gm_T := gm_tq4 (w := Jvm.Cond.code ⟨"GlacierMail$Words", "needSign", "(C)Z"⟩ prog_12_method_10_code 2 (some .boolean)) (j := 65) rfl rfl
set_option maxRecDepth 100000 in
theorem gm_cp99 : gm_cwd 99 ∈ gm_T := gm_tq4 (w := Jvm.Cond.code ⟨"GlacierMail$LawReader", "put", "(I)V"⟩ prog_6_method_6_code 2 none) (j := 69) rfl rfl
set_option maxRecDepth 100000 in
theorem gm_cp100 : gm_cwd 100 ∈ gm_T := gm_tq4 (w := Jvm.Cond.code ⟨"GlacierMail$LawReader", "readSum", "()Z"⟩ prog_6_method_9_code 3 (some .boolean)) (j := 75) rfl rfl
set_option maxRecDepth 100000 in
theorem gm_cp101 : gm_cwd 101 ∈ gm_T := gm_tq4 (w := Jvm.Cond.code ⟨"GlacierMail$LawReader", "factCode", "()I"⟩ prog_6_method_10_code 1 (some .int)) (j := 79) rfl rfl
set_option maxRecDepth 100000 in
theorem gm_cp102 : gm_cwd 102 ∈ gm_T := gm_tq4 (w := Jvm.Cond.code ⟨"GlacierMail$Rows", "add", "()I"⟩ prog_7_method_4_code 1 (some .int)) (j := 93) rfl rfl
set_option maxRecDepth 100000 in
theorem gm_cp103 : gm_cwd 103 ∈ gm_T := gm_tq4 (w := Jvm.Cond.code ⟨"GlacierMail$ValleyReader", "readLine", "()Z"⟩ prog_10_method_3_code 1 (some .boolean)) (j := 97) rfl rfl
set_option maxRecDepth 100000 in
theorem gm_cp104 : gm_cwd 104 ∈ gm_T := gm_tq4 (w := Jvm.Cond.code ⟨"GlacierMail$ValleyReader", "readLanes", "()Z"⟩ prog_10_method_4_code 2 (some .boolean)) (j := 103) rfl rfl
set_option maxRecDepth 100000 in
theorem gm_cp105 : gm_cwd 105 ∈ gm_T := gm_tq4 (w := Jvm.Cond.code ⟨"GlacierMail$State", "isEmpty", "()Z"⟩ prog_8_method_3_code 1 (some .boolean)) (j := 107) rfl rfl
set_option maxRecDepth 100000 in
theorem gm_cp106 : gm_cwd 106 ∈ gm_T := gm_tq4 (w := Jvm.Cond.code ⟨"GlacierMail$ValleyReader", "readLast", "()Z"⟩ prog_10_method_5_code 2 (some .boolean)) (j := 116) rfl rfl
set_option maxRecDepth 100000 in
theorem gm_cp107 : gm_cwd 107 ∈ gm_T := gm_tq4 (w := Jvm.Cond.code ⟨"GlacierMail$ValleyReader", "readSection", "()Z"⟩ prog_10_method_6_code 5 (some .boolean)) (j := 121) rfl rfl
set_option maxRecDepth 100000 in
theorem gm_cp108 : gm_cwd 108 ∈ gm_T := gm_tq4 (w := Jvm.Cond.code ⟨"GlacierMail$Rows", "isFull", "()Z"⟩ prog_7_method_3_code 1 (some .boolean)) (j := 125) rfl rfl
set_option maxRecDepth 100000 in
theorem gm_cp109 : gm_cwd 109 ∈ gm_T := gm_tq4 (w := Jvm.Cond.code ⟨"GlacierMail$ValleyReader", "readSpeeds", "(LGlacierMail$Rows;II)Z"⟩ prog_10_method_7_code 6 (some .boolean)) (j := 133) rfl rfl
set_option maxRecDepth 100000 in
theorem gm_cp110 : gm_cwd 110 ∈ gm_T := gm_tq4 (w := Jvm.Cond.code ⟨"GlacierMail$ValleyReader", "readSnow", "()Z"⟩ prog_10_method_8_code 3 (some .boolean)) (j := 138) rfl rfl
set_option maxRecDepth 100000 in
theorem gm_cp111 : gm_cwd 111 ∈ gm_T := gm_tq4 (w := Jvm.Cond.code ⟨"GlacierMail$ValleyReader", "readRow", "()I"⟩ prog_10_method_16_code 1 (some .int)) (j := 142) rfl rfl
set_option maxRecDepth 100000 in
theorem gm_cp112 : gm_cwd 112 ∈ gm_T := gm_tq4 (w := Jvm.Cond.code ⟨"GlacierMail$Words", "needWord", "(Ljava/lang/String;)Z"⟩ prog_12_method_9_code 2 (some .boolean)) (j := 147) rfl rfl
set_option maxRecDepth 100000 in
theorem gm_cp113 : gm_cwd 113 ∈ gm_T := gm_tq4 (w := Jvm.Cond.code ⟨"GlacierMail$ValleyReader", "readStripe", "()Z"⟩ prog_10_method_9_code 2 (some .boolean)) (j := 153) rfl rfl
set_option maxRecDepth 100000 in
theorem gm_cp114 : gm_cwd 114 ∈ gm_T := gm_tq4 (w := Jvm.Cond.code ⟨"GlacierMail$ValleyReader", "readSeed", "()Z"⟩ prog_10_method_10_code 2 (some .boolean)) (j := 158) rfl rfl
set_option maxRecDepth 100000 in
theorem gm_cp115 : gm_cwd 115 ∈ gm_T := gm_tq4 (w := Jvm.Cond.code ⟨"GlacierMail$ValleyReader", "readFlood", "()Z"⟩ prog_10_method_11_code 5 (some .boolean)) (j := 163) rfl rfl
set_option maxRecDepth 100000 in
theorem gm_cp116 : gm_cwd 116 ∈ gm_T := gm_tq4 (w := Jvm.Cond.code ⟨"GlacierMail$ValleyReader", "readPerson", "()Z"⟩ prog_10_method_12_code 5 (some .boolean)) (j := 168) rfl rfl
set_option maxRecDepth 100000 in
theorem gm_cp117 : gm_cwd 117 ∈ gm_T := gm_tq4 (w := Jvm.Cond.code ⟨"GlacierMail$ValleyReader", "readLane", "()I"⟩ prog_10_method_15_code 1 (some .int)) (j := 172) rfl rfl
set_option maxRecDepth 100000 in
theorem gm_cp118 : gm_cwd 118 ∈ gm_T := gm_tq4 (w := Jvm.Cond.code ⟨"GlacierMail$ValleyReader", "readRock", "()Z"⟩ prog_10_method_13_code 3 (some .boolean)) (j := 179) rfl rfl
set_option maxRecDepth 100000 in
theorem gm_cp119 : gm_cwd 119 ∈ gm_T := gm_tq4 (w := Jvm.Cond.code ⟨"GlacierMail$State", "throwIn", "(IIII)I"⟩ prog_8_method_5_code 6 (some .int)) (j := 183) rfl rfl
set_option maxRecDepth 100000 in
theorem gm_cp120 : gm_cwd 120 ∈ gm_T := gm_tq4 (w := Jvm.Cond.code ⟨"GlacierMail$ValleyReader", "readTable", "()Z"⟩ prog_10_method_14_code 1 (some .boolean)) (j := 190) rfl rfl
set_option maxRecDepth 100000 in
theorem gm_cp121 : gm_cwd 121 ∈ gm_T := gm_tq4 (w := Jvm.Cond.code ⟨"GlacierMail$Words", "wrong", "()I"⟩ prog_12_method_3_code 1 (some .int)) (j := 195) rfl rfl
set_option maxRecDepth 100000 in
theorem gm_cp122 : gm_cwd 122 ∈ gm_T := gm_tq5 (w := Jvm.Cond.codeWith ⟨"GlacierMailLaw", "law", "(LGlacierMail;[J)I"⟩ method_4_code 3 (some .int) [(0, 8, 11, 13)]) (j := 44) rfl rfl
set_option maxRecDepth 100000 in
theorem gm_cp123 : gm_cwd 123 ∈ gm_T := gm_tq5 (w := Jvm.Cond.code ⟨"GlacierMail", "law", "()I"⟩ prog_1_method_6_code 1 (some .int)) (j := 48) rfl rfl
set_option maxRecDepth 100000 in
theorem gm_cp124 : gm_cwd 124 ∈ gm_T := gm_tq5 (w := Jvm.Cond.code ⟨"GlacierMail$LawReader", "makeLaw", "()LGlacierMail$Law;"⟩ prog_6_method_3_code 1 (some (.object "GlacierMail$Law"))) (j := 56) rfl rfl
set_option maxRecDepth 100000 in
theorem gm_cp125 : gm_cwd 125 ∈ gm_T := gm_tq5 (w := Jvm.Cond.code ⟨"java/util/Arrays", "copyOf", "([II)[I"⟩ prog_34_method_123_code 3 (some (.array .int))) (j := 60) rfl rfl
set_option maxRecDepth 100000 in
theorem gm_cp126 : gm_cwd 126 ∈ gm_T := gm_tq5 (w := Jvm.Cond.code ⟨"GlacierMail$Law", "<init>", "(LGlacierMail$Rows;[I)V"⟩ prog_5_method_1_code 3 none) (j := 72) rfl rfl
set_option maxRecDepth 100000 in
theorem gm_cp127 : gm_cwd 127 ∈ gm_T := gm_tq5 (w := Jvm.Cond.codeWith ⟨"GlacierMailLaw", "heat", "(LGlacierMail;I[J)I"⟩ method_5_code 4 (some .int) [(0, 9, 12, 13)]) (j := 87) rfl rfl
set_option maxRecDepth 100000 in
theorem gm_cp128 : gm_cwd 128 ∈ gm_T := gm_tq5 (w := Jvm.Cond.code ⟨"GlacierMail", "heat", "(I)I"⟩ prog_1_method_9_code 2 (some .int)) (j := 91) rfl rfl
set_option maxRecDepth 100000 in
theorem gm_cp129 : gm_cwd 129 ∈ gm_T := gm_tq5 (w := Jvm.Cond.code ⟨"GlacierMail", "needYear", "(I)V"⟩ prog_1_method_83_code 2 none) (j := 95) rfl rfl
set_option maxRecDepth 100000 in
theorem gm_cp130 : gm_cwd 130 ∈ gm_T := gm_tq5 (w := Jvm.Cond.codeWith ⟨"GlacierMailLaw", "speed", "(LGlacierMail;II[J)I"⟩ method_6_code 5 (some .int) [(0, 10, 13, 28)]) (j := 100) rfl rfl
set_option maxRecDepth 100000 in
theorem gm_cp131 : gm_cwd 131 ∈ gm_T := gm_tq5 (w := Jvm.Cond.code ⟨"GlacierMail", "speed", "(II)I"⟩ prog_1_method_10_code 3 (some .int)) (j := 105) rfl rfl
set_option maxRecDepth 100000 in
theorem gm_cp132 : gm_cwd 132 ∈ gm_T := gm_tq5 (w := Jvm.Cond.code ⟨"GlacierMail", "needLane", "(I)V"⟩ prog_1_method_78_code 2 none) (j := 109) rfl rfl
set_option maxRecDepth 100000 in
theorem gm_cp133 : gm_cwd 133 ∈ gm_T := gm_tq5 (w := Jvm.Cond.code ⟨"GlacierMail", "need", "(II)V"⟩ prog_1_method_77_code 3 none) (j := 113) rfl rfl
set_option maxRecDepth 100000 in
theorem gm_cp134 : gm_cwd 134 ∈ gm_T := gm_tq5 (w := Jvm.Cond.code ⟨"GlacierMail", "needRow", "(I)V"⟩ prog_1_method_79_code 2 none) (j := 133) rfl rfl
set_option maxRecDepth 100000 in
theorem gm_cp135 : gm_cwd 135 ∈ gm_T := gm_tq5 (w := Jvm.Cond.codeWith ⟨"GlacierMailLaw", "flow", "(LGlacierMail;III[J)I"⟩ method_7_code 6 (some .int) [(0, 12, 15, 28), (0, 12, 19, 13)]) (j := 137) rfl rfl
set_option maxRecDepth 100000 in
theorem gm_cp136 : gm_cwd 136 ∈ gm_T := gm_tq5 (w := Jvm.Cond.code ⟨"GlacierMail", "flow", "(III)I"⟩ prog_1_method_11_code 4 (some .int)) (j := 141) rfl rfl
set_option maxRecDepth 100000 in
theorem gm_cp137 : gm_cwd 137 ∈ gm_T := gm_tq5 (w := Jvm.Cond.codeWith ⟨"GlacierMailLaw", "person", "(LGlacierMail;II[J)I"⟩ method_8_code 5 (some .int) [(0, 10, 13, 28), (0, 10, 17, 37)]) (j := 145) rfl rfl
set_option maxRecDepth 100000 in
theorem gm_cp138 : gm_cwd 138 ∈ gm_T := gm_tq5 (w := Jvm.Cond.code ⟨"GlacierMail", "person", "(II)I"⟩ prog_1_method_12_code 3 (some .int)) (j := 150) rfl rfl
set_option maxRecDepth 100000 in
theorem gm_cp139 : gm_cwd 139 ∈ gm_T := gm_tq5 (w := Jvm.Cond.code ⟨"GlacierMail", "needPerson", "(I)V"⟩ prog_1_method_80_code 2 none) (j := 154) rfl rfl
set_option maxRecDepth 100000 in
theorem gm_cp140 : gm_cwd 140 ∈ gm_T := gm_tq5 (w := Jvm.Cond.code ⟨"GlacierMail", "lettersWith", "(II)I"⟩ prog_1_method_72_code 5 (some .int)) (j := 158) rfl rfl
set_option maxRecDepth 100000 in
theorem gm_cp141 : gm_cwd 141 ∈ gm_T := gm_tq5 (w := Jvm.Cond.codeWith ⟨"GlacierMailLaw", "letter", "(LGlacierMail;II[J)I"⟩ method_9_code 5 (some .int) [(0, 10, 13, 28), (0, 10, 17, 37)]) (j := 177) rfl rfl
set_option maxRecDepth 100000 in
theorem gm_cp142 : gm_cwd 142 ∈ gm_T := gm_tq5 (w := Jvm.Cond.code ⟨"GlacierMail", "letter", "(II)I"⟩ prog_1_method_13_code 3 (some .int)) (j := 181) rfl rfl
set_option maxRecDepth 100000 in
theorem gm_cp143 : gm_cwd 143 ∈ gm_T := gm_tq5 (w := Jvm.Cond.code ⟨"GlacierMail", "needLetter", "(I)V"⟩ prog_1_method_81_code 2 none) (j := 185) rfl rfl
set_option maxRecDepth 100000 in
theorem gm_cp144 : gm_cwd 144 ∈ gm_T := gm_tq5 (w := Jvm.Cond.code ⟨"GlacierMail", "outOf", "(I)I"⟩ prog_1_method_63_code 2 (some .int)) (j := 189) rfl rfl
set_option maxRecDepth 100000 in
theorem gm_cp145 : gm_cwd 145 ∈ gm_T := gm_tq5 (w := Jvm.Cond.code ⟨"GlacierMail", "firstBare", "(I)I"⟩ prog_1_method_64_code 3 (some .int)) (j := 193) rfl rfl
set_option maxRecDepth 100000 in
theorem gm_cp146 : gm_cwd 146 ∈ gm_T := gm_tq5 (w := Jvm.Cond.codeWith ⟨"GlacierMailLaw", "where", "(LGlacierMail;II[J)I"⟩ method_10_code 5 (some .int) [(0, 10, 13, 28), (0, 10, 17, 13)]) (j := 199) rfl rfl
set_option maxRecDepth 100000 in
theorem gm_cp147 : gm_cwd 147 ∈ gm_T := gm_tq5 (w := Jvm.Cond.code ⟨"GlacierMail", "where", "(II)I"⟩ prog_1_method_14_code 3 (some .int)) (j := 203) rfl rfl
set_option maxRecDepth 100000 in
theorem gm_cp148 : gm_cwd 148 ∈ gm_T := gm_tq5 (w := Jvm.Cond.code ⟨"GlacierMail$Way", "goOnTo", "(I)V"⟩ prog_11_method_10_code 3 none) (j := 207) rfl rfl
set_option maxRecDepth 100000 in
theorem gm_cp149 : gm_cwd 149 ∈ gm_T := gm_tq5 (w := Jvm.Cond.codeWith ⟨"GlacierMailLaw", "deep", "(LGlacierMail;II[J)I"⟩ method_11_code 5 (some .int) [(0, 10, 13, 28), (0, 10, 17, 13)]) (j := 211) rfl rfl
set_option maxRecDepth 100000 in
theorem gm_cp150 : gm_cwd 150 ∈ gm_T := gm_tq5 (w := Jvm.Cond.code ⟨"GlacierMail", "deep", "(II)I"⟩ prog_1_method_15_code 3 (some .int)) (j := 215) rfl rfl
set_option maxRecDepth 100000 in
theorem gm_cp151 : gm_cwd 151 ∈ gm_T := gm_tq5 (w := Jvm.Cond.codeWith ⟨"GlacierMailLaw", "post", "(LGlacierMail;II[J)I"⟩ method_12_code 5 (some .int) [(0, 10, 13, 28), (0, 10, 17, 13), (0, 10, 21, 15)]) (j := 218) rfl rfl
set_option maxRecDepth 100000 in
theorem gm_cp152 : gm_cwd 152 ∈ gm_T := gm_tq5 (w := Jvm.Cond.code ⟨"GlacierMail", "post", "(II)I"⟩ prog_1_method_16_code 3 (some .int)) (j := 222) rfl rfl
set_option maxRecDepth 100000 in
theorem gm_cp153 : gm_cwd 153 ∈ gm_T := gm_tq5 (w := Jvm.Cond.code ⟨"GlacierMail", "needUnlike", "(II)V"⟩ prog_1_method_85_code 3 none) (j := 226) rfl rfl
set_option maxRecDepth 100000 in
theorem gm_cp154 : gm_cwd 154 ∈ gm_T := gm_tq5 (w := Jvm.Cond.code ⟨"GlacierMail$History", "remember", "(LGlacierMail$State;)V"⟩ prog_3_method_4_code 3 none) (j := 233) rfl rfl
set_option maxRecDepth 100000 in
theorem gm_cp155 : gm_cwd 155 ∈ gm_T := gm_tq5 (w := Jvm.Cond.codeWith ⟨"GlacierMailLaw", "watch", "(LGlacierMail;II[J)I"⟩ method_13_code 5 (some .int) [(0, 10, 13, 28)]) (j := 238) rfl rfl
set_option maxRecDepth 100000 in
theorem gm_cp156 : gm_cwd 156 ∈ gm_T := gm_tq6 (w := Jvm.Cond.code ⟨"GlacierMail", "watch", "(II)I"⟩ prog_1_method_17_code 4 (some .int)) (j := 2) rfl rfl
set_option maxRecDepth 100000 in
theorem gm_cp157 : gm_cwd 157 ∈ gm_T := gm_tq6 (w := Jvm.Cond.codeWith ⟨"GlacierMailLaw", "open", "(LGlacierMail;I[J)I"⟩ method_14_code 4 (some .int) [(0, 9, 12, 28), (0, 9, 15, 57)]) (j := 5) rfl rfl
set_option maxRecDepth 100000 in
theorem gm_cp158 : gm_cwd 158 ∈ gm_T := gm_tq6 (w := Jvm.Cond.code ⟨"GlacierMail", "open", "(I)I"⟩ prog_1_method_18_code 2 (some .int)) (j := 10) rfl rfl
set_option maxRecDepth 100000 in
theorem gm_cp159 : gm_cwd 159 ∈ gm_T := gm_tq6 (w := Jvm.Cond.code ⟨"GlacierMail$State", "openLetter", "(II)V"⟩ prog_8_method_6_code 4 none) (j := 30) rfl rfl
set_option maxRecDepth 100000 in
theorem gm_cp160 : gm_cwd 160 ∈ gm_T := gm_tq6 (w := Jvm.Cond.codeWith ⟨"GlacierMailLaw", "years", "(LGlacierMail;I[J)I"⟩ method_15_code 4 (some .int) [(0, 9, 12, 13)]) (j := 33) rfl rfl
set_option maxRecDepth 100000 in
theorem gm_cp161 : gm_cwd 161 ∈ gm_T := gm_tq6 (w := Jvm.Cond.code ⟨"GlacierMail", "years", "(I)I"⟩ prog_1_method_19_code 4 (some .int)) (j := 37) rfl rfl
set_option maxRecDepth 100000 in
theorem gm_cp162 : gm_cwd 162 ∈ gm_T := gm_tq6 (w := Jvm.Cond.code ⟨"GlacierMail", "oneYearMore", "()I"⟩ prog_1_method_20_code 4 (some .int)) (j := 42) rfl rfl
set_option maxRecDepth 100000 in
theorem gm_cp163 : gm_cwd 163 ∈ gm_T := gm_tq6 (w := Jvm.Cond.code ⟨"GlacierMail", "openerOf", "(I)I"⟩ prog_1_method_21_code 6 (some .int)) (j := 46) rfl rfl
set_option maxRecDepth 100000 in
theorem gm_cp164 : gm_cwd 164 ∈ gm_T := gm_tq6 (w := Jvm.Cond.code ⟨"GlacierMail$Ice", "mayOpen", "(IIII)Z"⟩ prog_4_method_13_code 5 (some .boolean)) (j := 50) rfl rfl
set_option maxRecDepth 100000 in
theorem gm_cp165 : gm_cwd 165 ∈ gm_T := gm_tq6 (w := Jvm.Cond.code ⟨"GlacierMail$Law", "letsOpen", "([I)Z"⟩ prog_5_method_3_code 4 (some .boolean)) (j := 54) rfl rfl
set_option maxRecDepth 100000 in
theorem gm_cp166 : gm_cwd 166 ∈ gm_T := gm_tq6 (w := Jvm.Cond.codeWith ⟨"GlacierMailLaw", "throwsFor", "(LGlacierMail;IIII[J)I"⟩ method_16_code 7 (some .int) [(0, 14, 17, 28), (0, 14, 21, 13), (0, 14, 25, 37)]) (j := 57) rfl rfl
set_option maxRecDepth 100000 in
theorem gm_cp167 : gm_cwd 167 ∈ gm_T := gm_tq6 (w := Jvm.Cond.code ⟨"GlacierMail", "throwsFor", "(IIII)I"⟩ prog_1_method_22_code 9 (some .int)) (j := 61) rfl rfl
set_option maxRecDepth 100000 in
theorem gm_cp168 : gm_cwd 168 ∈ gm_T := gm_tq6 (w := Jvm.Cond.codeWith ⟨"GlacierMailLaw", "latest", "(LGlacierMail;II[J)I"⟩ method_17_code 5 (some .int) [(0, 10, 13, 28), (0, 10, 17, 13)]) (j := 67) rfl rfl
set_option maxRecDepth 100000 in
theorem gm_cp169 : gm_cwd 169 ∈ gm_T := gm_tq6 (w := Jvm.Cond.code ⟨"GlacierMail", "latest", "(II)I"⟩ prog_1_method_23_code 4 (some .int)) (j := 71) rfl rfl
set_option maxRecDepth 100000 in
theorem gm_cp170 : gm_cwd 170 ∈ gm_T := gm_tq6 (w := Jvm.Cond.code ⟨"GlacierMail$Way", "startHut", "(II)V"⟩ prog_11_method_4_code 3 none) (j := 75) rfl rfl
set_option maxRecDepth 100000 in
theorem gm_cp171 : gm_cwd 171 ∈ gm_T := gm_tq6 (w := Jvm.Cond.codeWith ⟨"GlacierMailLaw", "hut", "(LGlacierMail;II[J)I"⟩ method_18_code 5 (some .int) [(0, 10, 13, 28), (0, 10, 17, 13)]) (j := 78) rfl rfl
set_option maxRecDepth 100000 in
theorem gm_cp172 : gm_cwd 172 ∈ gm_T := gm_tq6 (w := Jvm.Cond.code ⟨"GlacierMail", "hut", "(II)I"⟩ prog_1_method_24_code 5 (some .int)) (j := 82) rfl rfl
set_option maxRecDepth 100000 in
theorem gm_cp173 : gm_cwd 173 ∈ gm_T := gm_tq6 (w := Jvm.Cond.codeWith ⟨"GlacierMailLaw", "without", "(LGlacierMail;II[J)I"⟩ method_19_code 5 (some .int) [(0, 10, 13, 28)]) (j := 86) rfl rfl
set_option maxRecDepth 100000 in
theorem gm_cp174 : gm_cwd 174 ∈ gm_T := gm_tq6 (w := Jvm.Cond.code ⟨"GlacierMail", "without", "(II)I"⟩ prog_1_method_25_code 3 (some .int)) (j := 90) rfl rfl
set_option maxRecDepth 100000 in
theorem gm_cp175 : gm_cwd 175 ∈ gm_T := gm_tq6 (w := Jvm.Cond.code ⟨"GlacierMail$Way", "leaveOut", "(I)V"⟩ prog_11_method_5_code 2 none) (j := 94) rfl rfl
set_option maxRecDepth 100000 in
theorem gm_cp176 : gm_cwd 176 ∈ gm_T := gm_tq6 (w := Jvm.Cond.codeWith ⟨"GlacierMailLaw", "moved", "(LGlacierMail;I[J)I"⟩ method_20_code 4 (some .int) [(0, 9, 12, 28)]) (j := 97) rfl rfl
set_option maxRecDepth 100000 in
theorem gm_cp177 : gm_cwd 177 ∈ gm_T := gm_tq6 (w := Jvm.Cond.code ⟨"GlacierMail", "moved", "(I)I"⟩ prog_1_method_26_code 2 (some .int)) (j := 101) rfl rfl
set_option maxRecDepth 100000 in
theorem gm_cp178 : gm_cwd 178 ∈ gm_T := gm_tq6 (w := Jvm.Cond.codeWith ⟨"GlacierMailLaw", "passes", "(LGlacierMail;I[J)I"⟩ method_21_code 4 (some .int) [(0, 9, 12, 28)]) (j := 104) rfl rfl
set_option maxRecDepth 100000 in
theorem gm_cp179 : gm_cwd 179 ∈ gm_T := gm_tq6 (w := Jvm.Cond.code ⟨"GlacierMail", "passes", "(I)I"⟩ prog_1_method_29_code 4 (some .int)) (j := 108) rfl rfl
set_option maxRecDepth 100000 in
theorem gm_cp180 : gm_cwd 180 ∈ gm_T := gm_tq6 (w := Jvm.Cond.code ⟨"GlacierMail", "sameLane", "(II)Z"⟩ prog_1_method_73_code 3 (some .boolean)) (j := 112) rfl rfl
set_option maxRecDepth 100000 in
theorem gm_cp181 : gm_cwd 181 ∈ gm_T := gm_tq6 (w := Jvm.Cond.code ⟨"GlacierMail", "passesBy", "(II)Z"⟩ prog_1_method_30_code 5 (some .boolean)) (j := 116) rfl rfl
set_option maxRecDepth 100000 in
theorem gm_cp182 : gm_cwd 182 ∈ gm_T := gm_tq6 (w := Jvm.Cond.code ⟨"GlacierMail", "startBoth", "(III)I"⟩ prog_1_method_74_code 5 (some .int)) (j := 120) rfl rfl
set_option maxRecDepth 100000 in
theorem gm_cp183 : gm_cwd 183 ∈ gm_T := gm_tq6 (w := Jvm.Cond.code ⟨"GlacierMail", "bothInIce", "()Z"⟩ prog_1_method_76_code 1 (some .boolean)) (j := 125) rfl rfl
set_option maxRecDepth 100000 in
theorem gm_cp184 : gm_cwd 184 ∈ gm_T := gm_tq6 (w := Jvm.Cond.code ⟨"GlacierMail", "stepBoth", "()V"⟩ prog_1_method_75_code 1 none) (j := 129) rfl rfl
set_option maxRecDepth 100000 in
theorem gm_cp185 : gm_cwd 185 ∈ gm_T := gm_tq6 (w := Jvm.Cond.codeWith ⟨"GlacierMailLaw", "writers", "(LGlacierMail;III[J)I"⟩ method_22_code 6 (some .int) [(0, 12, 15, 28), (0, 12, 19, 13)]) (j := 132) rfl rfl
set_option maxRecDepth 100000 in
theorem gm_cp186 : gm_cwd 186 ∈ gm_T := gm_tq6 (w := Jvm.Cond.code ⟨"GlacierMail", "writers", "(III)I"⟩ prog_1_method_31_code 6 (some .int)) (j := 136) rfl rfl
set_option maxRecDepth 100000 in
theorem gm_cp187 : gm_cwd 187 ∈ gm_T := gm_tq6 (w := Jvm.Cond.code ⟨"GlacierMail", "needFind", "(II)V"⟩ prog_1_method_84_code 3 none) (j := 140) rfl rfl
set_option maxRecDepth 100000 in
theorem gm_cp188 : gm_cwd 188 ∈ gm_T := gm_tq6 (w := Jvm.Cond.code ⟨"GlacierMail", "latestWriting", "(IIII)I"⟩ prog_1_method_33_code 6 (some .int)) (j := 145) rfl rfl
set_option maxRecDepth 100000 in
theorem gm_cp189 : gm_cwd 189 ∈ gm_T := gm_tq6 (w := Jvm.Cond.codeWith ⟨"GlacierMailLaw", "wrote", "(LGlacierMail;IIII[J)I"⟩ method_23_code 7 (some .int) [(0, 14, 17, 28), (0, 14, 21, 13)]) (j := 148) rfl rfl
set_option maxRecDepth 100000 in
theorem gm_cp190 : gm_cwd 190 ∈ gm_T := gm_tq6 (w := Jvm.Cond.code ⟨"GlacierMail", "wrote", "(IIII)I"⟩ prog_1_method_32_code 5 (some .int)) (j := 152) rfl rfl
set_option maxRecDepth 100000 in
theorem gm_cp191 : gm_cwd 191 ∈ gm_T := gm_tq6 (w := Jvm.Cond.codeWith ⟨"GlacierMailLaw", "table", "(LGlacierMail;II[J)I"⟩ method_24_code 5 (some .int) [(0, 10, 13, 28)]) (j := 155) rfl rfl
set_option maxRecDepth 100000 in
theorem gm_cp192 : gm_cwd 192 ∈ gm_T := gm_tq6 (w := Jvm.Cond.code ⟨"GlacierMail", "table", "(II)I"⟩ prog_1_method_34_code 3 (some .int)) (j := 159) rfl rfl
set_option maxRecDepth 100000 in
theorem gm_cp193 : gm_cwd 193 ∈ gm_T := gm_tq6 (w := Jvm.Cond.code ⟨"GlacierMail", "needTable", "(I)V"⟩ prog_1_method_82_code 2 none) (j := 163) rfl rfl
set_option maxRecDepth 100000 in
theorem gm_cp194 : gm_cwd 194 ∈ gm_T := gm_tq6 (w := Jvm.Cond.codeWith ⟨"GlacierMailLaw", "apart", "(LGlacierMail;III[J)I"⟩ method_25_code 6 (some .int) [(0, 19, 22, 28)]) (j := 166) rfl rfl
set_option maxRecDepth 100000 in
theorem gm_cp195 : gm_cwd 195 ∈ gm_T := gm_tq6 (w := Jvm.Cond.code ⟨"GlacierMail", "apart", "(III)Z"⟩ prog_1_method_35_code 4 (some .boolean)) (j := 170) rfl rfl
set_option maxRecDepth 100000 in
theorem gm_cp196 : gm_cwd 196 ∈ gm_T := gm_tq6 (w := Jvm.Cond.codeWith ⟨"GlacierMailLaw", "fit", "(LGlacierMail;[J)I"⟩ method_26_code 3 (some .int) [(0, 8, 11, 13)]) (j := 173) rfl rfl
set_option maxRecDepth 100000 in
theorem gm_cp197 : gm_cwd 197 ∈ gm_T := gm_tq6 (w := Jvm.Cond.code ⟨"GlacierMail", "fit", "()I"⟩ prog_1_method_39_code 4 (some .int)) (j := 177) rfl rfl
set_option maxRecDepth 100000 in
theorem gm_cp198 : gm_cwd 198 ∈ gm_T := gm_tq6 (w := Jvm.Cond.code ⟨"GlacierMail", "areReadings", "(I)Z"⟩ prog_1_method_40_code 5 (some .boolean)) (j := 181) rfl rfl
set_option maxRecDepth 100000 in
theorem gm_cp199 : gm_cwd 199 ∈ gm_T := gm_tq6 (w := Jvm.Cond.code ⟨"GlacierMail", "fitsReadings", "(II)Z"⟩ prog_1_method_41_code 4 (some .boolean)) (j := 186) rfl rfl
set_option maxRecDepth 100000 in
theorem gm_cp200 : gm_cwd 200 ∈ gm_T := gm_tq6 (w := Jvm.Cond.codeWith ⟨"GlacierMailLaw", "soonest", "(LGlacierMail;IIZ[J)I"⟩ method_27_code 6 (some .int) [(0, 12, 15, 28), (0, 12, 19, 13)]) (j := 189) rfl rfl
set_option maxRecDepth 100000 in
theorem gm_cp201 : gm_cwd 201 ∈ gm_T := gm_tq6 (w := Jvm.Cond.code ⟨"GlacierMail", "soonest", "(IIZ)I"⟩ prog_1_method_42_code 5 (some .int)) (j := 193) rfl rfl
set_option maxRecDepth 100000 in
theorem gm_cp202 : gm_cwd 202 ∈ gm_T := gm_tq6 (w := Jvm.Cond.code ⟨"GlacierMail$Answers", "spread", "(III)V"⟩ prog_2_method_2_code 7 none) (j := 197) rfl rfl
set_option maxRecDepth 100000 in
theorem gm_cp203 : gm_cwd 203 ∈ gm_T := gm_tq6 (w := Jvm.Cond.code ⟨"GlacierMail$Answers", "throwAgain", "(IIII)V"⟩ prog_2_method_3_code 10 none) (j := 203) rfl rfl
set_option maxRecDepth 100000 in
theorem gm_cp204 : gm_cwd 204 ∈ gm_T := gm_tq6 (w := Jvm.Cond.code ⟨"GlacierMail$Answers", "firstYear", "(I)I"⟩ prog_2_method_4_code 3 (some .int)) (j := 212) rfl rfl
set_option maxRecDepth 100000 in
theorem gm_cp205 : gm_cwd 205 ∈ gm_T := gm_tq6 (w := Jvm.Cond.code ⟨"GlacierMail$Answers", "fewestThrows", "(II)I"⟩ prog_2_method_5_code 3 (some .int)) (j := 216) rfl rfl
set_option maxRecDepth 100000 in
theorem gm_cp206 : gm_cwd 206 ∈ gm_T := gm_tq6 (w := Jvm.Cond.codeWith ⟨"GlacierMailLaw", "chain", "(LGlacierMail;III[J)I"⟩ method_28_code 6 (some .int) [(0, 12, 15, 28), (0, 12, 19, 13)]) (j := 219) rfl rfl
set_option maxRecDepth 100000 in
theorem gm_cp207 : gm_cwd 207 ∈ gm_T := gm_tq6 (w := Jvm.Cond.code ⟨"GlacierMail", "chain", "(III)I"⟩ prog_1_method_43_code 4 (some .int)) (j := 223) rfl rfl
set_option maxRecDepth 100000 in
theorem gm_cp208 : gm_cwd 208 ∈ gm_T := gm_tq6 (w := Jvm.Cond.code ⟨"GlacierMail$Answers", "holder", "(III)I"⟩ prog_2_method_6_code 9 (some .int)) (j := 228) rfl rfl
set_option maxRecDepth 100000 in
theorem gm_cp209 : gm_cwd 209 ∈ gm_T := gm_tq6 (w := Jvm.Cond.code ⟨"GlacierMail$Answers", "throwAhead", "(III)I"⟩ prog_2_method_7_code 7 (some .int)) (j := 233) rfl rfl
set_option maxRecDepth 100000 in
theorem gm_cp210 : gm_cwd 210 ∈ gm_T := gm_tq6 (w := Jvm.Cond.codeWith ⟨"GlacierMailLaw", "reached", "(LGlacierMail;II[J)I"⟩ method_29_code 5 (some .int) [(0, 10, 13, 28), (0, 10, 17, 13)]) (j := 236) rfl rfl
set_option maxRecDepth 100000 in
theorem gm_cp211 : gm_cwd 211 ∈ gm_T := gm_tq7 (w := Jvm.Cond.code ⟨"GlacierMail", "reached", "(II)I"⟩ prog_1_method_44_code 5 (some .int)) (j := 0) rfl rfl
set_option maxRecDepth 100000 in
theorem gm_cp212 : gm_cwd 212 ∈ gm_T := gm_tq7 (w := Jvm.Cond.codeWith ⟨"GlacierMailLaw", "thieves", "(LGlacierMail;IZ[J)I"⟩ method_30_code 5 (some .int) [(0, 10, 13, 13)]) (j := 3) rfl rfl
set_option maxRecDepth 100000 in
theorem gm_cp213 : gm_cwd 213 ∈ gm_T := gm_tq7 (w := Jvm.Cond.code ⟨"GlacierMail", "thieves", "(IZ)I"⟩ prog_1_method_45_code 5 (some .int)) (j := 7) rfl rfl
set_option maxRecDepth 100000 in
theorem gm_cp214 : gm_cwd 214 ∈ gm_T := gm_tq7 (w := Jvm.Cond.code ⟨"GlacierMail", "needThiefYears", "(I)V"⟩ prog_1_method_86_code 2 none) (j := 11) rfl rfl
set_option maxRecDepth 100000 in
theorem gm_cp215 : gm_cwd 215 ∈ gm_T := gm_tq7 (w := Jvm.Cond.code ⟨"GlacierMail", "reckonCame", "(I)V"⟩ prog_1_method_67_code 5 none) (j := 15) rfl rfl
set_option maxRecDepth 100000 in
theorem gm_cp216 : gm_cwd 216 ∈ gm_T := gm_tq7 (w := Jvm.Cond.code ⟨"GlacierMail", "bestNext", "(II)I"⟩ prog_1_method_46_code 4 (some .int)) (j := 19) rfl rfl
set_option maxRecDepth 100000 in
theorem gm_cp217 : gm_cwd 217 ∈ gm_T := gm_tq7 (w := Jvm.Cond.codeWith ⟨"GlacierMailLaw", "watchman", "(LGlacierMail;IZ[J)I"⟩ method_31_code 5 (some .int) [(0, 10, 13, 13)]) (j := 22) rfl rfl
set_option maxRecDepth 100000 in
theorem gm_cp218 : gm_cwd 218 ∈ gm_T := gm_tq7 (w := Jvm.Cond.code ⟨"GlacierMail", "watchman", "(IZ)I"⟩ prog_1_method_47_code 5 (some .int)) (j := 26) rfl rfl
set_option maxRecDepth 100000 in
theorem gm_cp219 : gm_cwd 219 ∈ gm_T := gm_tq7 (w := Jvm.Cond.code ⟨"GlacierMail", "mostBeside", "(II)I"⟩ prog_1_method_48_code 7 (some .int)) (j := 30) rfl rfl
set_option maxRecDepth 100000 in
theorem gm_cp220 : gm_cwd 220 ∈ gm_T := gm_tq7 (w := Jvm.Cond.codeWith ⟨"GlacierMailLaw", "meeting", "(LGlacierMail;II[J)I"⟩ method_32_code 5 (some .int) [(0, 10, 13, 28), (0, 10, 17, 13)]) (j := 33) rfl rfl
set_option maxRecDepth 100000 in
theorem gm_cp221 : gm_cwd 221 ∈ gm_T := gm_tq7 (w := Jvm.Cond.code ⟨"GlacierMail", "meeting", "(II)I"⟩ prog_1_method_49_code 5 (some .int)) (j := 37) rfl rfl
set_option maxRecDepth 100000 in
theorem gm_cp222 : gm_cwd 222 ∈ gm_T := gm_tq7 (w := Jvm.Cond.codeWith ⟨"GlacierMailLaw", "outs", "(LGlacierMail;I[J)I"⟩ method_33_code 4 (some .int) [(0, 9, 12, 13)]) (j := 40) rfl rfl
set_option maxRecDepth 100000 in
theorem gm_cp223 : gm_cwd 223 ∈ gm_T := gm_tq7 (w := Jvm.Cond.code ⟨"GlacierMail", "outs", "(I)I"⟩ prog_1_method_50_code 2 (some .int)) (j := 44) rfl rfl
set_option maxRecDepth 100000 in
theorem gm_cp224 : gm_cwd 224 ∈ gm_T := gm_tq7 (w := Jvm.Cond.codeWith ⟨"GlacierMailLaw", "streams", "(LGlacierMail;IZ[J)I"⟩ method_34_code 5 (some .int) [(0, 10, 13, 13)]) (j := 47) rfl rfl
set_option maxRecDepth 100000 in
theorem gm_cp225 : gm_cwd 225 ∈ gm_T := gm_tq7 (w := Jvm.Cond.code ⟨"GlacierMail", "streams", "(IZ)I"⟩ prog_1_method_53_code 6 (some .int)) (j := 51) rfl rfl
set_option maxRecDepth 100000 in
theorem gm_cp226 : gm_cwd 226 ∈ gm_T := gm_tq7 (w := Jvm.Cond.codeWith ⟨"GlacierMailLaw", "range", "(LGlacierMail;II[J)I"⟩ method_35_code 5 (some .int) [(0, 10, 13, 28), (0, 10, 17, 13)]) (j := 54) rfl rfl
set_option maxRecDepth 100000 in
theorem gm_cp227 : gm_cwd 227 ∈ gm_T := gm_tq7 (w := Jvm.Cond.code ⟨"GlacierMail", "range", "(II)I"⟩ prog_1_method_54_code 4 (some .int)) (j := 58) rfl rfl
set_option maxRecDepth 100000 in
theorem gm_cp228 : gm_cwd 228 ∈ gm_T := gm_tq7 (w := Jvm.Cond.codeWith ⟨"GlacierMailLaw", "swiftest", "(LGlacierMail;II[J)I"⟩ method_36_code 5 (some .int) [(0, 10, 13, 28), (0, 10, 17, 13)]) (j := 61) rfl rfl
set_option maxRecDepth 100000 in
theorem gm_cp229 : gm_cwd 229 ∈ gm_T := gm_tq7 (w := Jvm.Cond.code ⟨"GlacierMail", "swiftest", "(II)I"⟩ prog_1_method_55_code 7 (some .int)) (j := 65) rfl rfl
set_option maxRecDepth 100000 in
theorem gm_cp230 : gm_cwd 230 ∈ gm_T := gm_tq7 (w := Jvm.Cond.codeWith ⟨"GlacierMailLaw", "bare", "(LGlacierMail;I[J)I"⟩ method_37_code 4 (some .int) [(0, 9, 12, 13)]) (j := 68) rfl rfl
set_option maxRecDepth 100000 in
theorem gm_cp231 : gm_cwd 231 ∈ gm_T := gm_tq7 (w := Jvm.Cond.code ⟨"GlacierMail", "bare", "(I)I"⟩ prog_1_method_56_code 4 (some .int)) (j := 72) rfl rfl
set_option maxRecDepth 100000 in
theorem gm_cp232 : gm_cwd 232 ∈ gm_T := gm_tq7 (w := Jvm.Cond.codeWith ⟨"GlacierMailLaw", "log", "(LGlacierMail;II[J)I"⟩ method_38_code 5 (some .int) [(0, 10, 13, 37)]) (j := 75) rfl rfl
set_option maxRecDepth 100000 in
theorem gm_cp233 : gm_cwd 233 ∈ gm_T := gm_tq7 (w := Jvm.Cond.code ⟨"GlacierMail", "log", "(II)I"⟩ prog_1_method_57_code 3 (some .int)) (j := 79) rfl rfl
set_option maxRecDepth 100000 in
theorem gm_cp234 : gm_cwd 234 ∈ gm_T := gm_tq7 (w := Jvm.Cond.code ⟨"GlacierMailModel", "<init>", "()V"⟩ prog_14_method_5_code 1 none) (j := 85) rfl rfl
set_option maxRecDepth 100000 in
theorem gm_cp235 : gm_cwd 235 ∈ gm_T := gm_tq7 (w := Jvm.Cond.code ⟨"GlacierMailModel", "warms", "()V"⟩ prog_14_method_65_code 3 none) (j := 90) rfl rfl
set_option maxRecDepth 100000 in
theorem gm_cp236 : gm_cwd 236 ∈ gm_T := gm_tq7 (w := Jvm.Cond.code ⟨"GlacierMailModel", "image", "()V"⟩ prog_14_method_6_code 2 none) (j := 213) rfl rfl
set_option maxRecDepth 100000 in
theorem gm_cp237 : gm_cwd 237 ∈ gm_T := gm_tq7 (w := Jvm.Cond.code ⟨"GlacierMailModel", "back", "()Z"⟩ prog_14_method_7_code 2 (some .boolean)) (j := 217) rfl rfl
set_option maxRecDepth 100000 in
theorem gm_cp238 : gm_cwd 238 ∈ gm_T := gm_tq7 (w := Jvm.Cond.code ⟨"GlacierMailModel", "undo", "()Z"⟩ prog_14_method_9_code 2 (some .boolean)) (j := 221) rfl rfl
set_option maxRecDepth 100000 in
theorem gm_cp239 : gm_cwd 239 ∈ gm_T := gm_tq7 (w := Jvm.Cond.code ⟨"GlacierMailModel", "feed", "(IIIII)I"⟩ prog_14_method_24_code 7 (some .int)) (j := 225) rfl rfl
set_option maxRecDepth 100000 in
theorem gm_cp240 : gm_cwd 240 ∈ gm_T := gm_tq7 (w := Jvm.Cond.code ⟨"GlacierMailModel", "end", "(I)Z"⟩ prog_14_method_25_code 2 (some .boolean)) (j := 229) rfl rfl
set_option maxRecDepth 100000 in
theorem gm_cp241 : gm_cwd 241 ∈ gm_T := gm_tq7 (w := Jvm.Cond.code ⟨"GlacierMailModel", "fault", "()I"⟩ prog_14_method_35_code 1 (some .int)) (j := 233) rfl rfl
set_option maxRecDepth 100000 in
theorem gm_cp242 : gm_cwd 242 ∈ gm_T := gm_tq7 (w := Jvm.Cond.code ⟨"GlacierMailModel", "valley", "()I"⟩ prog_14_method_60_code 3 (some .int)) (j := 237) rfl rfl
set_option maxRecDepth 100000 in
theorem gm_cp243 : gm_cwd 243 ∈ gm_T := gm_tq8 (w := Jvm.Cond.code ⟨"GlacierMailModel", "readAll", "(Z)I"⟩ prog_14_method_59_code 3 (some .int)) (j := 1) rfl rfl
set_option maxRecDepth 100000 in
theorem gm_cp244 : gm_cwd 244 ∈ gm_T := gm_tq8 (w := Jvm.Cond.code ⟨"GlacierMailModel", "uses", "()V"⟩ prog_14_method_36_code 1 none) (j := 5) rfl rfl
set_option maxRecDepth 100000 in
theorem gm_cp245 : gm_cwd 245 ∈ gm_T := gm_tq8 (w := Jvm.Cond.code ⟨"GlacierMailModel", "blanks", "()V"⟩ prog_14_method_27_code 1 none) (j := 9) rfl rfl
set_option maxRecDepth 100000 in
theorem gm_cp246 : gm_cwd 246 ∈ gm_T := gm_tq8 (w := Jvm.Cond.code ⟨"GlacierMailModel", "isAt", "(II)Z"⟩ prog_14_method_26_code 3 (some .boolean)) (j := 13) rfl rfl
set_option maxRecDepth 100000 in
theorem gm_cp247 : gm_cwd 247 ∈ gm_T := gm_tq8 (w := Jvm.Cond.code ⟨"GlacierMailModel", "readLine", "(ZI)Z"⟩ prog_14_method_58_code 3 (some .boolean)) (j := 17) rfl rfl
set_option maxRecDepth 100000 in
theorem gm_cp248 : gm_cwd 248 ∈ gm_T := gm_tq8 (w := Jvm.Cond.code ⟨"GlacierMailModel", "letterRow", "()V"⟩ prog_14_method_28_code 1 none) (j := 21) rfl rfl
set_option maxRecDepth 100000 in
theorem gm_cp249 : gm_cwd 249 ∈ gm_T := gm_tq8 (w := Jvm.Cond.code ⟨"GlacierMailModel", "readValleyLine", "()Z"⟩ prog_14_method_50_code 3 (some .boolean)) (j := 25) rfl rfl
set_option maxRecDepth 100000 in
theorem gm_cp250 : gm_cwd 250 ∈ gm_T := gm_tq8 (w := Jvm.Cond.code ⟨"GlacierMailModel", "isWord", "(Ljava/lang/String;)Z"⟩ prog_14_method_29_code 4 (some .boolean)) (j := 30) rfl rfl
set_option maxRecDepth 100000 in
theorem gm_cp251 : gm_cwd 251 ∈ gm_T := gm_tq8 (w := Jvm.Cond.code ⟨"GlacierMailModel", "readLanes", "()Z"⟩ prog_14_method_40_code 2 (some .boolean)) (j := 36) rfl rfl
set_option maxRecDepth 100000 in
theorem gm_cp252 : gm_cwd 252 ∈ gm_T := gm_tq8 (w := Jvm.Cond.code ⟨"GlacierMailModel", "isEmpty", "()Z"⟩ prog_14_method_39_code 1 (some .boolean)) (j := 40) rfl rfl
set_option maxRecDepth 100000 in
theorem gm_cp253 : gm_cwd 253 ∈ gm_T := gm_tq8 (w := Jvm.Cond.code ⟨"GlacierMailModel", "people", "()I"⟩ prog_14_method_12_code 1 (some .int)) (j := 44) rfl rfl
set_option maxRecDepth 100000 in
theorem gm_cp254 : gm_cwd 254 ∈ gm_T := gm_tq8 (w := Jvm.Cond.code ⟨"GlacierMailModel", "letters", "()I"⟩ prog_14_method_13_code 1 (some .int)) (j := 48) rfl rfl
set_option maxRecDepth 100000 in
theorem gm_cp255 : gm_cwd 255 ∈ gm_T := gm_tq8 (w := Jvm.Cond.code ⟨"GlacierMailModel", "number", "(II)I"⟩ prog_14_method_33_code 3 (some .int)) (j := 52) rfl rfl
set_option maxRecDepth 100000 in
theorem gm_cp256 : gm_cwd 256 ∈ gm_T := gm_tq8 (w := Jvm.Cond.code ⟨"GlacierMailModel", "figures", "(III)I"⟩ prog_14_method_32_code 5 (some .int)) (j := 56) rfl rfl
set_option maxRecDepth 100000 in
theorem gm_cp257 : gm_cwd 257 ∈ gm_T := gm_tq8 (w := Jvm.Cond.code ⟨"GlacierMailModel", "readLast", "()Z"⟩ prog_14_method_41_code 2 (some .boolean)) (j := 61) rfl rfl
set_option maxRecDepth 100000 in
theorem gm_cp258 : gm_cwd 258 ∈ gm_T := gm_tq8 (w := Jvm.Cond.code ⟨"GlacierMailModel", "readSection", "()Z"⟩ prog_14_method_43_code 4 (some .boolean)) (j := 66) rfl rfl
set_option maxRecDepth 100000 in
theorem gm_cp259 : gm_cwd 259 ∈ gm_T := gm_tq8 (w := Jvm.Cond.code ⟨"GlacierMailModel", "lip", "()I"⟩ prog_14_method_11_code 1 (some .int)) (j := 70) rfl rfl
set_option maxRecDepth 100000 in
theorem gm_cp260 : gm_cwd 260 ∈ gm_T := gm_tq8 (w := Jvm.Cond.code ⟨"GlacierMailModel", "readSpeeds", "(I)Z"⟩ prog_14_method_42_code 4 (some .boolean)) (j := 74) rfl rfl
set_option maxRecDepth 100000 in
theorem gm_cp261 : gm_cwd 261 ∈ gm_T := gm_tq8 (w := Jvm.Cond.code ⟨"GlacierMailModel", "lanes", "()I"⟩ prog_14_method_10_code 1 (some .int)) (j := 78) rfl rfl
set_option maxRecDepth 100000 in
theorem gm_cp262 : gm_cwd 262 ∈ gm_T := gm_tq8 (w := Jvm.Cond.code ⟨"GlacierMailModel", "readSnow", "()Z"⟩ prog_14_method_44_code 3 (some .boolean)) (j := 83) rfl rfl
set_option maxRecDepth 100000 in
theorem gm_cp263 : gm_cwd 263 ∈ gm_T := gm_tq8 (w := Jvm.Cond.code ⟨"GlacierMailModel", "rowTold", "()I"⟩ prog_14_method_38_code 1 (some .int)) (j := 87) rfl rfl
set_option maxRecDepth 100000 in
theorem gm_cp264 : gm_cwd 264 ∈ gm_T := gm_tq8 (w := Jvm.Cond.code ⟨"GlacierMailModel", "after", "(Ljava/lang/String;II)I"⟩ prog_14_method_34_code 4 (some .int)) (j := 92) rfl rfl
set_option maxRecDepth 100000 in
theorem gm_cp265 : gm_cwd 265 ∈ gm_T := gm_tq8 (w := Jvm.Cond.code ⟨"GlacierMailModel", "readFlood", "()Z"⟩ prog_14_method_45_code 5 (some .boolean)) (j := 97) rfl rfl
set_option maxRecDepth 100000 in
theorem gm_cp266 : gm_cwd 266 ∈ gm_T := gm_tq8 (w := Jvm.Cond.code ⟨"GlacierMailModel", "now", "()I"⟩ prog_14_method_14_code 1 (some .int)) (j := 101) rfl rfl
set_option maxRecDepth 100000 in
theorem gm_cp267 : gm_cwd 267 ∈ gm_T := gm_tq8 (w := Jvm.Cond.code ⟨"GlacierMailModel", "readPerson", "()Z"⟩ prog_14_method_46_code 5 (some .boolean)) (j := 106) rfl rfl
set_option maxRecDepth 100000 in
theorem gm_cp268 : gm_cwd 268 ∈ gm_T := gm_tq8 (w := Jvm.Cond.code ⟨"GlacierMailModel", "laneTold", "()I"⟩ prog_14_method_37_code 1 (some .int)) (j := 110) rfl rfl
set_option maxRecDepth 100000 in
theorem gm_cp269 : gm_cwd 269 ∈ gm_T := gm_tq8 (w := Jvm.Cond.code ⟨"GlacierMailModel", "isNext", "(Ljava/lang/String;)Z"⟩ prog_14_method_30_code 2 (some .boolean)) (j := 115) rfl rfl
set_option maxRecDepth 100000 in
theorem gm_cp270 : gm_cwd 270 ∈ gm_T := gm_tq8 (w := Jvm.Cond.code ⟨"GlacierMailModel", "readRock", "()Z"⟩ prog_14_method_48_code 3 (some .boolean)) (j := 120) rfl rfl
set_option maxRecDepth 100000 in
theorem gm_cp271 : gm_cwd 271 ∈ gm_T := gm_tq8 (w := Jvm.Cond.code ⟨"GlacierMailModel", "throwsIn", "(IIII)V"⟩ prog_14_method_47_code 6 none) (j := 124) rfl rfl
set_option maxRecDepth 100000 in
theorem gm_cp272 : gm_cwd 272 ∈ gm_T := gm_tq8 (w := Jvm.Cond.code ⟨"GlacierMailModel", "setsLetter", "(III)V"⟩ prog_14_method_17_code 4 none) (j := 128) rfl rfl
set_option maxRecDepth 100000 in
theorem gm_cp273 : gm_cwd 273 ∈ gm_T := gm_tq8 (w := Jvm.Cond.code ⟨"GlacierMailModel", "readTable", "()Z"⟩ prog_14_method_49_code 2 (some .boolean)) (j := 133) rfl rfl
set_option maxRecDepth 100000 in
theorem gm_cp274 : gm_cwd 274 ∈ gm_T := gm_tq8 (w := Jvm.Cond.code ⟨"GlacierMailModel", "readLawLine", "(I)Z"⟩ prog_14_method_57_code 3 (some .boolean)) (j := 139) rfl rfl
set_option maxRecDepth 100000 in
theorem gm_cp275 : gm_cwd 275 ∈ gm_T := gm_tq8 (w := Jvm.Cond.code ⟨"GlacierMailModel", "readCond", "()Z"⟩ prog_14_method_56_code 1 (some .boolean)) (j := 147) rfl rfl
set_option maxRecDepth 100000 in
theorem gm_cp276 : gm_cwd 276 ∈ gm_T := gm_tq8 (w := Jvm.Cond.code ⟨"GlacierMailModel", "readAllOf", "()Z"⟩ prog_14_method_55_code 1 (some .boolean)) (j := 151) rfl rfl
set_option maxRecDepth 100000 in
theorem gm_cp277 : gm_cwd 277 ∈ gm_T := gm_tq8 (w := Jvm.Cond.code ⟨"GlacierMailModel", "readAtom", "()Z"⟩ prog_14_method_54_code 3 (some .boolean)) (j := 155) rfl rfl
set_option maxRecDepth 100000 in
theorem gm_cp278 : gm_cwd 278 ∈ gm_T := gm_tq8 (w := Jvm.Cond.code ⟨"GlacierMailModel", "sign", "(I)Z"⟩ prog_14_method_31_code 2 (some .boolean)) (j := 159) rfl rfl
set_option maxRecDepth 100000 in
theorem gm_cp279 : gm_cwd 279 ∈ gm_T := gm_tq8 (w := Jvm.Cond.code ⟨"GlacierMailModel", "emits", "(II)V"⟩ prog_14_method_51_code 3 none) (j := 164) rfl rfl
set_option maxRecDepth 100000 in
theorem gm_cp280 : gm_cwd 280 ∈ gm_T := gm_tq8 (w := Jvm.Cond.code ⟨"GlacierMailModel", "readSum", "()Z"⟩ prog_14_method_53_code 1 (some .boolean)) (j := 170) rfl rfl
set_option maxRecDepth 100000 in
theorem gm_cp281 : gm_cwd 281 ∈ gm_T := gm_tq8 (w := Jvm.Cond.code ⟨"GlacierMailModel", "readPart", "()Z"⟩ prog_14_method_52_code 2 (some .boolean)) (j := 174) rfl rfl
set_option maxRecDepth 100000 in
theorem gm_cp282 : gm_cwd 282 ∈ gm_T := gm_tq8 (w := Jvm.Cond.code ⟨"GlacierMailModel", "throwsIf", "(ZI)Z"⟩ prog_14_method_2_code 3 (some .boolean)) (j := 187) rfl rfl
set_option maxRecDepth 100000 in
theorem gm_cp283 : gm_cwd 283 ∈ gm_T := gm_tq8 (w := Jvm.Cond.code ⟨"GlacierMailModel", "law", "()I"⟩ prog_14_method_61_code 3 (some .int)) (j := 191) rfl rfl
set_option maxRecDepth 100000 in
theorem gm_cp284 : gm_cwd 284 ∈ gm_T := gm_tq8 (w := Jvm.Cond.code ⟨"GlacierMailModel", "heat", "(I)I"⟩ prog_14_method_69_code 2 (some .int)) (j := 195) rfl rfl
set_option maxRecDepth 100000 in
theorem gm_cp285 : gm_cwd 285 ∈ gm_T := gm_tq8 (w := Jvm.Cond.code ⟨"GlacierMailModel", "noYear", "(I)Z"⟩ prog_14_method_23_code 1 (some .boolean)) (j := 198) rfl rfl
set_option maxRecDepth 100000 in
theorem gm_cp286 : gm_cwd 286 ∈ gm_T := gm_tq8 (w := Jvm.Cond.code ⟨"GlacierMailModel", "in", "(III)Z"⟩ prog_14_method_3_code 3 (some .boolean)) (j := 201) rfl rfl
set_option maxRecDepth 100000 in
theorem gm_cp287 : gm_cwd 287 ∈ gm_T := gm_tq8 (w := Jvm.Cond.code ⟨"GlacierMailModel", "speed", "(II)I"⟩ prog_14_method_70_code 3 (some .int)) (j := 205) rfl rfl
set_option maxRecDepth 100000 in
theorem gm_cp288 : gm_cwd 288 ∈ gm_T := gm_tq8 (w := Jvm.Cond.code ⟨"GlacierMailModel", "noLane", "(I)Z"⟩ prog_14_method_19_code 2 (some .boolean)) (j := 209) rfl rfl
set_option maxRecDepth 100000 in
theorem gm_cp289 : gm_cwd 289 ∈ gm_T := gm_tq8 (w := Jvm.Cond.code ⟨"GlacierMailModel", "noRow", "(I)Z"⟩ prog_14_method_20_code 2 (some .boolean)) (j := 213) rfl rfl
set_option maxRecDepth 100000 in
theorem gm_cp290 : gm_cwd 290 ∈ gm_T := gm_tq8 (w := Jvm.Cond.code ⟨"GlacierMailModel", "speedAt", "(II)I"⟩ prog_14_method_67_code 5 (some .int)) (j := 217) rfl rfl
set_option maxRecDepth 100000 in
theorem gm_cp291 : gm_cwd 291 ∈ gm_T := gm_tq8 (w := Jvm.Cond.code ⟨"GlacierMailModel", "flow", "(III)I"⟩ prog_14_method_71_code 4 (some .int)) (j := 221) rfl rfl
set_option maxRecDepth 100000 in
theorem gm_cp292 : gm_cwd 292 ∈ gm_T := gm_tq8 (w := Jvm.Cond.code ⟨"GlacierMailModel", "flowAt", "(III)I"⟩ prog_14_method_68_code 6 (some .int)) (j := 225) rfl rfl
set_option maxRecDepth 100000 in
theorem gm_cp293 : gm_cwd 293 ∈ gm_T := gm_tq8 (w := Jvm.Cond.code ⟨"GlacierMailModel", "turnsTo", "(I)V"⟩ prog_14_method_66_code 3 none) (j := 229) rfl rfl
set_option maxRecDepth 100000 in
theorem gm_cp294 : gm_cwd 294 ∈ gm_T := gm_tq8 (w := Jvm.Cond.code ⟨"GlacierMailModel", "sumOf", "(I)I"⟩ prog_14_method_64_code 4 (some .int)) (j := 233) rfl rfl
set_option maxRecDepth 100000 in
theorem gm_cp295 : gm_cwd 295 ∈ gm_T := gm_tq8 (w := Jvm.Cond.code ⟨"GlacierMailModel", "holdsLine", "(I)Z"⟩ prog_14_method_63_code 9 (some .boolean)) (j := 237) rfl rfl
set_option maxRecDepth 100000 in
theorem gm_cp296 : gm_cwd 296 ∈ gm_T := gm_tq9 (w := Jvm.Cond.code ⟨"GlacierMailModel", "factOf", "(II)I"⟩ prog_14_method_62_code 3 (some .int)) (j := 1) rfl rfl
set_option maxRecDepth 100000 in
theorem gm_cp297 : gm_cwd 297 ∈ gm_T := gm_tq9 (w := Jvm.Cond.code ⟨"GlacierMailModel", "person", "(II)I"⟩ prog_14_method_81_code 3 (some .int)) (j := 7) rfl rfl
set_option maxRecDepth 100000 in
theorem gm_cp298 : gm_cwd 298 ∈ gm_T := gm_tq9 (w := Jvm.Cond.code ⟨"GlacierMailModel", "noPerson", "(I)Z"⟩ prog_14_method_21_code 2 (some .boolean)) (j := 11) rfl rfl
set_option maxRecDepth 100000 in
theorem gm_cp299 : gm_cwd 299 ∈ gm_T := gm_tq9 (w := Jvm.Cond.code ⟨"GlacierMailModel", "of", "(II)I"⟩ prog_14_method_15_code 3 (some .int)) (j := 15) rfl rfl
set_option maxRecDepth 100000 in
theorem gm_cp300 : gm_cwd 300 ∈ gm_T := gm_tq9 (w := Jvm.Cond.code ⟨"GlacierMailModel", "countOf", "(II)I"⟩ prog_14_method_80_code 6 (some .int)) (j := 19) rfl rfl
set_option maxRecDepth 100000 in
theorem gm_cp301 : gm_cwd 301 ∈ gm_T := gm_tq9 (w := Jvm.Cond.code ⟨"GlacierMailModel", "ofLetter", "(II)I"⟩ prog_14_method_16_code 3 (some .int)) (j := 23) rfl rfl
set_option maxRecDepth 100000 in
theorem gm_cp302 : gm_cwd 302 ∈ gm_T := gm_tq9 (w := Jvm.Cond.code ⟨"GlacierMailModel", "isWaiting", "(I)Z"⟩ prog_14_method_79_code 3 (some .boolean)) (j := 27) rfl rfl
set_option maxRecDepth 100000 in
theorem gm_cp303 : gm_cwd 303 ∈ gm_T := gm_tq9 (w := Jvm.Cond.code ⟨"GlacierMailModel", "isRock", "(I)Z"⟩ prog_14_method_18_code 2 (some .boolean)) (j := 31) rfl rfl
set_option maxRecDepth 100000 in
theorem gm_cp304 : gm_cwd 304 ∈ gm_T := gm_tq9 (w := Jvm.Cond.code ⟨"GlacierMailModel", "outOf", "(I)I"⟩ prog_14_method_75_code 2 (some .int)) (j := 35) rfl rfl
set_option maxRecDepth 100000 in
theorem gm_cp305 : gm_cwd 305 ∈ gm_T := gm_tq9 (w := Jvm.Cond.code ⟨"GlacierMailModel", "runsLetter", "(II)V"⟩ prog_14_method_74_code 3 none) (j := 39) rfl rfl
set_option maxRecDepth 100000 in
theorem gm_cp306 : gm_cwd 306 ∈ gm_T := gm_tq9 (w := Jvm.Cond.code ⟨"GlacierMailModel", "runs", "(IIIZI)V"⟩ prog_14_method_73_code 9 none) (j := 43) rfl rfl
set_option maxRecDepth 100000 in
theorem gm_cp307 : gm_cwd 307 ∈ gm_T := gm_tq9 (w := Jvm.Cond.code ⟨"GlacierMailModel", "floods", "(III)I"⟩ prog_14_method_72_code 7 (some .int)) (j := 47) rfl rfl
set_option maxRecDepth 100000 in
theorem gm_cp308 : gm_cwd 308 ∈ gm_T := gm_tq9 (w := Jvm.Cond.code ⟨"GlacierMailModel", "letter", "(II)I"⟩ prog_14_method_83_code 4 (some .int)) (j := 51) rfl rfl
set_option maxRecDepth 100000 in
theorem gm_cp309 : gm_cwd 309 ∈ gm_T := gm_tq9 (w := Jvm.Cond.code ⟨"GlacierMailModel", "noLetter", "(I)Z"⟩ prog_14_method_22_code 2 (some .boolean)) (j := 55) rfl rfl
set_option maxRecDepth 100000 in
theorem gm_cp310 : gm_cwd 310 ∈ gm_T := gm_tq9 (w := Jvm.Cond.code ⟨"GlacierMailModel", "bareFrom", "(I)I"⟩ prog_14_method_82_code 3 (some .int)) (j := 59) rfl rfl
set_option maxRecDepth 100000 in
theorem gm_cp311 : gm_cwd 311 ∈ gm_T := gm_tq9 (w := Jvm.Cond.code ⟨"GlacierMailModel", "isBare", "(II)Z"⟩ prog_14_method_78_code 3 (some .boolean)) (j := 63) rfl rfl
set_option maxRecDepth 100000 in
theorem gm_cp312 : gm_cwd 312 ∈ gm_T := gm_tq9 (w := Jvm.Cond.code ⟨"GlacierMailModel", "isInIce", "(I)Z"⟩ prog_14_method_77_code 2 (some .boolean)) (j := 67) rfl rfl
set_option maxRecDepth 100000 in
theorem gm_cp313 : gm_cwd 313 ∈ gm_T := gm_tq9 (w := Jvm.Cond.code ⟨"GlacierMailModel", "where", "(II)I"⟩ prog_14_method_84_code 3 (some .int)) (j := 71) rfl rfl
set_option maxRecDepth 100000 in
theorem gm_cp314 : gm_cwd 314 ∈ gm_T := gm_tq9 (w := Jvm.Cond.code ⟨"GlacierMailModel", "deep", "(II)I"⟩ prog_14_method_85_code 3 (some .int)) (j := 75) rfl rfl
set_option maxRecDepth 100000 in
theorem gm_cp315 : gm_cwd 315 ∈ gm_T := gm_tq9 (w := Jvm.Cond.code ⟨"GlacierMailModel", "post", "(II)I"⟩ prog_14_method_86_code 3 (some .int)) (j := 79) rfl rfl
set_option maxRecDepth 100000 in
theorem gm_cp316 : gm_cwd 316 ∈ gm_T := gm_tq9 (w := Jvm.Cond.code ⟨"GlacierMailModel", "remembers", "()V"⟩ prog_14_method_8_code 2 none) (j := 83) rfl rfl
set_option maxRecDepth 100000 in
theorem gm_cp317 : gm_cwd 317 ∈ gm_T := gm_tq9 (w := Jvm.Cond.code ⟨"GlacierMailModel", "watch", "(II)I"⟩ prog_14_method_87_code 4 (some .int)) (j := 87) rfl rfl
set_option maxRecDepth 100000 in
theorem gm_cp318 : gm_cwd 318 ∈ gm_T := gm_tq9 (w := Jvm.Cond.code ⟨"GlacierMailModel", "open", "(I)I"⟩ prog_14_method_89_code 2 (some .int)) (j := 91) rfl rfl
set_option maxRecDepth 100000 in
theorem gm_cp319 : gm_cwd 319 ∈ gm_T := gm_tq9 (w := Jvm.Cond.code ⟨"GlacierMailModel", "opens", "(II)V"⟩ prog_14_method_88_code 4 none) (j := 95) rfl rfl
set_option maxRecDepth 100000 in
theorem gm_cp320 : gm_cwd 320 ∈ gm_T := gm_tq9 (w := Jvm.Cond.code ⟨"GlacierMailModel", "years", "(I)I"⟩ prog_14_method_93_code 4 (some .int)) (j := 99) rfl rfl
set_option maxRecDepth 100000 in
theorem gm_cp321 : gm_cwd 321 ∈ gm_T := gm_tq9 (w := Jvm.Cond.code ⟨"GlacierMailModel", "year", "()I"⟩ prog_14_method_92_code 4 (some .int)) (j := 103) rfl rfl
set_option maxRecDepth 100000 in
theorem gm_cp322 : gm_cwd 322 ∈ gm_T := gm_tq9 (w := Jvm.Cond.code ⟨"GlacierMailModel", "opener", "(I)I"⟩ prog_14_method_91_code 4 (some .int)) (j := 107) rfl rfl
set_option maxRecDepth 100000 in
theorem gm_cp323 : gm_cwd 323 ∈ gm_T := gm_tq9 (w := Jvm.Cond.code ⟨"GlacierMailModel", "mayOpen", "(II)Z"⟩ prog_14_method_90_code 3 (some .boolean)) (j := 111) rfl rfl
set_option maxRecDepth 100000 in
theorem gm_cp324 : gm_cwd 324 ∈ gm_T := gm_tq9 (w := Jvm.Cond.code ⟨"GlacierMailModel", "throwsFor", "(IIII)I"⟩ prog_14_method_94_code 9 (some .int)) (j := 115) rfl rfl
set_option maxRecDepth 100000 in
theorem gm_cp325 : gm_cwd 325 ∈ gm_T := gm_tq9 (w := Jvm.Cond.code ⟨"GlacierMailModel", "outFrom", "(III)I"⟩ prog_14_method_76_code 4 (some .int)) (j := 119) rfl rfl
set_option maxRecDepth 100000 in
theorem gm_cp326 : gm_cwd 326 ∈ gm_T := gm_tq9 (w := Jvm.Cond.code ⟨"GlacierMailModel", "latest", "(II)I"⟩ prog_14_method_95_code 5 (some .int)) (j := 123) rfl rfl
set_option maxRecDepth 100000 in
theorem gm_cp327 : gm_cwd 327 ∈ gm_T := gm_tq9 (w := Jvm.Cond.code ⟨"GlacierMailModel", "hut", "(II)I"⟩ prog_14_method_96_code 5 (some .int)) (j := 127) rfl rfl
set_option maxRecDepth 100000 in
theorem gm_cp328 : gm_cwd 328 ∈ gm_T := gm_tq9 (w := Jvm.Cond.code ⟨"GlacierMailModel", "without", "(II)I"⟩ prog_14_method_97_code 3 (some .int)) (j := 131) rfl rfl
set_option maxRecDepth 100000 in
theorem gm_cp329 : gm_cwd 329 ∈ gm_T := gm_tq9 (w := Jvm.Cond.code ⟨"GlacierMailModel", "moved", "(I)I"⟩ prog_14_method_98_code 2 (some .int)) (j := 135) rfl rfl
set_option maxRecDepth 100000 in
theorem gm_cp330 : gm_cwd 330 ∈ gm_T := gm_tq9 (w := Jvm.Cond.code ⟨"GlacierMailModel", "lost", "()I"⟩ prog_14_method_99_code 3 (some .int)) (j := 139) rfl rfl
set_option maxRecDepth 100000 in
theorem gm_cp331 : gm_cwd 331 ∈ gm_T := gm_tq9 (w := Jvm.Cond.code ⟨"GlacierMailModel", "market", "(Z)I"⟩ prog_14_method_102_code 6 (some .int)) (j := 143) rfl rfl
set_option maxRecDepth 100000 in
theorem gm_cp332 : gm_cwd 332 ∈ gm_T := gm_tq9 (w := Jvm.Cond.code ⟨"GlacierMailModel", "outsAll", "()V"⟩ prog_14_method_100_code 2 none) (j := 147) rfl rfl
set_option maxRecDepth 100000 in
theorem gm_cp333 : gm_cwd 333 ∈ gm_T := gm_tq9 (w := Jvm.Cond.code ⟨"GlacierMailModel", "outsIn", "(IIZ)I"⟩ prog_14_method_101_code 6 (some .int)) (j := 151) rfl rfl
set_option maxRecDepth 100000 in
theorem gm_cp334 : gm_cwd 334 ∈ gm_T := gm_tq9 (w := Jvm.Cond.code ⟨"GlacierMailModel", "passes", "(I)I"⟩ prog_14_method_106_code 4 (some .int)) (j := 155) rfl rfl
set_option maxRecDepth 100000 in
theorem gm_cp335 : gm_cwd 335 ∈ gm_T := gm_tq9 (w := Jvm.Cond.code ⟨"GlacierMailModel", "keepsRows", "()V"⟩ prog_14_method_103_code 2 none) (j := 159) rfl rfl
set_option maxRecDepth 100000 in
theorem gm_cp336 : gm_cwd 336 ∈ gm_T := gm_tq9 (w := Jvm.Cond.code ⟨"GlacierMailModel", "isPassing", "(I)Z"⟩ prog_14_method_105_code 3 (some .boolean)) (j := 163) rfl rfl
set_option maxRecDepth 100000 in
theorem gm_cp337 : gm_cwd 337 ∈ gm_T := gm_tq9 (w := Jvm.Cond.code ⟨"GlacierMailModel", "isOtherInIce", "(I)Z"⟩ prog_14_method_104_code 2 (some .boolean)) (j := 167) rfl rfl
set_option maxRecDepth 100000 in
theorem gm_cp338 : gm_cwd 338 ∈ gm_T := gm_tq9 (w := Jvm.Cond.code ⟨"GlacierMailModel", "writers", "(III)I"⟩ prog_14_method_108_code 6 (some .int)) (j := 171) rfl rfl
set_option maxRecDepth 100000 in
theorem gm_cp339 : gm_cwd 339 ∈ gm_T := gm_tq9 (w := Jvm.Cond.code ⟨"GlacierMailModel", "wroteIn", "(IIII)I"⟩ prog_14_method_107_code 6 (some .int)) (j := 175) rfl rfl
set_option maxRecDepth 100000 in
theorem gm_cp340 : gm_cwd 340 ∈ gm_T := gm_tq9 (w := Jvm.Cond.code ⟨"GlacierMailModel", "wrote", "(IIII)I"⟩ prog_14_method_109_code 5 (some .int)) (j := 179) rfl rfl
set_option maxRecDepth 100000 in
theorem gm_cp341 : gm_cwd 341 ∈ gm_T := gm_tq9 (w := Jvm.Cond.code ⟨"GlacierMailModel", "table", "(II)I"⟩ prog_14_method_112_code 3 (some .int)) (j := 183) rfl rfl
set_option maxRecDepth 100000 in
theorem gm_cp342 : gm_cwd 342 ∈ gm_T := gm_tq9 (w := Jvm.Cond.code ⟨"GlacierMailModel", "noTable", "(I)Z"⟩ prog_14_method_111_code 2 (some .boolean)) (j := 187) rfl rfl
set_option maxRecDepth 100000 in
theorem gm_cp343 : gm_cwd 343 ∈ gm_T := gm_tq9 (w := Jvm.Cond.code ⟨"GlacierMailModel", "ofTable", "(II)I"⟩ prog_14_method_110_code 3 (some .int)) (j := 191) rfl rfl
set_option maxRecDepth 100000 in
theorem gm_cp344 : gm_cwd 344 ∈ gm_T := gm_tq9 (w := Jvm.Cond.code ⟨"GlacierMailModel", "apart", "(III)Z"⟩ prog_14_method_114_code 4 (some .boolean)) (j := 195) rfl rfl
set_option maxRecDepth 100000 in
theorem gm_cp345 : gm_cwd 345 ∈ gm_T := gm_tq9 (w := Jvm.Cond.code ⟨"GlacierMailModel", "areApart", "(III)Z"⟩ prog_14_method_113_code 6 (some .boolean)) (j := 199) rfl rfl
set_option maxRecDepth 100000 in
theorem gm_cp346 : gm_cwd 346 ∈ gm_T := gm_tq9 (w := Jvm.Cond.code ⟨"GlacierMailModel", "has", "(II)Z"⟩ prog_14_method_4_code 2 (some .boolean)) (j := 202) rfl rfl
set_option maxRecDepth 100000 in
theorem gm_cp347 : gm_cwd 347 ∈ gm_T := gm_tq9 (w := Jvm.Cond.code ⟨"GlacierMailModel", "poles", "()I"⟩ prog_14_method_115_code 6 (some .int)) (j := 206) rfl rfl
set_option maxRecDepth 100000 in
theorem gm_cp348 : gm_cwd 348 ∈ gm_T := gm_tq9 (w := Jvm.Cond.code ⟨"GlacierMailModel", "fit", "()I"⟩ prog_14_method_116_code 5 (some .int)) (j := 211) rfl rfl
set_option maxRecDepth 100000 in
theorem gm_cp349 : gm_cwd 349 ∈ gm_T := gm_tq9 (w := Jvm.Cond.code ⟨"GlacierMailModel", "soonest", "(IIZ)I"⟩ prog_14_method_121_code 5 (some .int)) (j := 215) rfl rfl
set_option maxRecDepth 100000 in
theorem gm_cp350 : gm_cwd 350 ∈ gm_T := gm_tq9 (w := Jvm.Cond.code ⟨"GlacierMailModel", "answers", "(I)V"⟩ prog_14_method_119_code 7 none) (j := 219) rfl rfl
set_option maxRecDepth 100000 in
theorem gm_cp351 : gm_cwd 351 ∈ gm_T := gm_tq9 (w := Jvm.Cond.code ⟨"GlacierMailModel", "at", "(II)I"⟩ prog_14_method_117_code 2 (some .int)) (j := 222) rfl rfl
set_option maxRecDepth 100000 in
theorem gm_cp352 : gm_cwd 352 ∈ gm_T := gm_tq9 (w := Jvm.Cond.code ⟨"GlacierMailModel", "isWatching", "(II)Z"⟩ prog_14_method_118_code 3 (some .boolean)) (j := 226) rfl rfl
set_option maxRecDepth 100000 in
theorem gm_cp353 : gm_cwd 353 ∈ gm_T := gm_tq9 (w := Jvm.Cond.code ⟨"GlacierMailModel", "hasIn", "(I)I"⟩ prog_14_method_120_code 3 (some .int)) (j := 230) rfl rfl
set_option maxRecDepth 100000 in
theorem gm_cp354 : gm_cwd 354 ∈ gm_T := gm_tq9 (w := Jvm.Cond.code ⟨"GlacierMailModel", "chain", "(III)I"⟩ prog_14_method_123_code 7 (some .int)) (j := 234) rfl rfl
set_option maxRecDepth 100000 in
theorem gm_cp355 : gm_cwd 355 ∈ gm_T := gm_tq9 (w := Jvm.Cond.code ⟨"GlacierMailModel", "thrower", "(III)I"⟩ prog_14_method_122_code 6 (some .int)) (j := 238) rfl rfl
set_option maxRecDepth 100000 in
theorem gm_cp356 : gm_cwd 356 ∈ gm_T := gm_tq10 (w := Jvm.Cond.code ⟨"GlacierMailModel", "reached", "(II)I"⟩ prog_14_method_124_code 6 (some .int)) (j := 2) rfl rfl
set_option maxRecDepth 100000 in
theorem gm_cp357 : gm_cwd 357 ∈ gm_T := gm_tq10 (w := Jvm.Cond.code ⟨"GlacierMailModel", "thieves", "(IZ)I"⟩ prog_14_method_126_code 5 (some .int)) (j := 6) rfl rfl
set_option maxRecDepth 100000 in
theorem gm_cp358 : gm_cwd 358 ∈ gm_T := gm_tq10 (w := Jvm.Cond.code ⟨"GlacierMailModel", "steals", "(I)V"⟩ prog_14_method_125_code 5 none) (j := 10) rfl rfl
set_option maxRecDepth 100000 in
theorem gm_cp359 : gm_cwd 359 ∈ gm_T := gm_tq10 (w := Jvm.Cond.code ⟨"GlacierMailModel", "watchman", "(IZ)I"⟩ prog_14_method_127_code 8 (some .int)) (j := 14) rfl rfl
set_option maxRecDepth 100000 in
theorem gm_cp360 : gm_cwd 360 ∈ gm_T := gm_tq10 (w := Jvm.Cond.code ⟨"GlacierMailModel", "meeting", "(II)I"⟩ prog_14_method_128_code 4 (some .int)) (j := 18) rfl rfl
set_option maxRecDepth 100000 in
theorem gm_cp361 : gm_cwd 361 ∈ gm_T := gm_tq10 (w := Jvm.Cond.code ⟨"GlacierMailModel", "outs", "(I)I"⟩ prog_14_method_129_code 2 (some .int)) (j := 22) rfl rfl
set_option maxRecDepth 100000 in
theorem gm_cp362 : gm_cwd 362 ∈ gm_T := gm_tq10 (w := Jvm.Cond.code ⟨"GlacierMailModel", "order", "(I)I"⟩ prog_14_method_130_code 5 (some .int)) (j := 26) rfl rfl
set_option maxRecDepth 100000 in
theorem gm_cp363 : gm_cwd 363 ∈ gm_T := gm_tq10 (w := Jvm.Cond.code ⟨"GlacierMailModel", "streams", "(IZ)I"⟩ prog_14_method_131_code 5 (some .int)) (j := 30) rfl rfl
set_option maxRecDepth 100000 in
theorem gm_cp364 : gm_cwd 364 ∈ gm_T := gm_tq10 (w := Jvm.Cond.code ⟨"GlacierMailModel", "range", "(II)I"⟩ prog_14_method_132_code 4 (some .int)) (j := 34) rfl rfl
set_option maxRecDepth 100000 in
theorem gm_cp365 : gm_cwd 365 ∈ gm_T := gm_tq10 (w := Jvm.Cond.code ⟨"GlacierMailModel", "swiftest", "(II)I"⟩ prog_14_method_133_code 7 (some .int)) (j := 38) rfl rfl
set_option maxRecDepth 100000 in
theorem gm_cp366 : gm_cwd 366 ∈ gm_T := gm_tq10 (w := Jvm.Cond.code ⟨"GlacierMailModel", "bare", "(I)I"⟩ prog_14_method_134_code 4 (some .int)) (j := 42) rfl rfl
set_option maxRecDepth 100000 in
theorem gm_cp367 : gm_cwd 367 ∈ gm_T := gm_tq10 (w := Jvm.Cond.code ⟨"GlacierMailModel", "log", "(II)I"⟩ prog_14_method_135_code 3 (some .int)) (j := 46) rfl rfl
set_option maxRecDepth 100000 in
theorem gm_cp368 : gm_cwd 368 ∈ gm_T := gm_tq10 (w := Jvm.Cond.code ⟨"GlacierMailModel", "count", "(I)I"⟩ prog_14_method_136_code 5 (some .int)) (j := 50) rfl rfl
set_option maxRecDepth 100000 in
theorem gm_cpr0 : ∀ w ∈ (List.range' 0 30).map gm_cwd, w ∈ gm_T := List.forall_mem_cons.mpr ⟨gm_cp0, List.forall_mem_cons.mpr ⟨gm_cp1, List.forall_mem_cons.mpr ⟨gm_cp2, List.forall_mem_cons.mpr ⟨gm_cp3, List.forall_mem_cons.mpr ⟨gm_cp4, List.forall_mem_cons.mpr ⟨gm_cp5, List.forall_mem_cons.mpr ⟨gm_cp6, List.forall_mem_cons.mpr ⟨gm_cp7, List.forall_mem_cons.mpr ⟨gm_cp8, List.forall_mem_cons.mpr ⟨gm_cp9, List.forall_mem_cons.mpr ⟨gm_cp10, List.forall_mem_cons.mpr ⟨gm_cp11, List.forall_mem_cons.mpr ⟨gm_cp12, List.forall_mem_cons.mpr ⟨gm_cp13, List.forall_mem_cons.mpr ⟨gm_cp14, List.forall_mem_cons.mpr ⟨gm_cp15, List.forall_mem_cons.mpr ⟨gm_cp16, List.forall_mem_cons.mpr ⟨gm_cp17, List.forall_mem_cons.mpr ⟨gm_cp18, List.forall_mem_cons.mpr ⟨gm_cp19, List.forall_mem_cons.mpr ⟨gm_cp20, List.forall_mem_cons.mpr ⟨gm_cp21, List.forall_mem_cons.mpr ⟨gm_cp22, List.forall_mem_cons.mpr ⟨gm_cp23, List.forall_mem_cons.mpr ⟨gm_cp24, List.forall_mem_cons.mpr ⟨gm_cp25, List.forall_mem_cons.mpr ⟨gm_cp26, List.forall_mem_cons.mpr ⟨gm_cp27, List.forall_mem_cons.mpr ⟨gm_cp28, List.forall_mem_cons.mpr ⟨gm_cp29, fun _ h => absurd h List.not_mem_nil⟩⟩⟩⟩⟩⟩⟩⟩⟩⟩⟩⟩⟩⟩⟩⟩⟩⟩⟩⟩⟩⟩⟩⟩⟩⟩⟩⟩⟩⟩
set_option maxRecDepth 100000 in
theorem gm_cpr30 : ∀ w ∈ (List.range' 30 30).map gm_cwd, w ∈ gm_T := List.forall_mem_cons.mpr ⟨gm_cp30, List.forall_mem_cons.mpr ⟨gm_cp31, List.forall_mem_cons.mpr ⟨gm_cp32, List.forall_mem_cons.mpr ⟨gm_cp33, List.forall_mem_cons.mpr ⟨gm_cp34, List.forall_mem_cons.mpr ⟨gm_cp35, List.forall_mem_cons.mpr ⟨gm_cp36, List.forall_mem_cons.mpr ⟨gm_cp37, List.forall_mem_cons.mpr ⟨gm_cp38, List.forall_mem_cons.mpr ⟨gm_cp39, List.forall_mem_cons.mpr ⟨gm_cp40, List.forall_mem_cons.mpr ⟨gm_cp41, List.forall_mem_cons.mpr ⟨gm_cp42, List.forall_mem_cons.mpr ⟨gm_cp43, List.forall_mem_cons.mpr ⟨gm_cp44, List.forall_mem_cons.mpr ⟨gm_cp45, List.forall_mem_cons.mpr ⟨gm_cp46, List.forall_mem_cons.mpr ⟨gm_cp47, List.forall_mem_cons.mpr ⟨gm_cp48, List.forall_mem_cons.mpr ⟨gm_cp49, List.forall_mem_cons.mpr ⟨gm_cp50, List.forall_mem_cons.mpr ⟨gm_cp51, List.forall_mem_cons.mpr ⟨gm_cp52, List.forall_mem_cons.mpr ⟨gm_cp53, List.forall_mem_cons.mpr ⟨gm_cp54, List.forall_mem_cons.mpr ⟨gm_cp55, List.forall_mem_cons.mpr ⟨gm_cp56, List.forall_mem_cons.mpr ⟨gm_cp57, List.forall_mem_cons.mpr ⟨gm_cp58, List.forall_mem_cons.mpr ⟨gm_cp59, fun _ h => absurd h List.not_mem_nil⟩⟩⟩⟩⟩⟩⟩⟩⟩⟩⟩⟩⟩⟩⟩⟩⟩⟩⟩⟩⟩⟩⟩⟩⟩⟩⟩⟩⟩⟩
set_option maxRecDepth 100000 in
theorem gm_cpr60 : ∀ w ∈ (List.range' 60 30).map gm_cwd, w ∈ gm_T := List.forall_mem_cons.mpr ⟨gm_cp60, List.forall_mem_cons.mpr ⟨gm_cp61, List.forall_mem_cons.mpr ⟨gm_cp62, List.forall_mem_cons.mpr ⟨gm_cp63, List.forall_mem_cons.mpr ⟨gm_cp64, List.forall_mem_cons.mpr ⟨gm_cp65, List.forall_mem_cons.mpr ⟨gm_cp66, List.forall_mem_cons.mpr ⟨gm_cp67, List.forall_mem_cons.mpr ⟨gm_cp68, List.forall_mem_cons.mpr ⟨gm_cp69, List.forall_mem_cons.mpr ⟨gm_cp70, List.forall_mem_cons.mpr ⟨gm_cp71, List.forall_mem_cons.mpr ⟨gm_cp72, List.forall_mem_cons.mpr ⟨gm_cp73, List.forall_mem_cons.mpr ⟨gm_cp74, List.forall_mem_cons.mpr ⟨gm_cp75, List.forall_mem_cons.mpr ⟨gm_cp76, List.forall_mem_cons.mpr ⟨gm_cp77, List.forall_mem_cons.mpr ⟨gm_cp78, List.forall_mem_cons.mpr ⟨gm_cp79, List.forall_mem_cons.mpr ⟨gm_cp80, List.forall_mem_cons.mpr ⟨gm_cp81, List.forall_mem_cons.mpr ⟨gm_cp82, List.forall_mem_cons.mpr ⟨gm_cp83, List.forall_mem_cons.mpr ⟨gm_cp84, List.forall_mem_cons.mpr ⟨gm_cp85, List.forall_mem_cons.mpr ⟨gm_cp86, List.forall_mem_cons.mpr ⟨gm_cp87, List.forall_mem_cons.mpr ⟨gm_cp88, List.forall_mem_cons.mpr ⟨gm_cp89, fun _ h => absurd h List.not_mem_nil⟩⟩⟩⟩⟩⟩⟩⟩⟩⟩⟩⟩⟩⟩⟩⟩⟩⟩⟩⟩⟩⟩⟩⟩⟩⟩⟩⟩⟩⟩
set_option maxRecDepth 100000 in
theorem gm_cpr90 : ∀ w ∈ (List.range' 90 30).map gm_cwd, w ∈ gm_T := List.forall_mem_cons.mpr ⟨gm_cp90, List.forall_mem_cons.mpr ⟨gm_cp91, List.forall_mem_cons.mpr ⟨gm_cp92, List.forall_mem_cons.mpr ⟨gm_cp93, List.forall_mem_cons.mpr ⟨gm_cp94, List.forall_mem_cons.mpr ⟨gm_cp95, List.forall_mem_cons.mpr ⟨gm_cp96, List.forall_mem_cons.mpr ⟨gm_cp97, List.forall_mem_cons.mpr ⟨gm_cp98, List.forall_mem_cons.mpr ⟨gm_cp99, List.forall_mem_cons.mpr ⟨gm_cp100, List.forall_mem_cons.mpr ⟨gm_cp101, List.forall_mem_cons.mpr ⟨gm_cp102, List.forall_mem_cons.mpr ⟨gm_cp103, List.forall_mem_cons.mpr ⟨gm_cp104, List.forall_mem_cons.mpr ⟨gm_cp105, List.forall_mem_cons.mpr ⟨gm_cp106, List.forall_mem_cons.mpr ⟨gm_cp107, List.forall_mem_cons.mpr ⟨gm_cp108, List.forall_mem_cons.mpr ⟨gm_cp109, List.forall_mem_cons.mpr ⟨gm_cp110, List.forall_mem_cons.mpr ⟨gm_cp111, List.forall_mem_cons.mpr ⟨gm_cp112, List.forall_mem_cons.mpr ⟨gm_cp113, List.forall_mem_cons.mpr ⟨gm_cp114, List.forall_mem_cons.mpr ⟨gm_cp115, List.forall_mem_cons.mpr ⟨gm_cp116, List.forall_mem_cons.mpr ⟨gm_cp117, List.forall_mem_cons.mpr ⟨gm_cp118, List.forall_mem_cons.mpr ⟨gm_cp119, fun _ h => absurd h List.not_mem_nil⟩⟩⟩⟩⟩⟩⟩⟩⟩⟩⟩⟩⟩⟩⟩⟩⟩⟩⟩⟩⟩⟩⟩⟩⟩⟩⟩⟩⟩⟩
set_option maxRecDepth 100000 in
theorem gm_cpr120 : ∀ w ∈ (List.range' 120 30).map gm_cwd, w ∈ gm_T := List.forall_mem_cons.mpr ⟨gm_cp120, List.forall_mem_cons.mpr ⟨gm_cp121, List.forall_mem_cons.mpr ⟨gm_cp122, List.forall_mem_cons.mpr ⟨gm_cp123, List.forall_mem_cons.mpr ⟨gm_cp124, List.forall_mem_cons.mpr ⟨gm_cp125, List.forall_mem_cons.mpr ⟨gm_cp126, List.forall_mem_cons.mpr ⟨gm_cp127, List.forall_mem_cons.mpr ⟨gm_cp128, List.forall_mem_cons.mpr ⟨gm_cp129, List.forall_mem_cons.mpr ⟨gm_cp130, List.forall_mem_cons.mpr ⟨gm_cp131, List.forall_mem_cons.mpr ⟨gm_cp132, List.forall_mem_cons.mpr ⟨gm_cp133, List.forall_mem_cons.mpr ⟨gm_cp134, List.forall_mem_cons.mpr ⟨gm_cp135, List.forall_mem_cons.mpr ⟨gm_cp136, List.forall_mem_cons.mpr ⟨gm_cp137, List.forall_mem_cons.mpr ⟨gm_cp138, List.forall_mem_cons.mpr ⟨gm_cp139, List.forall_mem_cons.mpr ⟨gm_cp140, List.forall_mem_cons.mpr ⟨gm_cp141, List.forall_mem_cons.mpr ⟨gm_cp142, List.forall_mem_cons.mpr ⟨gm_cp143, List.forall_mem_cons.mpr ⟨gm_cp144, List.forall_mem_cons.mpr ⟨gm_cp145, List.forall_mem_cons.mpr ⟨gm_cp146, List.forall_mem_cons.mpr ⟨gm_cp147, List.forall_mem_cons.mpr ⟨gm_cp148, List.forall_mem_cons.mpr ⟨gm_cp149, fun _ h => absurd h List.not_mem_nil⟩⟩⟩⟩⟩⟩⟩⟩⟩⟩⟩⟩⟩⟩⟩⟩⟩⟩⟩⟩⟩⟩⟩⟩⟩⟩⟩⟩⟩⟩
set_option maxRecDepth 100000 in
theorem gm_cpr150 : ∀ w ∈ (List.range' 150 30).map gm_cwd, w ∈ gm_T := List.forall_mem_cons.mpr ⟨gm_cp150, List.forall_mem_cons.mpr ⟨gm_cp151, List.forall_mem_cons.mpr ⟨gm_cp152, List.forall_mem_cons.mpr ⟨gm_cp153, List.forall_mem_cons.mpr ⟨gm_cp154, List.forall_mem_cons.mpr ⟨gm_cp155, List.forall_mem_cons.mpr ⟨gm_cp156, List.forall_mem_cons.mpr ⟨gm_cp157, List.forall_mem_cons.mpr ⟨gm_cp158, List.forall_mem_cons.mpr ⟨gm_cp159, List.forall_mem_cons.mpr ⟨gm_cp160, List.forall_mem_cons.mpr ⟨gm_cp161, List.forall_mem_cons.mpr ⟨gm_cp162, List.forall_mem_cons.mpr ⟨gm_cp163, List.forall_mem_cons.mpr ⟨gm_cp164, List.forall_mem_cons.mpr ⟨gm_cp165, List.forall_mem_cons.mpr ⟨gm_cp166, List.forall_mem_cons.mpr ⟨gm_cp167, List.forall_mem_cons.mpr ⟨gm_cp168, List.forall_mem_cons.mpr ⟨gm_cp169, List.forall_mem_cons.mpr ⟨gm_cp170, List.forall_mem_cons.mpr ⟨gm_cp171, List.forall_mem_cons.mpr ⟨gm_cp172, List.forall_mem_cons.mpr ⟨gm_cp173, List.forall_mem_cons.mpr ⟨gm_cp174, List.forall_mem_cons.mpr ⟨gm_cp175, List.forall_mem_cons.mpr ⟨gm_cp176, List.forall_mem_cons.mpr ⟨gm_cp177, List.forall_mem_cons.mpr ⟨gm_cp178, List.forall_mem_cons.mpr ⟨gm_cp179, fun _ h => absurd h List.not_mem_nil⟩⟩⟩⟩⟩⟩⟩⟩⟩⟩⟩⟩⟩⟩⟩⟩⟩⟩⟩⟩⟩⟩⟩⟩⟩⟩⟩⟩⟩⟩
set_option maxRecDepth 100000 in
theorem gm_cpr180 : ∀ w ∈ (List.range' 180 30).map gm_cwd, w ∈ gm_T := List.forall_mem_cons.mpr ⟨gm_cp180, List.forall_mem_cons.mpr ⟨gm_cp181, List.forall_mem_cons.mpr ⟨gm_cp182, List.forall_mem_cons.mpr ⟨gm_cp183, List.forall_mem_cons.mpr ⟨gm_cp184, List.forall_mem_cons.mpr ⟨gm_cp185, List.forall_mem_cons.mpr ⟨gm_cp186, List.forall_mem_cons.mpr ⟨gm_cp187, List.forall_mem_cons.mpr ⟨gm_cp188, List.forall_mem_cons.mpr ⟨gm_cp189, List.forall_mem_cons.mpr ⟨gm_cp190, List.forall_mem_cons.mpr ⟨gm_cp191, List.forall_mem_cons.mpr ⟨gm_cp192, List.forall_mem_cons.mpr ⟨gm_cp193, List.forall_mem_cons.mpr ⟨gm_cp194, List.forall_mem_cons.mpr ⟨gm_cp195, List.forall_mem_cons.mpr ⟨gm_cp196, List.forall_mem_cons.mpr ⟨gm_cp197, List.forall_mem_cons.mpr ⟨gm_cp198, List.forall_mem_cons.mpr ⟨gm_cp199, List.forall_mem_cons.mpr ⟨gm_cp200, List.forall_mem_cons.mpr ⟨gm_cp201, List.forall_mem_cons.mpr ⟨gm_cp202, List.forall_mem_cons.mpr ⟨gm_cp203, List.forall_mem_cons.mpr ⟨gm_cp204, List.forall_mem_cons.mpr ⟨gm_cp205, List.forall_mem_cons.mpr ⟨gm_cp206, List.forall_mem_cons.mpr ⟨gm_cp207, List.forall_mem_cons.mpr ⟨gm_cp208, List.forall_mem_cons.mpr ⟨gm_cp209, fun _ h => absurd h List.not_mem_nil⟩⟩⟩⟩⟩⟩⟩⟩⟩⟩⟩⟩⟩⟩⟩⟩⟩⟩⟩⟩⟩⟩⟩⟩⟩⟩⟩⟩⟩⟩
set_option maxRecDepth 100000 in
theorem gm_cpr210 : ∀ w ∈ (List.range' 210 30).map gm_cwd, w ∈ gm_T := List.forall_mem_cons.mpr ⟨gm_cp210, List.forall_mem_cons.mpr ⟨gm_cp211, List.forall_mem_cons.mpr ⟨gm_cp212, List.forall_mem_cons.mpr ⟨gm_cp213, List.forall_mem_cons.mpr ⟨gm_cp214, List.forall_mem_cons.mpr ⟨gm_cp215, List.forall_mem_cons.mpr ⟨gm_cp216, List.forall_mem_cons.mpr ⟨gm_cp217, List.forall_mem_cons.mpr ⟨gm_cp218, List.forall_mem_cons.mpr ⟨gm_cp219, List.forall_mem_cons.mpr ⟨gm_cp220, List.forall_mem_cons.mpr ⟨gm_cp221, List.forall_mem_cons.mpr ⟨gm_cp222, List.forall_mem_cons.mpr ⟨gm_cp223, List.forall_mem_cons.mpr ⟨gm_cp224, List.forall_mem_cons.mpr ⟨gm_cp225, List.forall_mem_cons.mpr ⟨gm_cp226, List.forall_mem_cons.mpr ⟨gm_cp227, List.forall_mem_cons.mpr ⟨gm_cp228, List.forall_mem_cons.mpr ⟨gm_cp229, List.forall_mem_cons.mpr ⟨gm_cp230, List.forall_mem_cons.mpr ⟨gm_cp231, List.forall_mem_cons.mpr ⟨gm_cp232, List.forall_mem_cons.mpr ⟨gm_cp233, List.forall_mem_cons.mpr ⟨gm_cp234, List.forall_mem_cons.mpr ⟨gm_cp235, List.forall_mem_cons.mpr ⟨gm_cp236, List.forall_mem_cons.mpr ⟨gm_cp237, List.forall_mem_cons.mpr ⟨gm_cp238, List.forall_mem_cons.mpr ⟨gm_cp239, fun _ h => absurd h List.not_mem_nil⟩⟩⟩⟩⟩⟩⟩⟩⟩⟩⟩⟩⟩⟩⟩⟩⟩⟩⟩⟩⟩⟩⟩⟩⟩⟩⟩⟩⟩⟩
set_option maxRecDepth 100000 in
theorem gm_cpr240 : ∀ w ∈ (List.range' 240 30).map gm_cwd, w ∈ gm_T := List.forall_mem_cons.mpr ⟨gm_cp240, List.forall_mem_cons.mpr ⟨gm_cp241, List.forall_mem_cons.mpr ⟨gm_cp242, List.forall_mem_cons.mpr ⟨gm_cp243, List.forall_mem_cons.mpr ⟨gm_cp244, List.forall_mem_cons.mpr ⟨gm_cp245, List.forall_mem_cons.mpr ⟨gm_cp246, List.forall_mem_cons.mpr ⟨gm_cp247, List.forall_mem_cons.mpr ⟨gm_cp248, List.forall_mem_cons.mpr ⟨gm_cp249, List.forall_mem_cons.mpr ⟨gm_cp250, List.forall_mem_cons.mpr ⟨gm_cp251, List.forall_mem_cons.mpr ⟨gm_cp252, List.forall_mem_cons.mpr ⟨gm_cp253, List.forall_mem_cons.mpr ⟨gm_cp254, List.forall_mem_cons.mpr ⟨gm_cp255, List.forall_mem_cons.mpr ⟨gm_cp256, List.forall_mem_cons.mpr ⟨gm_cp257, List.forall_mem_cons.mpr ⟨gm_cp258, List.forall_mem_cons.mpr ⟨gm_cp259, List.forall_mem_cons.mpr ⟨gm_cp260, List.forall_mem_cons.mpr ⟨gm_cp261, List.forall_mem_cons.mpr ⟨gm_cp262, List.forall_mem_cons.mpr ⟨gm_cp263, List.forall_mem_cons.mpr ⟨gm_cp264, List.forall_mem_cons.mpr ⟨gm_cp265, List.forall_mem_cons.mpr ⟨gm_cp266, List.forall_mem_cons.mpr ⟨gm_cp267, List.forall_mem_cons.mpr ⟨gm_cp268, List.forall_mem_cons.mpr ⟨gm_cp269, fun _ h => absurd h List.not_mem_nil⟩⟩⟩⟩⟩⟩⟩⟩⟩⟩⟩⟩⟩⟩⟩⟩⟩⟩⟩⟩⟩⟩⟩⟩⟩⟩⟩⟩⟩⟩
set_option maxRecDepth 100000 in
theorem gm_cpr270 : ∀ w ∈ (List.range' 270 30).map gm_cwd, w ∈ gm_T := List.forall_mem_cons.mpr ⟨gm_cp270, List.forall_mem_cons.mpr ⟨gm_cp271, List.forall_mem_cons.mpr ⟨gm_cp272, List.forall_mem_cons.mpr ⟨gm_cp273, List.forall_mem_cons.mpr ⟨gm_cp274, List.forall_mem_cons.mpr ⟨gm_cp275, List.forall_mem_cons.mpr ⟨gm_cp276, List.forall_mem_cons.mpr ⟨gm_cp277, List.forall_mem_cons.mpr ⟨gm_cp278, List.forall_mem_cons.mpr ⟨gm_cp279, List.forall_mem_cons.mpr ⟨gm_cp280, List.forall_mem_cons.mpr ⟨gm_cp281, List.forall_mem_cons.mpr ⟨gm_cp282, List.forall_mem_cons.mpr ⟨gm_cp283, List.forall_mem_cons.mpr ⟨gm_cp284, List.forall_mem_cons.mpr ⟨gm_cp285, List.forall_mem_cons.mpr ⟨gm_cp286, List.forall_mem_cons.mpr ⟨gm_cp287, List.forall_mem_cons.mpr ⟨gm_cp288, List.forall_mem_cons.mpr ⟨gm_cp289, List.forall_mem_cons.mpr ⟨gm_cp290, List.forall_mem_cons.mpr ⟨gm_cp291, List.forall_mem_cons.mpr ⟨gm_cp292, List.forall_mem_cons.mpr ⟨gm_cp293, List.forall_mem_cons.mpr ⟨gm_cp294, List.forall_mem_cons.mpr ⟨gm_cp295, List.forall_mem_cons.mpr ⟨gm_cp296, List.forall_mem_cons.mpr ⟨gm_cp297, List.forall_mem_cons.mpr ⟨gm_cp298, List.forall_mem_cons.mpr ⟨gm_cp299, fun _ h => absurd h List.not_mem_nil⟩⟩⟩⟩⟩⟩⟩⟩⟩⟩⟩⟩⟩⟩⟩⟩⟩⟩⟩⟩⟩⟩⟩⟩⟩⟩⟩⟩⟩⟩
set_option maxRecDepth 100000 in
theorem gm_cpr300 : ∀ w ∈ (List.range' 300 30).map gm_cwd, w ∈ gm_T := List.forall_mem_cons.mpr ⟨gm_cp300, List.forall_mem_cons.mpr ⟨gm_cp301, List.forall_mem_cons.mpr ⟨gm_cp302, List.forall_mem_cons.mpr ⟨gm_cp303, List.forall_mem_cons.mpr ⟨gm_cp304, List.forall_mem_cons.mpr ⟨gm_cp305, List.forall_mem_cons.mpr ⟨gm_cp306, List.forall_mem_cons.mpr ⟨gm_cp307, List.forall_mem_cons.mpr ⟨gm_cp308, List.forall_mem_cons.mpr ⟨gm_cp309, List.forall_mem_cons.mpr ⟨gm_cp310, List.forall_mem_cons.mpr ⟨gm_cp311, List.forall_mem_cons.mpr ⟨gm_cp312, List.forall_mem_cons.mpr ⟨gm_cp313, List.forall_mem_cons.mpr ⟨gm_cp314, List.forall_mem_cons.mpr ⟨gm_cp315, List.forall_mem_cons.mpr ⟨gm_cp316, List.forall_mem_cons.mpr ⟨gm_cp317, List.forall_mem_cons.mpr ⟨gm_cp318, List.forall_mem_cons.mpr ⟨gm_cp319, List.forall_mem_cons.mpr ⟨gm_cp320, List.forall_mem_cons.mpr ⟨gm_cp321, List.forall_mem_cons.mpr ⟨gm_cp322, List.forall_mem_cons.mpr ⟨gm_cp323, List.forall_mem_cons.mpr ⟨gm_cp324, List.forall_mem_cons.mpr ⟨gm_cp325, List.forall_mem_cons.mpr ⟨gm_cp326, List.forall_mem_cons.mpr ⟨gm_cp327, List.forall_mem_cons.mpr ⟨gm_cp328, List.forall_mem_cons.mpr ⟨gm_cp329, fun _ h => absurd h List.not_mem_nil⟩⟩⟩⟩⟩⟩⟩⟩⟩⟩⟩⟩⟩⟩⟩⟩⟩⟩⟩⟩⟩⟩⟩⟩⟩⟩⟩⟩⟩⟩
set_option maxRecDepth 100000 in
theorem gm_cpr330 : ∀ w ∈ (List.range' 330 30).map gm_cwd, w ∈ gm_T := List.forall_mem_cons.mpr ⟨gm_cp330, List.forall_mem_cons.mpr ⟨gm_cp331, List.forall_mem_cons.mpr ⟨gm_cp332, List.forall_mem_cons.mpr ⟨gm_cp333, List.forall_mem_cons.mpr ⟨gm_cp334, List.forall_mem_cons.mpr ⟨gm_cp335, List.forall_mem_cons.mpr ⟨gm_cp336, List.forall_mem_cons.mpr ⟨gm_cp337, List.forall_mem_cons.mpr ⟨gm_cp338, List.forall_mem_cons.mpr ⟨gm_cp339, List.forall_mem_cons.mpr ⟨gm_cp340, List.forall_mem_cons.mpr ⟨gm_cp341, List.forall_mem_cons.mpr ⟨gm_cp342, List.forall_mem_cons.mpr ⟨gm_cp343, List.forall_mem_cons.mpr ⟨gm_cp344, List.forall_mem_cons.mpr ⟨gm_cp345, List.forall_mem_cons.mpr ⟨gm_cp346, List.forall_mem_cons.mpr ⟨gm_cp347, List.forall_mem_cons.mpr ⟨gm_cp348, List.forall_mem_cons.mpr ⟨gm_cp349, List.forall_mem_cons.mpr ⟨gm_cp350, List.forall_mem_cons.mpr ⟨gm_cp351, List.forall_mem_cons.mpr ⟨gm_cp352, List.forall_mem_cons.mpr ⟨gm_cp353, List.forall_mem_cons.mpr ⟨gm_cp354, List.forall_mem_cons.mpr ⟨gm_cp355, List.forall_mem_cons.mpr ⟨gm_cp356, List.forall_mem_cons.mpr ⟨gm_cp357, List.forall_mem_cons.mpr ⟨gm_cp358, List.forall_mem_cons.mpr ⟨gm_cp359, fun _ h => absurd h List.not_mem_nil⟩⟩⟩⟩⟩⟩⟩⟩⟩⟩⟩⟩⟩⟩⟩⟩⟩⟩⟩⟩⟩⟩⟩⟩⟩⟩⟩⟩⟩⟩
set_option maxRecDepth 100000 in
theorem gm_cpr360 : ∀ w ∈ (List.range' 360 9).map gm_cwd, w ∈ gm_T := List.forall_mem_cons.mpr ⟨gm_cp360, List.forall_mem_cons.mpr ⟨gm_cp361, List.forall_mem_cons.mpr ⟨gm_cp362, List.forall_mem_cons.mpr ⟨gm_cp363, List.forall_mem_cons.mpr ⟨gm_cp364, List.forall_mem_cons.mpr ⟨gm_cp365, List.forall_mem_cons.mpr ⟨gm_cp366, List.forall_mem_cons.mpr ⟨gm_cp367, List.forall_mem_cons.mpr ⟨gm_cp368, fun _ h => absurd h List.not_mem_nil⟩⟩⟩⟩⟩⟩⟩⟩⟩
theorem gm_cp_ok {mi : Nat} (h : mi < 369) : gm_cwd mi ∈ gm_T := by
  have key : ∀ a k : Nat, (∀ w ∈ (List.range' a k).map gm_cwd, w ∈ gm_T) → a ≤ mi → mi < a + k → gm_cwd mi ∈ gm_T := fun a k h1 h2 h3 => h1 _ (List.mem_map.mpr ⟨mi, List.mem_range'_1.mpr ⟨h2, h3⟩, rfl⟩)
  rcases Nat.lt_or_ge mi 30 with h0 | h0
  · exact key 0 30 gm_cpr0 (by omega) (by omega)
  rcases Nat.lt_or_ge mi 60 with h30 | h30
  · exact key 30 30 gm_cpr30 (by omega) (by omega)
  rcases Nat.lt_or_ge mi 90 with h60 | h60
  · exact key 60 30 gm_cpr60 (by omega) (by omega)
  rcases Nat.lt_or_ge mi 120 with h90 | h90
  · exact key 90 30 gm_cpr90 (by omega) (by omega)
  rcases Nat.lt_or_ge mi 150 with h120 | h120
  · exact key 120 30 gm_cpr120 (by omega) (by omega)
  rcases Nat.lt_or_ge mi 180 with h150 | h150
  · exact key 150 30 gm_cpr150 (by omega) (by omega)
  rcases Nat.lt_or_ge mi 210 with h180 | h180
  · exact key 180 30 gm_cpr180 (by omega) (by omega)
  rcases Nat.lt_or_ge mi 240 with h210 | h210
  · exact key 210 30 gm_cpr210 (by omega) (by omega)
  rcases Nat.lt_or_ge mi 270 with h240 | h240
  · exact key 240 30 gm_cpr240 (by omega) (by omega)
  rcases Nat.lt_or_ge mi 300 with h270 | h270
  · exact key 270 30 gm_cpr270 (by omega) (by omega)
  rcases Nat.lt_or_ge mi 330 with h300 | h300
  · exact key 300 30 gm_cpr300 (by omega) (by omega)
  rcases Nat.lt_or_ge mi 360 with h330 | h330
  · exact key 330 30 gm_cpr330 (by omega) (by omega)
  exact key 360 9 gm_cpr360 (by omega) (by omega)
theorem gm_mck0 : ((List.range 30).drop 0).all gm_mck = true := by decide +kernel
theorem gm_mck30 : ((List.range 60).drop 30).all gm_mck = true := by decide +kernel
theorem gm_mck60 : ((List.range 90).drop 60).all gm_mck = true := by decide +kernel
theorem gm_mck90 : ((List.range 120).drop 90).all gm_mck = true := by decide +kernel
theorem gm_mck120 : ((List.range 150).drop 120).all gm_mck = true := by decide +kernel
theorem gm_mck150 : ((List.range 180).drop 150).all gm_mck = true := by decide +kernel
theorem gm_mck180 : ((List.range 210).drop 180).all gm_mck = true := by decide +kernel
theorem gm_mck210 : ((List.range 240).drop 210).all gm_mck = true := by decide +kernel
theorem gm_mck240 : ((List.range 270).drop 240).all gm_mck = true := by decide +kernel
theorem gm_mck270 : ((List.range 300).drop 270).all gm_mck = true := by decide +kernel
theorem gm_mck300 : ((List.range 330).drop 300).all gm_mck = true := by decide +kernel
theorem gm_mck330 : ((List.range 360).drop 330).all gm_mck = true := by decide +kernel
theorem gm_mck360 : ((List.range 369).drop 360).all gm_mck = true := by decide +kernel
theorem gm_mck_ok {mi : Nat} (h : mi < 369) : gm_mck mi = true := by
  have key : ∀ a z : Nat, ((List.range z).drop a).all gm_mck = true → a ≤ mi → mi < z → gm_mck mi = true := by
    intro a z h1 h2 h3
    refine List.all_eq_true.mp h1 mi (List.mem_iff_getElem?.mpr ⟨mi - a, ?_⟩)
    rw [List.getElem?_drop, List.getElem?_range (by omega)]
    congr 1; omega
  rcases Nat.lt_or_ge mi 30 with h0 | h0
  · exact key 0 30 gm_mck0 (by omega) (by omega)
  rcases Nat.lt_or_ge mi 60 with h30 | h30
  · exact key 30 60 gm_mck30 (by omega) (by omega)
  rcases Nat.lt_or_ge mi 90 with h60 | h60
  · exact key 60 90 gm_mck60 (by omega) (by omega)
  rcases Nat.lt_or_ge mi 120 with h90 | h90
  · exact key 90 120 gm_mck90 (by omega) (by omega)
  rcases Nat.lt_or_ge mi 150 with h120 | h120
  · exact key 120 150 gm_mck120 (by omega) (by omega)
  rcases Nat.lt_or_ge mi 180 with h150 | h150
  · exact key 150 180 gm_mck150 (by omega) (by omega)
  rcases Nat.lt_or_ge mi 210 with h180 | h180
  · exact key 180 210 gm_mck180 (by omega) (by omega)
  rcases Nat.lt_or_ge mi 240 with h210 | h210
  · exact key 210 240 gm_mck210 (by omega) (by omega)
  rcases Nat.lt_or_ge mi 270 with h240 | h240
  · exact key 240 270 gm_mck240 (by omega) (by omega)
  rcases Nat.lt_or_ge mi 300 with h270 | h270
  · exact key 270 300 gm_mck270 (by omega) (by omega)
  rcases Nat.lt_or_ge mi 330 with h300 | h300
  · exact key 300 330 gm_mck300 (by omega) (by omega)
  rcases Nat.lt_or_ge mi 360 with h330 | h330
  · exact key 330 360 gm_mck330 (by omega) (by omega)
  exact key 360 369 gm_mck360 (by omega) (by omega)
/-- class of the code, place in the pool, kind (0 virtual, 1 constructor, 2 static, 3 a nest mate's constructor, 5 static with a table), the method; words -/
def gm_cl_ : List (Nat × Nat × Nat × Nat × Nat × Nat × Nat × Nat) := [(15, 135, 1, 0, 185, 186, 0, 154), (0, 22, 3, 1, 193, 194, 0, 155), (1, 42, 1, 2, 199, 200, 0, 156), (0, 39, 1, 3, 309, 310, 0, 157), (3, 24, 3, 1, 315, 194, 0, 155), (0, 46, 1, 4, 328, 329, 0, 158), (4, 38, 0, 5, 332, 333, 334, 158), (4, 41, 0, 6, 336, 338, 0, 158), (4, 44, 0, 7, 341, 343, 1, 158), (4, 57, 2, 8, 345, 346, 0, 159), (4, 67, 0, 9, 348, 349, 350, 156), (4, 73, 0, 10, 352, 353, 354, 156), (4, 77, 2, 11, 356, 357, 0, 160), (4, 47, 0, 12, 359, 361, 2, 158), (0, 55, 1, 13, 388, 389, 0, 161), (0, 67, 1, 14, 426, 427, 0, 162), (8, 11, 1, 2, 431, 200, 0, 156), (0, 76, 1, 15, 447, 448, 0, 164), (9, 3, 1, 16, 450, 451, 0, 163), (10, 11, 1, 17, 456, 457, 0, 165), (0, 85, 1, 18, 504, 505, 0, 166), (12, 3, 1, 16, 507, 451, 0, 163), (12, 11, 1, 2, 509, 200, 0, 156), (0, 94, 1, 2, 523, 200, 0, 156), (15, 139, 0, 19, 579, 580, 581, 154), (0, 110, 0, 20, 583, 585, 3, 154), (15, 144, 0, 21, 587, 588, 589, 154), (15, 158, 0, 22, 591, 592, 593, 154), (15, 214, 0, 23, 595, 596, 597, 154), (0, 254, 0, 24, 599, 601, 4, 154), (0, 277, 0, 9, 603, 349, 350, 156), (0, 390, 0, 25, 604, 605, 606, 156), (2, 25, 2, 26, 608, 609, 0, 160), (2, 31, 2, 11, 611, 357, 0, 160), (2, 34, 2, 8, 612, 346, 0, 159), (0, 217, 0, 27, 613, 614, 615, 161), (7, 48, 0, 10, 617, 353, 354, 156), (7, 54, 0, 28, 618, 619, 620, 155), (1, 72, 0, 10, 622, 353, 354, 156), (7, 58, 0, 29, 623, 624, 625, 161), (0, 295, 0, 30, 627, 628, 629, 161), (7, 68, 0, 31, 631, 632, 633, 161), (7, 112, 0, 32, 635, 636, 637, 161), (7, 72, 0, 33, 639, 641, 5, 161), (7, 91, 2, 26, 643, 609, 0, 160), (7, 96, 0, 34, 644, 645, 646, 158), (7, 100, 2, 11, 648, 357, 0, 160), (7, 76, 0, 35, 649, 650, 651, 158), (4, 90, 0, 36, 653, 654, 655, 158), (4, 97, 0, 37, 657, 659, 6, 158), (4, 118, 2, 38, 662, 663, 0, 159), (4, 101, 0, 39, 665, 667, 7, 158), (4, 123, 0, 34, 669, 645, 646, 158), (4, 105, 0, 40, 670, 671, 672, 178), (13, 26, 0, 9, 674, 349, 350, 156), (13, 30, 0, 10, 675, 353, 354, 156), (13, 34, 0, 41, 676, 678, 8, 178), (4, 109, 2, 26, 681, 609, 0, 160), (4, 112, 0, 42, 682, 684, 9, 158), (7, 82, 0, 43, 687, 689, 10, 161), (7, 106, 0, 44, 691, 692, 693, 158), (7, 109, 0, 9, 695, 349, 350, 156), (0, 250, 0, 45, 696, 697, 698, 156), (0, 186, 0, 10, 700, 353, 354, 156), (15, 218, 0, 46, 701, 702, 703, 154), (0, 315, 0, 47, 705, 707, 11, 154), (0, 450, 0, 28, 709, 619, 620, 155), (15, 238, 0, 48, 710, 711, 712, 154), (0, 354, 2, 49, 714, 715, 0, 182), (0, 359, 0, 50, 720, 722, 12, 154), (0, 347, 0, 51, 724, 726, 13, 154), (15, 268, 0, 52, 728, 729, 730, 154), (0, 402, 0, 53, 732, 734, 14, 154), (15, 287, 0, 54, 736, 737, 738, 154), (0, 419, 0, 55, 740, 741, 742, 157), (3, 25, 0, 56, 744, 746, 15, 157), (3, 29, 0, 57, 748, 749, 750, 155), (1, 64, 0, 58, 752, 753, 754, 156), (15, 292, 0, 59, 759, 760, 761, 154), (0, 114, 0, 57, 763, 749, 750, 155), (15, 296, 0, 60, 764, 765, 766, 154), (0, 136, 0, 61, 768, 770, 16, 154), (0, 154, 0, 5, 772, 333, 334, 158), (0, 157, 0, 62, 773, 774, 775, 157), (15, 300, 0, 63, 777, 778, 779, 154), (0, 150, 0, 64, 781, 783, 17, 154), (0, 192, 0, 65, 785, 787, 18, 154), (0, 257, 0, 66, 789, 791, 19, 154), (0, 408, 0, 67, 793, 795, 20, 154), (0, 435, 0, 68, 797, 799, 21, 154), (0, 438, 0, 69, 801, 802, 803, 157), (15, 149, 5, 70, 805, 806, 0, 153), (15, 7, 0, 71, 810, 811, 812, 154), (12, 28, 0, 25, 826, 605, 606, 156), (10, 27, 0, 75, 830, 831, 832, 165), (11, 37, 2, 26, 834, 609, 0, 160), (11, 43, 0, 76, 835, 836, 837, 165), (11, 46, 2, 77, 839, 840, 0, 165), (11, 50, 2, 78, 842, 843, 0, 165), (12, 43, 0, 80, 851, 853, 22, 166), (12, 84, 0, 81, 856, 857, 858, 165), (11, 53, 0, 82, 860, 861, 862, 169), (16, 335, 0, 83, 864, 865, 866, 169), (11, 58, 0, 84, 870, 871, 872, 169), (16, 492, 0, 85, 874, 875, 876, 169), (16, 495, 2, 86, 878, 879, 0, 170), (17, 9, 2, 87, 881, 882, 0, 169), (16, 1059, 2, 88, 886, 887, 0, 171), (16, 498, 2, 89, 889, 890, 0, 172), (19, 67, 2, 90, 892, 893, 0, 172), (19, 48, 2, 91, 895, 896, 0, 172), (19, 414, 2, 87, 898, 882, 0, 169), (19, 71, 2, 92, 899, 900, 0, 172), (12, 51, 0, 93, 910, 911, 912, 165), (12, 57, 0, 76, 914, 836, 837, 165), (12, 61, 0, 94, 915, 916, 917, 165), (11, 69, 0, 93, 919, 911, 912, 165), (12, 67, 0, 95, 921, 922, 923, 165), (11, 62, 0, 81, 925, 857, 858, 165), (12, 71, 0, 96, 926, 928, 23, 166), (12, 91, 0, 97, 930, 932, 24, 166), (12, 105, 0, 98, 935, 936, 937, 165), (12, 94, 0, 99, 939, 941, 25, 166), (12, 113, 0, 100, 945, 947, 26, 166), (12, 119, 0, 101, 949, 951, 27, 166), (12, 75, 0, 102, 963, 964, 965, 156), (12, 78, 0, 45, 967, 697, 698, 156), (9, 21, 0, 81, 972, 857, 858, 165), (9, 27, 0, 104, 973, 975, 28, 164), (9, 79, 0, 105, 977, 978, 979, 155), (1, 68, 0, 9, 981, 349, 350, 156), (9, 76, 0, 93, 982, 911, 912, 165), (9, 84, 0, 76, 983, 836, 837, 165), (9, 88, 0, 94, 984, 916, 917, 165), (9, 33, 0, 106, 986, 988, 29, 164), (9, 38, 0, 107, 991, 993, 30, 164), (9, 105, 0, 108, 995, 996, 997, 156), (9, 110, 0, 9, 999, 349, 350, 156), (9, 114, 0, 10, 1000, 353, 354, 156), (9, 117, 0, 102, 1001, 964, 965, 156), (9, 120, 0, 45, 1002, 697, 698, 156), (9, 124, 0, 109, 1003, 1005, 31, 164), (9, 43, 0, 110, 1008, 1010, 32, 164), (9, 128, 0, 111, 1012, 1014, 33, 164), (9, 133, 0, 112, 1017, 1018, 1019, 165), (11, 66, 0, 95, 1021, 922, 923, 165), (9, 48, 0, 113, 1023, 1025, 34, 164), (9, 53, 0, 114, 1028, 1030, 35, 164), (9, 58, 0, 115, 1033, 1035, 36, 164), (9, 63, 0, 116, 1038, 1040, 37, 164), (9, 149, 0, 117, 1042, 1044, 38, 164), (9, 154, 0, 95, 1047, 922, 923, 165), (9, 68, 0, 118, 1049, 1051, 39, 164), (9, 160, 0, 119, 1053, 1054, 1055, 155), (1, 76, 0, 102, 1057, 964, 965, 156), (1, 79, 0, 45, 1058, 697, 698, 156), (9, 73, 0, 120, 1060, 1062, 40, 164), (10, 38, 0, 98, 1064, 936, 937, 165), (10, 42, 0, 121, 1065, 1066, 1067, 165), (10, 46, 0, 93, 1069, 911, 912, 165), (15, 155, 5, 122, 1155, 1156, 0, 153), (15, 17, 0, 123, 1158, 1159, 1160, 154), (0, 142, 0, 124, 1166, 1167, 1168, 166), (12, 34, 2, 125, 1171, 1172, 0, 159), (5, 304, 2, 26, 1181, 609, 0, 160), (12, 40, 1, 126, 1183, 1184, 0, 178), (13, 11, 1, 2, 1188, 200, 0, 156), (13, 18, 0, 58, 1189, 753, 754, 156), (15, 162, 5, 127, 1198, 1199, 0, 153), (15, 20, 0, 128, 1201, 1202, 1203, 154), (0, 160, 0, 129, 1205, 1207, 42, 154), (0, 163, 0, 34, 1210, 645, 646, 158), (15, 166, 5, 130, 1211, 1212, 0, 153), (15, 24, 0, 131, 1215, 1216, 1217, 154), (0, 166, 0, 132, 1219, 1221, 43, 154), (0, 306, 0, 133, 1223, 1225, 44, 154), (0, 169, 0, 134, 1243, 1245, 45, 154), (0, 172, 0, 36, 1247, 654, 655, 158), (15, 170, 5, 135, 1248, 1249, 0, 153), (15, 30, 0, 136, 1251, 1252, 1253, 154), (0, 176, 0, 35, 1255, 650, 651, 158), (15, 174, 5, 137, 1256, 1257, 0, 153), (15, 34, 0, 138, 1260, 1261, 1262, 154), (0, 180, 0, 139, 1264, 1266, 46, 154), (0, 189, 0, 140, 1268, 1270, 47, 154), (15, 177, 5, 141, 1288, 1289, 0, 153), (15, 39, 0, 142, 1291, 1292, 1293, 154), (0, 200, 0, 143, 1295, 1297, 48, 154), (0, 206, 0, 144, 1299, 1301, 49, 154), (0, 212, 0, 145, 1303, 1305, 50, 154), (0, 447, 0, 32, 1307, 636, 637, 161), (0, 411, 0, 31, 1308, 632, 633, 161), (15, 180, 5, 146, 1310, 1311, 0, 153), (15, 42, 0, 147, 1313, 1314, 1315, 154), (0, 220, 0, 148, 1317, 1318, 1319, 161), (0, 229, 2, 26, 1321, 609, 0, 160), (15, 183, 5, 149, 1322, 1323, 0, 153), (15, 45, 0, 150, 1325, 1326, 1327, 154), (15, 186, 5, 151, 1329, 1330, 0, 153), (15, 48, 0, 152, 1332, 1333, 1334, 154), (0, 234, 0, 153, 1336, 1338, 51, 154), (0, 237, 0, 108, 1341, 996, 997, 156), (0, 243, 0, 154, 1343, 1344, 1345, 157), (3, 33, 2, 26, 1347, 609, 0, 160), (0, 246, 0, 119, 1348, 1054, 1055, 155), (15, 189, 5, 155, 1349, 1350, 0, 153), (15, 51, 0, 156, 1352, 1353, 1354, 154), (15, 192, 5, 157, 1356, 1357, 0, 153), (15, 54, 0, 158, 1360, 1361, 1362, 154), (0, 266, 0, 159, 1380, 1381, 1382, 155), (15, 195, 5, 160, 1384, 1385, 0, 153), (15, 59, 0, 161, 1387, 1388, 1389, 154), (0, 274, 0, 162, 1392, 1394, 52, 154), (0, 280, 0, 163, 1396, 1398, 53, 154), (0, 283, 0, 164, 1400, 1401, 1402, 158), (4, 132, 0, 165, 1404, 1405, 1406, 178), (15, 198, 5, 166, 1408, 1409, 0, 153), (15, 62, 0, 167, 1411, 1412, 1413, 154), (0, 291, 0, 29, 1417, 624, 625, 161), (15, 202, 5, 168, 1418, 1419, 0, 153), (15, 66, 0, 169, 1421, 1422, 1423, 154), (0, 298, 0, 170, 1425, 1426, 1427, 161), (15, 205, 5, 171, 1429, 1430, 0, 153), (15, 69, 0, 172, 1432, 1433, 1434, 154), (15, 208, 5, 173, 1437, 1438, 0, 153), (15, 72, 0, 174, 1440, 1441, 1442, 154), (0, 309, 0, 175, 1444, 1445, 1446, 161), (15, 211, 5, 176, 1448, 1449, 0, 153), (15, 75, 0, 177, 1451, 1452, 1453, 154), (15, 223, 5, 178, 1455, 1456, 0, 153), (15, 78, 0, 179, 1458, 1459, 1460, 154), (0, 319, 0, 180, 1462, 1464, 54, 154), (0, 323, 0, 181, 1466, 1468, 55, 154), (0, 326, 0, 182, 1470, 1472, 56, 154), (0, 396, 2, 11, 1474, 357, 0, 160), (0, 329, 0, 183, 1475, 1477, 57, 154), (0, 332, 0, 184, 1479, 1481, 58, 154), (15, 226, 5, 185, 1483, 1484, 0, 153), (15, 81, 0, 186, 1486, 1487, 1488, 154), (0, 335, 0, 187, 1490, 1492, 59, 154), (0, 338, 0, 188, 1495, 1497, 60, 154), (15, 229, 5, 189, 1499, 1500, 0, 153), (15, 84, 0, 190, 1502, 1503, 1504, 154), (15, 232, 5, 191, 1506, 1507, 0, 153), (15, 87, 0, 192, 1509, 1510, 1511, 154), (0, 341, 0, 193, 1513, 1515, 61, 154), (15, 235, 5, 194, 1517, 1518, 0, 153), (15, 90, 0, 195, 1520, 1521, 1522, 154), (15, 242, 5, 196, 1524, 1525, 0, 153), (15, 94, 0, 197, 1527, 1528, 1529, 154), (0, 362, 0, 198, 1531, 1533, 62, 154), (0, 367, 0, 199, 1536, 1538, 63, 154), (15, 245, 5, 200, 1540, 1541, 0, 153), (15, 97, 0, 201, 1543, 1544, 1545, 154), (0, 370, 0, 202, 1547, 1548, 1549, 162), (8, 36, 0, 9, 1551, 349, 350, 156), (8, 40, 0, 25, 1552, 605, 606, 156), (8, 48, 0, 203, 1553, 1555, 64, 162), (8, 52, 0, 10, 1557, 353, 354, 156), (8, 56, 0, 170, 1558, 1426, 1427, 161), (8, 61, 0, 30, 1559, 628, 629, 161), (8, 65, 0, 45, 1560, 697, 698, 156), (8, 69, 2, 26, 1561, 609, 0, 160), (0, 373, 0, 204, 1562, 1563, 1564, 162), (0, 376, 0, 205, 1566, 1567, 1568, 162), (15, 249, 5, 206, 1570, 1571, 0, 153), (15, 101, 0, 207, 1573, 1574, 1575, 154), (0, 381, 0, 208, 1578, 1579, 1580, 162), (8, 74, 0, 204, 1582, 1563, 1564, 162), (8, 77, 0, 209, 1583, 1585, 65, 162), (15, 252, 5, 210, 1587, 1588, 0, 153), (15, 104, 0, 211, 1590, 1591, 1592, 154), (15, 255, 5, 212, 1594, 1595, 0, 153), (15, 107, 0, 213, 1597, 1598, 1599, 154), (0, 384, 0, 214, 1601, 1603, 66, 154), (0, 387, 0, 215, 1605, 1607, 67, 154), (0, 393, 0, 216, 1609, 1611, 68, 154), (15, 259, 5, 217, 1613, 1614, 0, 153), (15, 111, 0, 218, 1616, 1617, 1618, 154), (0, 399, 0, 219, 1620, 1622, 69, 154), (15, 262, 5, 220, 1624, 1625, 0, 153), (15, 114, 0, 221, 1627, 1628, 1629, 154), (15, 265, 5, 222, 1631, 1632, 0, 153), (15, 117, 0, 223, 1634, 1635, 1636, 154), (15, 272, 5, 224, 1638, 1639, 0, 153), (15, 120, 0, 225, 1641, 1642, 1643, 154), (15, 275, 5, 226, 1645, 1646, 0, 153), (15, 123, 0, 227, 1648, 1649, 1650, 154), (15, 278, 5, 228, 1652, 1653, 0, 153), (15, 126, 0, 229, 1655, 1656, 1657, 154), (15, 281, 5, 230, 1659, 1660, 0, 153), (15, 129, 0, 231, 1662, 1663, 1664, 154), (15, 284, 5, 232, 1666, 1667, 0, 153), (15, 132, 0, 233, 1669, 1670, 1671, 154), (15, 138, 1, 234, 1676, 1677, 0, 167), (20, 72, 0, 235, 1680, 1682, 70, 167), (15, 295, 0, 236, 1803, 1804, 1805, 167), (15, 299, 0, 237, 1807, 1808, 1809, 167), (15, 291, 0, 238, 1811, 1812, 1813, 167), (15, 143, 0, 239, 1815, 1816, 1817, 167), (15, 148, 0, 240, 1819, 1820, 1821, 167), (15, 161, 0, 241, 1823, 1824, 1825, 167), (15, 154, 0, 242, 1827, 1828, 1829, 167), (20, 296, 0, 243, 1831, 1833, 71, 167), (20, 289, 0, 244, 1835, 1837, 72, 167), (20, 119, 0, 245, 1839, 1841, 73, 167), (20, 112, 0, 246, 1843, 1845, 74, 167), (20, 292, 0, 247, 1847, 1849, 75, 167), (20, 131, 0, 248, 1851, 1853, 76, 167), (20, 283, 0, 249, 1855, 1857, 77, 167), (20, 134, 0, 250, 1860, 1862, 78, 167), (20, 122, 0, 82, 1864, 861, 862, 169), (20, 127, 0, 84, 1865, 871, 872, 169), (20, 182, 0, 251, 1866, 1868, 79, 167), (20, 145, 0, 252, 1870, 1872, 80, 167), (20, 97, 0, 253, 1874, 1876, 81, 167), (20, 100, 0, 254, 1878, 1880, 82, 167), (20, 142, 0, 255, 1882, 1884, 83, 167), (20, 138, 0, 256, 1886, 1888, 84, 167), (20, 187, 0, 257, 1891, 1893, 85, 167), (20, 192, 0, 258, 1896, 1898, 86, 167), (20, 94, 0, 259, 1900, 1902, 87, 167), (20, 149, 0, 260, 1904, 1906, 88, 167), (20, 86, 0, 261, 1908, 1910, 89, 167), (20, 197, 0, 262, 1913, 1915, 90, 167), (20, 153, 0, 263, 1917, 1919, 91, 167), (20, 158, 0, 264, 1922, 1924, 92, 167), (20, 202, 0, 265, 1927, 1929, 93, 167), (20, 162, 0, 266, 1931, 1933, 94, 167), (20, 207, 0, 267, 1936, 1938, 95, 167), (20, 165, 0, 268, 1940, 1942, 96, 167), (20, 170, 0, 269, 1945, 1947, 97, 167), (20, 212, 0, 270, 1950, 1952, 98, 167), (20, 177, 0, 271, 1954, 1956, 99, 167), (20, 173, 0, 272, 1958, 1960, 100, 167), (20, 217, 0, 273, 1963, 1965, 101, 167), (20, 286, 0, 274, 1969, 1971, 102, 167), (20, 253, 0, 275, 1977, 1979, 103, 167), (20, 270, 0, 276, 1981, 1983, 104, 167), (20, 258, 0, 277, 1985, 1987, 105, 167), (20, 248, 0, 278, 1989, 1991, 106, 167), (20, 227, 0, 279, 1994, 1996, 107, 167), (20, 265, 0, 280, 2000, 2002, 108, 167), (20, 245, 0, 281, 2004, 2006, 109, 167), (20, 300, 0, 282, 2017, 2019, 110, 167), (15, 157, 0, 283, 2021, 2022, 2023, 167), (15, 165, 0, 284, 2025, 2026, 2027, 167), (20, 353, 2, 285, 2029, 2030, 0, 167), (20, 90, 2, 286, 2032, 2033, 0, 167), (15, 169, 0, 287, 2035, 2036, 2037, 167), (20, 356, 0, 288, 2039, 2041, 111, 167), (20, 359, 0, 289, 2043, 2045, 112, 167), (20, 338, 0, 290, 2047, 2049, 113, 167), (15, 173, 0, 291, 2051, 2052, 2053, 167), (20, 362, 0, 292, 2055, 2057, 114, 167), (20, 334, 0, 293, 2059, 2061, 115, 167), (20, 341, 0, 294, 2063, 2065, 116, 167), (20, 327, 0, 295, 2067, 2069, 117, 167), (20, 324, 0, 296, 2071, 2073, 118, 167), (20, 345, 2, 26, 2075, 609, 0, 160), (20, 350, 2, 11, 2076, 357, 0, 160), (15, 176, 0, 297, 2077, 2078, 2079, 167), (20, 393, 0, 298, 2081, 2083, 119, 167), (20, 396, 0, 299, 2085, 2087, 120, 167), (20, 399, 0, 300, 2089, 2091, 121, 167), (20, 82, 0, 301, 2093, 2095, 122, 167), (20, 390, 0, 302, 2097, 2099, 123, 167), (20, 374, 0, 303, 2101, 2103, 124, 167), (20, 387, 0, 304, 2105, 2107, 125, 167), (20, 381, 0, 305, 2109, 2111, 126, 167), (20, 377, 0, 306, 2113, 2115, 127, 167), (20, 371, 0, 307, 2117, 2119, 128, 167), (15, 179, 0, 308, 2121, 2122, 2123, 167), (20, 405, 0, 309, 2125, 2127, 129, 167), (20, 408, 0, 310, 2129, 2131, 130, 167), (20, 402, 0, 311, 2133, 2135, 131, 167), (20, 384, 0, 312, 2137, 2139, 132, 167), (15, 182, 0, 313, 2141, 2142, 2143, 167), (15, 185, 0, 314, 2145, 2146, 2147, 167), (15, 188, 0, 315, 2149, 2150, 2151, 167), (20, 411, 0, 316, 2153, 2155, 133, 167), (15, 191, 0, 317, 2157, 2158, 2159, 167), (15, 194, 0, 318, 2161, 2162, 2163, 167), (20, 414, 0, 319, 2165, 2167, 134, 167), (15, 197, 0, 320, 2169, 2170, 2171, 167), (20, 423, 0, 321, 2173, 2175, 135, 167), (20, 420, 0, 322, 2177, 2179, 136, 167), (20, 417, 0, 323, 2181, 2183, 137, 167), (15, 201, 0, 324, 2185, 2186, 2187, 167), (20, 425, 0, 325, 2189, 2191, 138, 167), (15, 204, 0, 326, 2193, 2194, 2195, 167), (15, 207, 0, 327, 2197, 2198, 2199, 167), (15, 210, 0, 328, 2201, 2202, 2203, 167), (15, 213, 0, 329, 2205, 2206, 2207, 167), (15, 217, 0, 330, 2209, 2210, 2211, 167), (15, 222, 0, 331, 2213, 2214, 2215, 167), (20, 428, 0, 332, 2217, 2219, 139, 167), (20, 431, 0, 333, 2221, 2223, 140, 167), (15, 225, 0, 334, 2225, 2226, 2227, 167), (20, 438, 0, 335, 2229, 2231, 141, 167), (20, 441, 0, 336, 2233, 2235, 142, 167), (20, 435, 0, 337, 2237, 2239, 143, 167), (15, 228, 0, 338, 2241, 2242, 2243, 167), (20, 444, 0, 339, 2245, 2247, 144, 167), (15, 231, 0, 340, 2249, 2250, 2251, 167), (15, 234, 0, 341, 2253, 2254, 2255, 167), (20, 448, 0, 342, 2257, 2259, 145, 167), (20, 451, 0, 343, 2261, 2263, 146, 167), (15, 237, 0, 344, 2265, 2266, 2267, 167), (20, 457, 0, 345, 2269, 2271, 147, 167), (20, 454, 2, 346, 2273, 2274, 0, 167), (15, 241, 0, 347, 2276, 2277, 2278, 167), (20, 460, 2, 49, 2280, 715, 0, 182), (15, 244, 0, 348, 2281, 2282, 2283, 167), (15, 248, 0, 349, 2285, 2286, 2287, 167), (20, 471, 0, 350, 2289, 2291, 148, 167), (20, 465, 2, 351, 2293, 2294, 0, 167), (20, 468, 0, 352, 2296, 2298, 149, 167), (20, 474, 0, 353, 2300, 2302, 150, 167), (15, 251, 0, 354, 2304, 2305, 2306, 167), (20, 480, 0, 355, 2308, 2310, 151, 167), (15, 254, 0, 356, 2312, 2313, 2314, 167), (15, 258, 0, 357, 2316, 2317, 2318, 167), (20, 483, 0, 358, 2320, 2322, 152, 167), (15, 261, 0, 359, 2324, 2325, 2326, 167), (15, 264, 0, 360, 2328, 2329, 2330, 167), (15, 267, 0, 361, 2332, 2333, 2334, 167), (15, 271, 0, 362, 2336, 2337, 2338, 167), (15, 274, 0, 363, 2340, 2341, 2342, 167), (15, 277, 0, 364, 2344, 2345, 2346, 167), (15, 280, 0, 365, 2348, 2349, 2350, 167), (15, 283, 0, 366, 2352, 2353, 2354, 167), (15, 286, 0, 367, 2356, 2357, 2358, 167), (15, 303, 0, 368, 2360, 2361, 2362, 167)]
def gm_cck (q : Nat × Nat × Nat × Nat × Nat × Nat × Nat × Nat) : Bool := match q with
  | (o, ix, kd, mj, p1, p2, p3, p4) => decide (mj < 369) && (decide (lw_tbl[p4]? = some (.initialized (gm_mn mj).cls)) && (if kd = 3 then true else decide (lw_tbl[p1]? = some (.methodLink (gm_rn o) ix (gm_mn mj)))) && (if kd = 0 then decide (lw_tbl[p2]? = some (.instanceMethod (gm_mn mj))) && decide (lw_tbl[p3]? = some (.selects (gm_mn mj).cls (gm_mn mj) (gm_mn mj))) else if kd = 1 ∨ kd = 3 then decide (lw_tbl[p2]? = some (.instanceMethod (gm_mn mj))) && (decide ((gm_mn mj).name = "<init>") && decide (gm_rt mj = none)) else decide (lw_tbl[p2]? = some (.static (gm_mn mj)))) && (if kd = 5 then decide (gm_hh mj ≠ []) else decide (gm_hh mj = [])) && (if kd = 3 then gm_nst.any (fun r => decide (r.1 = gm_rn o ∧ r.2.1 = ix ∧ r.2.2.1 = gm_mn mj)) else true))
theorem gm_cl_len : gm_cl_.length = 434 := by decide +kernel
theorem gm_cl_ok0 : (gm_cl_.drop 0 |>.take 80).all gm_cck = true := by decide +kernel
theorem gm_cl_ok80 : (gm_cl_.drop 80 |>.take 80).all gm_cck = true := by decide +kernel
theorem gm_cl_ok160 : (gm_cl_.drop 160 |>.take 80).all gm_cck = true := by decide +kernel
theorem gm_cl_ok240 : (gm_cl_.drop 240 |>.take 80).all gm_cck = true := by decide +kernel
theorem gm_cl_ok320 : (gm_cl_.drop 320 |>.take 80).all gm_cck = true := by decide +kernel
theorem gm_cl_ok400 : (gm_cl_.drop 400 |>.take 80).all gm_cck = true := by decide +kernel
theorem gm_cl_ok {q : Nat × Nat × Nat × Nat × Nat × Nat × Nat × Nat} (h : q ∈ gm_cl_) : gm_cck q = true := by
  have key : ∀ a : Nat, ((gm_cl_.drop a).take 80).all gm_cck = true → ∀ i, a ≤ i → i < a + 80 → gm_cl_[i]? = some q → gm_cck q = true := by
    intro a h1 i h2 h3 h4
    refine List.all_eq_true.mp h1 q (List.mem_iff_getElem?.mpr ⟨i - a, ?_⟩)
    rw [List.getElem?_take_of_lt (by omega), List.getElem?_drop, show a + (i - a) = i by omega]; exact h4
  obtain ⟨i, hi⟩ := List.getElem?_of_mem h
  have hl : i < 434 := by rw [← gm_cl_len]; exact (List.getElem?_eq_some_iff.mp hi).1
  rcases Nat.lt_or_ge i 80 with h0 | h0
  · exact key 0 gm_cl_ok0 i (by omega) (by omega) hi
  rcases Nat.lt_or_ge i 160 with h80 | h80
  · exact key 80 gm_cl_ok80 i (by omega) (by omega) hi
  rcases Nat.lt_or_ge i 240 with h160 | h160
  · exact key 160 gm_cl_ok160 i (by omega) (by omega) hi
  rcases Nat.lt_or_ge i 320 with h240 | h240
  · exact key 240 gm_cl_ok240 i (by omega) (by omega) hi
  rcases Nat.lt_or_ge i 400 with h320 | h320
  · exact key 320 gm_cl_ok320 i (by omega) (by omega) hi
  exact key 400 gm_cl_ok400 i (by omega) (by omega) hi
def gm_co : List (List (Nat × Nat × Nat)) := [[(22, 3, 1), (39, 1, 3), (46, 1, 4), (55, 1, 13), (67, 1, 14), (76, 1, 15), (85, 1, 18), (94, 1, 2), (110, 0, 20), (254, 0, 24), (277, 0, 9), (390, 0, 25), (217, 0, 27), (295, 0, 30), (250, 0, 45), (186, 0, 10), (315, 0, 47), (450, 0, 28), (354, 2, 49), (359, 0, 50), (347, 0, 51), (402, 0, 53), (419, 0, 55), (114, 0, 57), (136, 0, 61), (154, 0, 5), (157, 0, 62), (150, 0, 64), (192, 0, 65), (257, 0, 66), (408, 0, 67), (435, 0, 68), (438, 0, 69), (142, 0, 124), (160, 0, 129), (163, 0, 34), (166, 0, 132), (306, 0, 133), (169, 0, 134), (172, 0, 36), (176, 0, 35), (180, 0, 139), (189, 0, 140), (200, 0, 143), (206, 0, 144), (212, 0, 145), (447, 0, 32), (411, 0, 31), (220, 0, 148), (229, 2, 26), (234, 0, 153), (237, 0, 108), (243, 0, 154), (246, 0, 119), (266, 0, 159), (274, 0, 162), (280, 0, 163), (283, 0, 164), (291, 0, 29), (298, 0, 170), (309, 0, 175), (319, 0, 180), (323, 0, 181), (326, 0, 182), (396, 2, 11), (329, 0, 183), (332, 0, 184), (335, 0, 187), (338, 0, 188), (341, 0, 193), (362, 0, 198), (367, 0, 199), (370, 0, 202), (373, 0, 204), (376, 0, 205), (381, 0, 208), (384, 0, 214), (387, 0, 215), (393, 0, 216), (399, 0, 219)], [(42, 1, 2), (72, 0, 10), (64, 0, 58), (68, 0, 9), (76, 0, 102), (79, 0, 45)], [(25, 2, 26), (31, 2, 11), (34, 2, 8)], [(24, 3, 1), (25, 0, 56), (29, 0, 57), (33, 2, 26)], [(38, 0, 5), (41, 0, 6), (44, 0, 7), (57, 2, 8), (67, 0, 9), (73, 0, 10), (77, 2, 11), (47, 0, 12), (90, 0, 36), (97, 0, 37), (118, 2, 38), (101, 0, 39), (123, 0, 34), (105, 0, 40), (109, 2, 26), (112, 0, 42), (132, 0, 165)], [(304, 2, 26)], [], [(48, 0, 10), (54, 0, 28), (58, 0, 29), (68, 0, 31), (112, 0, 32), (72, 0, 33), (91, 2, 26), (96, 0, 34), (100, 2, 11), (76, 0, 35), (82, 0, 43), (106, 0, 44), (109, 0, 9)], [(11, 1, 2), (36, 0, 9), (40, 0, 25), (48, 0, 203), (52, 0, 10), (56, 0, 170), (61, 0, 30), (65, 0, 45), (69, 2, 26), (74, 0, 204), (77, 0, 209)], [(3, 1, 16), (21, 0, 81), (27, 0, 104), (79, 0, 105), (76, 0, 93), (84, 0, 76), (88, 0, 94), (33, 0, 106), (38, 0, 107), (105, 0, 108), (110, 0, 9), (114, 0, 10), (117, 0, 102), (120, 0, 45), (124, 0, 109), (43, 0, 110), (128, 0, 111), (133, 0, 112), (48, 0, 113), (53, 0, 114), (58, 0, 115), (63, 0, 116), (149, 0, 117), (154, 0, 95), (68, 0, 118), (160, 0, 119), (73, 0, 120)], [(11, 1, 17), (27, 0, 75), (38, 0, 98), (42, 0, 121), (46, 0, 93)], [(37, 2, 26), (43, 0, 76), (46, 2, 77), (50, 2, 78), (53, 0, 82), (58, 0, 84), (69, 0, 93), (62, 0, 81), (66, 0, 95)], [(3, 1, 16), (11, 1, 2), (28, 0, 25), (43, 0, 80), (84, 0, 81), (51, 0, 93), (57, 0, 76), (61, 0, 94), (67, 0, 95), (71, 0, 96), (91, 0, 97), (105, 0, 98), (94, 0, 99), (113, 0, 100), (119, 0, 101), (75, 0, 102), (78, 0, 45), (34, 2, 125), (40, 1, 126)], [(26, 0, 9), (30, 0, 10), (34, 0, 41), (11, 1, 2), (18, 0, 58)], [], [(135, 1, 0), (139, 0, 19), (144, 0, 21), (158, 0, 22), (214, 0, 23), (218, 0, 46), (238, 0, 48), (268, 0, 52), (287, 0, 54), (292, 0, 59), (296, 0, 60), (300, 0, 63), (149, 5, 70), (7, 0, 71), (155, 5, 122), (17, 0, 123), (162, 5, 127), (20, 0, 128), (166, 5, 130), (24, 0, 131), (170, 5, 135), (30, 0, 136), (174, 5, 137), (34, 0, 138), (177, 5, 141), (39, 0, 142), (180, 5, 146), (42, 0, 147), (183, 5, 149), (45, 0, 150), (186, 5, 151), (48, 0, 152), (189, 5, 155), (51, 0, 156), (192, 5, 157), (54, 0, 158), (195, 5, 160), (59, 0, 161), (198, 5, 166), (62, 0, 167), (202, 5, 168), (66, 0, 169), (205, 5, 171), (69, 0, 172), (208, 5, 173), (72, 0, 174), (211, 5, 176), (75, 0, 177), (223, 5, 178), (78, 0, 179), (226, 5, 185), (81, 0, 186), (229, 5, 189), (84, 0, 190), (232, 5, 191), (87, 0, 192), (235, 5, 194), (90, 0, 195), (242, 5, 196), (94, 0, 197), (245, 5, 200), (97, 0, 201), (249, 5, 206), (101, 0, 207), (252, 5, 210), (104, 0, 211), (255, 5, 212), (107, 0, 213), (259, 5, 217), (111, 0, 218), (262, 5, 220), (114, 0, 221), (265, 5, 222), (117, 0, 223), (272, 5, 224), (120, 0, 225), (275, 5, 226), (123, 0, 227), (278, 5, 228), (126, 0, 229), (281, 5, 230), (129, 0, 231), (284, 5, 232), (132, 0, 233), (138, 1, 234), (295, 0, 236), (299, 0, 237), (291, 0, 238), (143, 0, 239), (148, 0, 240), (161, 0, 241), (154, 0, 242), (157, 0, 283), (165, 0, 284), (169, 0, 287), (173, 0, 291), (176, 0, 297), (179, 0, 308), (182, 0, 313), (185, 0, 314), (188, 0, 315), (191, 0, 317), (194, 0, 318), (197, 0, 320), (201, 0, 324), (204, 0, 326), (207, 0, 327), (210, 0, 328), (213, 0, 329), (217, 0, 330), (222, 0, 331), (225, 0, 334), (228, 0, 338), (231, 0, 340), (234, 0, 341), (237, 0, 344), (241, 0, 347), (244, 0, 348), (248, 0, 349), (251, 0, 354), (254, 0, 356), (258, 0, 357), (261, 0, 359), (264, 0, 360), (267, 0, 361), (271, 0, 362), (274, 0, 363), (277, 0, 364), (280, 0, 365), (283, 0, 366), (286, 0, 367), (303, 0, 368)], [(335, 0, 83), (492, 0, 85), (495, 2, 86), (1059, 2, 88), (498, 2, 89)], [(9, 2, 87)], [], [(67, 2, 90), (48, 2, 91), (414, 2, 87), (71, 2, 92)], [(72, 0, 235), (296, 0, 243), (289, 0, 244), (119, 0, 245), (112, 0, 246), (292, 0, 247), (131, 0, 248), (283, 0, 249), (134, 0, 250), (122, 0, 82), (127, 0, 84), (182, 0, 251), (145, 0, 252), (97, 0, 253), (100, 0, 254), (142, 0, 255), (138, 0, 256), (187, 0, 257), (192, 0, 258), (94, 0, 259), (149, 0, 260), (86, 0, 261), (197, 0, 262), (153, 0, 263), (158, 0, 264), (202, 0, 265), (162, 0, 266), (207, 0, 267), (165, 0, 268), (170, 0, 269), (212, 0, 270), (177, 0, 271), (173, 0, 272), (217, 0, 273), (286, 0, 274), (253, 0, 275), (270, 0, 276), (258, 0, 277), (248, 0, 278), (227, 0, 279), (265, 0, 280), (245, 0, 281), (300, 0, 282), (353, 2, 285), (90, 2, 286), (356, 0, 288), (359, 0, 289), (338, 0, 290), (362, 0, 292), (334, 0, 293), (341, 0, 294), (327, 0, 295), (324, 0, 296), (345, 2, 26), (350, 2, 11), (393, 0, 298), (396, 0, 299), (399, 0, 300), (82, 0, 301), (390, 0, 302), (374, 0, 303), (387, 0, 304), (381, 0, 305), (377, 0, 306), (371, 0, 307), (405, 0, 309), (408, 0, 310), (402, 0, 311), (384, 0, 312), (411, 0, 316), (414, 0, 319), (423, 0, 321), (420, 0, 322), (417, 0, 323), (425, 0, 325), (428, 0, 332), (431, 0, 333), (438, 0, 335), (441, 0, 336), (435, 0, 337), (444, 0, 339), (448, 0, 342), (451, 0, 343), (457, 0, 345), (454, 2, 346), (460, 2, 49), (471, 0, 350), (465, 2, 351), (468, 0, 352), (474, 0, 353), (480, 0, 355), (483, 0, 358)]]
/-- the call at a place of the pool: kind, method -/
def gm_cal (o ix : Nat) : Option (Nat × Nat) := ((gm_co[o]?).getD []).lookup ix
theorem gm_co_ok : (List.range gm_co.length).all (fun o => ((gm_co[o]?).getD []).all (fun q => gm_cl_.any (fun r => decide ((r.1, r.2.1, r.2.2.1, r.2.2.2.1) = (o, q.1, q.2.1, q.2.2))))) = true := by decide +kernel
