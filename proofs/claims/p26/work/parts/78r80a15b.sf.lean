/-! 78r80a15b.sf -/
section
/-! THE REFERENCE'S year. -/
set_option maxRecDepth 100000 in
/-- GlacierMailModel.year -/
def p2_s1205 : ck_Sum := ((9, 0, 0), 245, [.inr (.inr (.inl 226))], ([], [], [(227, 9, 9, (0, 298, [(11, 0)])), (227, 2, 2, (0, 8, [(20, 0)])), (227, 3, 3, (0, 8, [(21, 0)])), (227, 4, 4, (0, 24, [(22, 0)])), (227, 5, 5, (0, 8, [(23, 0)])), (227, 14, 14, (0, 24, [(26, 0)]))]), ([(226, 17, 23), (226, 26, 26), (226, 29, 30), (227, 9, 9), (227, 14, 14), (227, 124, 125), (227, 131, 132), (227, 138, 139), (227, 145, 146), (227, 152, 153), (227, 159, 160), (227, 166, 167), (227, 173, 174), (227, 180, 181), (227, 187, 188), (227, 194, 195), (227, 201, 202), (227, 208, 209), (227, 215, 216), (227, 222, 223), (227, 229, 230), (227, 236, 237), (227, 243, 244), (227, 250, 251), (227, 257, 258), (227, 264, 265), (227, 271, 272), (227, 278, 279), (227, 285, 286), (227, 323, 394), (233, 0, 399), (235, 0, 29699), (236, 0, 299), (237, 0, 299)], []), [(.inr (some (.inl (0, 24, []))), 245, ([], [], [(227, 9, 9, (1, 299, [(11, 1)]))]))])
def p2_s1205_E : List (Nat × List ck_Sum) := [(254, [p2_s176]), (302, [p2_s829, p2_s840, p2_s851, p2_s862, p2_s873, p2_s884, p2_s895, p2_s906, p2_s917, p2_s928, p2_s939, p2_s950, p2_s961, p2_s972, p2_s983, p2_s994, p2_s1005, p2_s1016, p2_s1027, p2_s1038, p2_s1049, p2_s1060, p2_s1071, p2_s1082]), (322, [p2_s1158, p2_s1160, p2_s1162, p2_s1164, p2_s1166, p2_s1168, p2_s1170, p2_s1172, p2_s1174, p2_s1176, p2_s1178, p2_s1180, p2_s1182, p2_s1184, p2_s1186, p2_s1188, p2_s1190, p2_s1192, p2_s1194, p2_s1196, p2_s1198, p2_s1200, p2_s1202, p2_s1204]), (319, [p2_s833, p2_s844, p2_s855, p2_s866, p2_s877, p2_s888, p2_s899, p2_s910, p2_s921, p2_s932, p2_s943, p2_s954, p2_s965, p2_s976, p2_s987, p2_s998, p2_s1009, p2_s1020, p2_s1031, p2_s1042, p2_s1053, p2_s1064, p2_s1075, p2_s1086])]
def p2_s1205_i : List (Nat × ck_C) := []
set_option maxRecDepth 100000 in
def p2_s1205_l : List ck_H := [(15, ([some (.inr (.inr (.inl 226))), some (.inl (0, 24, [])), some (.inl (ck_one 24)), some (.inl ((-1), 7, []))], ([], [], [(227, 9, 9, (1, 299, [(11, 1)])), (227, 2, 2, (0, 8, [(20, 0)])), (227, 3, 3, (0, 8, [(21, 0)])), (227, 4, 4, (24, 24, [(22, 0)])), (227, 5, 5, (0, 8, [(23, 0)]))]), 2000000, .inl 1, true), 0, 0, 245), (15, ([some (.inr (.inr (.inl 226))), some (.inl (0, 23, [])), some (.inl (ck_one 23)), some (.inl ((-1), 7, []))], ([], [], [(227, 9, 9, (1, 299, [(11, 1)])), (227, 2, 2, (0, 8, [(20, 0)])), (227, 3, 3, (0, 8, [(21, 0)])), (227, 4, 4, (23, 24, [(22, 0)])), (227, 5, 5, (0, 8, [(23, 0)]))]), 2000001, .inl 1, true), 0, 0, 245), (15, ([some (.inr (.inr (.inl 226))), some (.inl (0, 22, [])), some (.inl (ck_one 22)), some (.inl ((-1), 7, []))], ([], [], [(227, 9, 9, (1, 299, [(11, 1)])), (227, 2, 2, (0, 8, [(20, 0)])), (227, 3, 3, (0, 8, [(21, 0)])), (227, 4, 4, (22, 24, [(22, 0)])), (227, 5, 5, (0, 8, [(23, 0)]))]), 2000002, .inl 1, true), 0, 0, 245), (15, ([some (.inr (.inr (.inl 226))), some (.inl (0, 21, [])), some (.inl (ck_one 21)), some (.inl ((-1), 7, []))], ([], [], [(227, 9, 9, (1, 299, [(11, 1)])), (227, 2, 2, (0, 8, [(20, 0)])), (227, 3, 3, (0, 8, [(21, 0)])), (227, 4, 4, (21, 24, [(22, 0)])), (227, 5, 5, (0, 8, [(23, 0)]))]), 2000003, .inl 1, true), 0, 0, 245), (15, ([some (.inr (.inr (.inl 226))), some (.inl (0, 20, [])), some (.inl (ck_one 20)), some (.inl ((-1), 7, []))], ([], [], [(227, 9, 9, (1, 299, [(11, 1)])), (227, 2, 2, (0, 8, [(20, 0)])), (227, 3, 3, (0, 8, [(21, 0)])), (227, 4, 4, (20, 24, [(22, 0)])), (227, 5, 5, (0, 8, [(23, 0)]))]), 2000004, .inl 1, true), 0, 0, 245), (15, ([some (.inr (.inr (.inl 226))), some (.inl (0, 19, [])), some (.inl (ck_one 19)), some (.inl ((-1), 7, []))], ([], [], [(227, 9, 9, (1, 299, [(11, 1)])), (227, 2, 2, (0, 8, [(20, 0)])), (227, 3, 3, (0, 8, [(21, 0)])), (227, 4, 4, (19, 24, [(22, 0)])), (227, 5, 5, (0, 8, [(23, 0)]))]), 2000005, .inl 1, true), 0, 0, 245), (15, ([some (.inr (.inr (.inl 226))), some (.inl (0, 18, [])), some (.inl (ck_one 18)), some (.inl ((-1), 7, []))], ([], [], [(227, 9, 9, (1, 299, [(11, 1)])), (227, 2, 2, (0, 8, [(20, 0)])), (227, 3, 3, (0, 8, [(21, 0)])), (227, 4, 4, (18, 24, [(22, 0)])), (227, 5, 5, (0, 8, [(23, 0)]))]), 2000006, .inl 1, true), 0, 0, 245), (15, ([some (.inr (.inr (.inl 226))), some (.inl (0, 17, [])), some (.inl (ck_one 17)), some (.inl ((-1), 7, []))], ([], [], [(227, 9, 9, (1, 299, [(11, 1)])), (227, 2, 2, (0, 8, [(20, 0)])), (227, 3, 3, (0, 8, [(21, 0)])), (227, 4, 4, (17, 24, [(22, 0)])), (227, 5, 5, (0, 8, [(23, 0)]))]), 2000007, .inl 1, true), 0, 0, 245), (15, ([some (.inr (.inr (.inl 226))), some (.inl (0, 16, [])), some (.inl (ck_one 16)), some (.inl ((-1), 7, []))], ([], [], [(227, 9, 9, (1, 299, [(11, 1)])), (227, 2, 2, (0, 8, [(20, 0)])), (227, 3, 3, (0, 8, [(21, 0)])), (227, 4, 4, (16, 24, [(22, 0)])), (227, 5, 5, (0, 8, [(23, 0)]))]), 2000008, .inl 1, true), 0, 0, 245), (15, ([some (.inr (.inr (.inl 226))), some (.inl (0, 15, [])), some (.inl (ck_one 15)), some (.inl ((-1), 7, []))], ([], [], [(227, 9, 9, (1, 299, [(11, 1)])), (227, 2, 2, (0, 8, [(20, 0)])), (227, 3, 3, (0, 8, [(21, 0)])), (227, 4, 4, (15, 24, [(22, 0)])), (227, 5, 5, (0, 8, [(23, 0)]))]), 2000009, .inl 1, true), 0, 0, 245), (15, ([some (.inr (.inr (.inl 226))), some (.inl (0, 14, [])), some (.inl (ck_one 14)), some (.inl ((-1), 7, []))], ([], [], [(227, 9, 9, (1, 299, [(11, 1)])), (227, 2, 2, (0, 8, [(20, 0)])), (227, 3, 3, (0, 8, [(21, 0)])), (227, 4, 4, (14, 24, [(22, 0)])), (227, 5, 5, (0, 8, [(23, 0)]))]), 2000010, .inl 1, true), 0, 0, 245), (15, ([some (.inr (.inr (.inl 226))), some (.inl (0, 13, [])), some (.inl (ck_one 13)), some (.inl ((-1), 7, []))], ([], [], [(227, 9, 9, (1, 299, [(11, 1)])), (227, 2, 2, (0, 8, [(20, 0)])), (227, 3, 3, (0, 8, [(21, 0)])), (227, 4, 4, (13, 24, [(22, 0)])), (227, 5, 5, (0, 8, [(23, 0)]))]), 2000011, .inl 1, true), 0, 0, 245), (15, ([some (.inr (.inr (.inl 226))), some (.inl (0, 12, [])), some (.inl (ck_one 12)), some (.inl ((-1), 7, []))], ([], [], [(227, 9, 9, (1, 299, [(11, 1)])), (227, 2, 2, (0, 8, [(20, 0)])), (227, 3, 3, (0, 8, [(21, 0)])), (227, 4, 4, (12, 24, [(22, 0)])), (227, 5, 5, (0, 8, [(23, 0)]))]), 2000012, .inl 1, true), 0, 0, 245), (15, ([some (.inr (.inr (.inl 226))), some (.inl (0, 11, [])), some (.inl (ck_one 11)), some (.inl ((-1), 7, []))], ([], [], [(227, 9, 9, (1, 299, [(11, 1)])), (227, 2, 2, (0, 8, [(20, 0)])), (227, 3, 3, (0, 8, [(21, 0)])), (227, 4, 4, (11, 24, [(22, 0)])), (227, 5, 5, (0, 8, [(23, 0)]))]), 2000013, .inl 1, true), 0, 0, 245), (15, ([some (.inr (.inr (.inl 226))), some (.inl (0, 10, [])), some (.inl (ck_one 10)), some (.inl ((-1), 7, []))], ([], [], [(227, 9, 9, (1, 299, [(11, 1)])), (227, 2, 2, (0, 8, [(20, 0)])), (227, 3, 3, (0, 8, [(21, 0)])), (227, 4, 4, (10, 24, [(22, 0)])), (227, 5, 5, (0, 8, [(23, 0)]))]), 2000014, .inl 1, true), 0, 0, 245), (15, ([some (.inr (.inr (.inl 226))), some (.inl (0, 9, [])), some (.inl (ck_one 9)), some (.inl ((-1), 7, []))], ([], [], [(227, 9, 9, (1, 299, [(11, 1)])), (227, 2, 2, (0, 8, [(20, 0)])), (227, 3, 3, (0, 8, [(21, 0)])), (227, 4, 4, (9, 24, [(22, 0)])), (227, 5, 5, (0, 8, [(23, 0)]))]), 2000015, .inl 1, true), 0, 0, 245), (15, ([some (.inr (.inr (.inl 226))), some (.inl (0, 8, [])), some (.inl (ck_one 8)), some (.inl ((-1), 7, []))], ([], [], [(227, 9, 9, (1, 299, [(11, 1)])), (227, 2, 2, (0, 8, [(20, 0)])), (227, 3, 3, (0, 8, [(21, 0)])), (227, 4, 4, (8, 24, [(22, 0)])), (227, 5, 5, (0, 8, [(23, 0)]))]), 2000016, .inl 1, true), 0, 0, 245), (15, ([some (.inr (.inr (.inl 226))), some (.inl (0, 7, [])), some (.inl (ck_one 7)), some (.inl ((-1), 7, []))], ([], [], [(227, 9, 9, (1, 299, [(11, 1)])), (227, 2, 2, (0, 8, [(20, 0)])), (227, 3, 3, (0, 8, [(21, 0)])), (227, 4, 4, (7, 24, [(22, 0)])), (227, 5, 5, (0, 8, [(23, 0)]))]), 2000017, .inl 1, true), 0, 0, 245), (15, ([some (.inr (.inr (.inl 226))), some (.inl (0, 6, [])), some (.inl (ck_one 6)), some (.inl ((-1), 7, []))], ([], [], [(227, 9, 9, (1, 299, [(11, 1)])), (227, 2, 2, (0, 8, [(20, 0)])), (227, 3, 3, (0, 8, [(21, 0)])), (227, 4, 4, (6, 24, [(22, 0)])), (227, 5, 5, (0, 8, [(23, 0)]))]), 2000018, .inl 1, true), 0, 0, 245), (15, ([some (.inr (.inr (.inl 226))), some (.inl (0, 5, [])), some (.inl (ck_one 5)), some (.inl ((-1), 7, []))], ([], [], [(227, 9, 9, (1, 299, [(11, 1)])), (227, 2, 2, (0, 8, [(20, 0)])), (227, 3, 3, (0, 8, [(21, 0)])), (227, 4, 4, (5, 24, [(22, 0)])), (227, 5, 5, (0, 8, [(23, 0)]))]), 2000019, .inl 1, true), 0, 0, 245), (15, ([some (.inr (.inr (.inl 226))), some (.inl (0, 4, [])), some (.inl (ck_one 4)), some (.inl ((-1), 7, []))], ([], [], [(227, 9, 9, (1, 299, [(11, 1)])), (227, 2, 2, (0, 8, [(20, 0)])), (227, 3, 3, (0, 8, [(21, 0)])), (227, 4, 4, (4, 24, [(22, 0)])), (227, 5, 5, (0, 8, [(23, 0)]))]), 2000020, .inl 1, true), 0, 0, 245), (15, ([some (.inr (.inr (.inl 226))), some (.inl (0, 3, [])), some (.inl (ck_one 3)), some (.inl ((-1), 7, []))], ([], [], [(227, 9, 9, (1, 299, [(11, 1)])), (227, 2, 2, (0, 8, [(20, 0)])), (227, 3, 3, (0, 8, [(21, 0)])), (227, 4, 4, (3, 24, [(22, 0)])), (227, 5, 5, (0, 8, [(23, 0)]))]), 2000021, .inl 1, true), 0, 0, 245), (15, ([some (.inr (.inr (.inl 226))), some (.inl (0, 2, [])), some (.inl (ck_one 2)), some (.inl ((-1), 7, []))], ([], [], [(227, 9, 9, (1, 299, [(11, 1)])), (227, 2, 2, (0, 8, [(20, 0)])), (227, 3, 3, (0, 8, [(21, 0)])), (227, 4, 4, (2, 24, [(22, 0)])), (227, 5, 5, (0, 8, [(23, 0)]))]), 2000022, .inl 1, true), 0, 0, 245), (15, ([some (.inr (.inr (.inl 226))), some (.inl (0, 1, [])), some (.inl (ck_one 1)), some (.inl ((-1), 7, []))], ([], [], [(227, 9, 9, (1, 299, [(11, 1)])), (227, 2, 2, (0, 8, [(20, 0)])), (227, 3, 3, (0, 8, [(21, 0)])), (227, 4, 4, (1, 24, [(22, 0)])), (227, 5, 5, (0, 8, [(23, 0)]))]), 2000023, .inl 1, true), 0, 0, 245), (15, ([some (.inr (.inr (.inl 226))), some (.inl (ck_one 0)), some (.inl (ck_one 0)), none], ([], [], [(227, 9, 9, (1, 299, [(11, 1)])), (227, 2, 2, (0, 8, [(20, 0)])), (227, 3, 3, (0, 8, [(21, 0)])), (227, 4, 4, (0, 24, [(22, 0)])), (227, 5, 5, (0, 8, [(23, 0)])), (227, 14, 14, (0, 24, [(26, 0)]))]), 2000024, .inl 1, true), 0, 0, 245)]
set_option maxRecDepth 100000 in
theorem p2_s1205_a : (decide (p2_s1205.2.2.1.length ≤ gm_ml 321) && ck_cu (p2_s1205_l.map (fun h => (h.1, h.2.1)) ++ p2_s1205_i)) = true := by decide +kernel
set_option maxRecDepth 100000 in
theorem p2_s1205_e0 : ck_stpi p2_O p2_s1205_E 321 p2_s1205.1.1 p2_s1205.2.1 p2_s1205.2.2.2.2.1 p2_s1205.2.2.2.2.2 (p2_s1205_l.map (fun h => (h.1, h.2.1)) ++ p2_s1205_i) 1766 p2_s1205_l 0 = true := by decide +kernel
set_option maxRecDepth 100000 in
theorem p2_s1205_e1 : ck_stpi p2_O p2_s1205_E 321 p2_s1205.1.1 p2_s1205.2.1 p2_s1205.2.2.2.2.1 p2_s1205.2.2.2.2.2 (p2_s1205_l.map (fun h => (h.1, h.2.1)) ++ p2_s1205_i) 1766 p2_s1205_l 1 = true := by decide +kernel
set_option maxRecDepth 100000 in
theorem p2_s1205_e2 : ck_stpi p2_O p2_s1205_E 321 p2_s1205.1.1 p2_s1205.2.1 p2_s1205.2.2.2.2.1 p2_s1205.2.2.2.2.2 (p2_s1205_l.map (fun h => (h.1, h.2.1)) ++ p2_s1205_i) 1766 p2_s1205_l 2 = true := by decide +kernel
set_option maxRecDepth 100000 in
theorem p2_s1205_e3 : ck_stpi p2_O p2_s1205_E 321 p2_s1205.1.1 p2_s1205.2.1 p2_s1205.2.2.2.2.1 p2_s1205.2.2.2.2.2 (p2_s1205_l.map (fun h => (h.1, h.2.1)) ++ p2_s1205_i) 1766 p2_s1205_l 3 = true := by decide +kernel
set_option maxRecDepth 100000 in
theorem p2_s1205_e4 : ck_stpi p2_O p2_s1205_E 321 p2_s1205.1.1 p2_s1205.2.1 p2_s1205.2.2.2.2.1 p2_s1205.2.2.2.2.2 (p2_s1205_l.map (fun h => (h.1, h.2.1)) ++ p2_s1205_i) 1766 p2_s1205_l 4 = true := by decide +kernel
set_option maxRecDepth 100000 in
theorem p2_s1205_e5 : ck_stpi p2_O p2_s1205_E 321 p2_s1205.1.1 p2_s1205.2.1 p2_s1205.2.2.2.2.1 p2_s1205.2.2.2.2.2 (p2_s1205_l.map (fun h => (h.1, h.2.1)) ++ p2_s1205_i) 1766 p2_s1205_l 5 = true := by decide +kernel
set_option maxRecDepth 100000 in
theorem p2_s1205_e6 : ck_stpi p2_O p2_s1205_E 321 p2_s1205.1.1 p2_s1205.2.1 p2_s1205.2.2.2.2.1 p2_s1205.2.2.2.2.2 (p2_s1205_l.map (fun h => (h.1, h.2.1)) ++ p2_s1205_i) 1766 p2_s1205_l 6 = true := by decide +kernel
set_option maxRecDepth 100000 in
theorem p2_s1205_e7 : ck_stpi p2_O p2_s1205_E 321 p2_s1205.1.1 p2_s1205.2.1 p2_s1205.2.2.2.2.1 p2_s1205.2.2.2.2.2 (p2_s1205_l.map (fun h => (h.1, h.2.1)) ++ p2_s1205_i) 1766 p2_s1205_l 7 = true := by decide +kernel
set_option maxRecDepth 100000 in
theorem p2_s1205_e8 : ck_stpi p2_O p2_s1205_E 321 p2_s1205.1.1 p2_s1205.2.1 p2_s1205.2.2.2.2.1 p2_s1205.2.2.2.2.2 (p2_s1205_l.map (fun h => (h.1, h.2.1)) ++ p2_s1205_i) 1766 p2_s1205_l 8 = true := by decide +kernel
set_option maxRecDepth 100000 in
theorem p2_s1205_e9 : ck_stpi p2_O p2_s1205_E 321 p2_s1205.1.1 p2_s1205.2.1 p2_s1205.2.2.2.2.1 p2_s1205.2.2.2.2.2 (p2_s1205_l.map (fun h => (h.1, h.2.1)) ++ p2_s1205_i) 1766 p2_s1205_l 9 = true := by decide +kernel
set_option maxRecDepth 100000 in
theorem p2_s1205_e10 : ck_stpi p2_O p2_s1205_E 321 p2_s1205.1.1 p2_s1205.2.1 p2_s1205.2.2.2.2.1 p2_s1205.2.2.2.2.2 (p2_s1205_l.map (fun h => (h.1, h.2.1)) ++ p2_s1205_i) 1766 p2_s1205_l 10 = true := by decide +kernel
set_option maxRecDepth 100000 in
theorem p2_s1205_e11 : ck_stpi p2_O p2_s1205_E 321 p2_s1205.1.1 p2_s1205.2.1 p2_s1205.2.2.2.2.1 p2_s1205.2.2.2.2.2 (p2_s1205_l.map (fun h => (h.1, h.2.1)) ++ p2_s1205_i) 1766 p2_s1205_l 11 = true := by decide +kernel
set_option maxRecDepth 100000 in
theorem p2_s1205_e12 : ck_stpi p2_O p2_s1205_E 321 p2_s1205.1.1 p2_s1205.2.1 p2_s1205.2.2.2.2.1 p2_s1205.2.2.2.2.2 (p2_s1205_l.map (fun h => (h.1, h.2.1)) ++ p2_s1205_i) 1766 p2_s1205_l 12 = true := by decide +kernel
set_option maxRecDepth 100000 in
theorem p2_s1205_e13 : ck_stpi p2_O p2_s1205_E 321 p2_s1205.1.1 p2_s1205.2.1 p2_s1205.2.2.2.2.1 p2_s1205.2.2.2.2.2 (p2_s1205_l.map (fun h => (h.1, h.2.1)) ++ p2_s1205_i) 1766 p2_s1205_l 13 = true := by decide +kernel
set_option maxRecDepth 100000 in
theorem p2_s1205_e14 : ck_stpi p2_O p2_s1205_E 321 p2_s1205.1.1 p2_s1205.2.1 p2_s1205.2.2.2.2.1 p2_s1205.2.2.2.2.2 (p2_s1205_l.map (fun h => (h.1, h.2.1)) ++ p2_s1205_i) 1766 p2_s1205_l 14 = true := by decide +kernel
set_option maxRecDepth 100000 in
theorem p2_s1205_e15 : ck_stpi p2_O p2_s1205_E 321 p2_s1205.1.1 p2_s1205.2.1 p2_s1205.2.2.2.2.1 p2_s1205.2.2.2.2.2 (p2_s1205_l.map (fun h => (h.1, h.2.1)) ++ p2_s1205_i) 1766 p2_s1205_l 15 = true := by decide +kernel
set_option maxRecDepth 100000 in
theorem p2_s1205_e16 : ck_stpi p2_O p2_s1205_E 321 p2_s1205.1.1 p2_s1205.2.1 p2_s1205.2.2.2.2.1 p2_s1205.2.2.2.2.2 (p2_s1205_l.map (fun h => (h.1, h.2.1)) ++ p2_s1205_i) 1766 p2_s1205_l 16 = true := by decide +kernel
set_option maxRecDepth 100000 in
theorem p2_s1205_e17 : ck_stpi p2_O p2_s1205_E 321 p2_s1205.1.1 p2_s1205.2.1 p2_s1205.2.2.2.2.1 p2_s1205.2.2.2.2.2 (p2_s1205_l.map (fun h => (h.1, h.2.1)) ++ p2_s1205_i) 1766 p2_s1205_l 17 = true := by decide +kernel
set_option maxRecDepth 100000 in
theorem p2_s1205_e18 : ck_stpi p2_O p2_s1205_E 321 p2_s1205.1.1 p2_s1205.2.1 p2_s1205.2.2.2.2.1 p2_s1205.2.2.2.2.2 (p2_s1205_l.map (fun h => (h.1, h.2.1)) ++ p2_s1205_i) 1766 p2_s1205_l 18 = true := by decide +kernel
set_option maxRecDepth 100000 in
theorem p2_s1205_e19 : ck_stpi p2_O p2_s1205_E 321 p2_s1205.1.1 p2_s1205.2.1 p2_s1205.2.2.2.2.1 p2_s1205.2.2.2.2.2 (p2_s1205_l.map (fun h => (h.1, h.2.1)) ++ p2_s1205_i) 1766 p2_s1205_l 19 = true := by decide +kernel
set_option maxRecDepth 100000 in
theorem p2_s1205_e20 : ck_stpi p2_O p2_s1205_E 321 p2_s1205.1.1 p2_s1205.2.1 p2_s1205.2.2.2.2.1 p2_s1205.2.2.2.2.2 (p2_s1205_l.map (fun h => (h.1, h.2.1)) ++ p2_s1205_i) 1766 p2_s1205_l 20 = true := by decide +kernel
set_option maxRecDepth 100000 in
theorem p2_s1205_e21 : ck_stpi p2_O p2_s1205_E 321 p2_s1205.1.1 p2_s1205.2.1 p2_s1205.2.2.2.2.1 p2_s1205.2.2.2.2.2 (p2_s1205_l.map (fun h => (h.1, h.2.1)) ++ p2_s1205_i) 1766 p2_s1205_l 21 = true := by decide +kernel
set_option maxRecDepth 100000 in
theorem p2_s1205_e22 : ck_stpi p2_O p2_s1205_E 321 p2_s1205.1.1 p2_s1205.2.1 p2_s1205.2.2.2.2.1 p2_s1205.2.2.2.2.2 (p2_s1205_l.map (fun h => (h.1, h.2.1)) ++ p2_s1205_i) 1766 p2_s1205_l 22 = true := by decide +kernel
set_option maxRecDepth 100000 in
theorem p2_s1205_e23 : ck_stpi p2_O p2_s1205_E 321 p2_s1205.1.1 p2_s1205.2.1 p2_s1205.2.2.2.2.1 p2_s1205.2.2.2.2.2 (p2_s1205_l.map (fun h => (h.1, h.2.1)) ++ p2_s1205_i) 1766 p2_s1205_l 23 = true := by decide +kernel
set_option maxRecDepth 100000 in
theorem p2_s1205_e24 : ck_stpi p2_O p2_s1205_E 321 p2_s1205.1.1 p2_s1205.2.1 p2_s1205.2.2.2.2.1 p2_s1205.2.2.2.2.2 (p2_s1205_l.map (fun h => (h.1, h.2.1)) ++ p2_s1205_i) 1766 p2_s1205_l 24 = true := by decide +kernel
set_option maxRecDepth 100000 in
theorem p2_s1205_z : ck_go p2_O none [] p2_s1205_E 321 p2_s1205.1.1 p2_s1205.2.1 p2_s1205.2.2.2.2.1 p2_s1205.2.2.2.2.2 (p2_s1205_l.map (fun h => (h.1, h.2.1)) ++ p2_s1205_i) 1766 false p2_s1205_l p2_s1205.1.2.1 p2_s1205.1.2.2 0 (p2_s1205.2.2.1.map some ++ List.replicate (gm_ml 321 - p2_s1205.2.2.1.length) none) [] p2_s1205.2.1 p2_s1205.2.2.2.1 = true := by decide +kernel
theorem p2_s1205_s {X : Int → Int} {LX : Nat} : ck_Ok p2_O X LX 321 p2_s1205 := by
  refine ck_okp_i (cuts := p2_s1205_i) (l := p2_s1205_l) (f := 1766) ⟨p2_nmu, ck_E1 (ck_S1 p2_s176_s ck_S0) (ck_E1 (ck_S1 p2_s829_s (ck_S1 p2_s840_s (ck_S1 p2_s851_s (ck_S1 p2_s862_s (ck_S1 p2_s873_s (ck_S1 p2_s884_s (ck_S1 p2_s895_s (ck_S1 p2_s906_s (ck_S1 p2_s917_s (ck_S1 p2_s928_s (ck_S1 p2_s939_s (ck_S1 p2_s950_s (ck_S1 p2_s961_s (ck_S1 p2_s972_s (ck_S1 p2_s983_s (ck_S1 p2_s994_s (ck_S1 p2_s1005_s (ck_S1 p2_s1016_s (ck_S1 p2_s1027_s (ck_S1 p2_s1038_s (ck_S1 p2_s1049_s (ck_S1 p2_s1060_s (ck_S1 p2_s1071_s (ck_S1 p2_s1082_s ck_S0)))))))))))))))))))))))) (ck_E1 (ck_S1 p2_s1158_s (ck_S1 p2_s1160_s (ck_S1 p2_s1162_s (ck_S1 p2_s1164_s (ck_S1 p2_s1166_s (ck_S1 p2_s1168_s (ck_S1 p2_s1170_s (ck_S1 p2_s1172_s (ck_S1 p2_s1174_s (ck_S1 p2_s1176_s (ck_S1 p2_s1178_s (ck_S1 p2_s1180_s (ck_S1 p2_s1182_s (ck_S1 p2_s1184_s (ck_S1 p2_s1186_s (ck_S1 p2_s1188_s (ck_S1 p2_s1190_s (ck_S1 p2_s1192_s (ck_S1 p2_s1194_s (ck_S1 p2_s1196_s (ck_S1 p2_s1198_s (ck_S1 p2_s1200_s (ck_S1 p2_s1202_s (ck_S1 p2_s1204_s ck_S0)))))))))))))))))))))))) (ck_E1 (ck_S1 p2_s833_s (ck_S1 p2_s844_s (ck_S1 p2_s855_s (ck_S1 p2_s866_s (ck_S1 p2_s877_s (ck_S1 p2_s888_s (ck_S1 p2_s899_s (ck_S1 p2_s910_s (ck_S1 p2_s921_s (ck_S1 p2_s932_s (ck_S1 p2_s943_s (ck_S1 p2_s954_s (ck_S1 p2_s965_s (ck_S1 p2_s976_s (ck_S1 p2_s987_s (ck_S1 p2_s998_s (ck_S1 p2_s1009_s (ck_S1 p2_s1020_s (ck_S1 p2_s1031_s (ck_S1 p2_s1042_s (ck_S1 p2_s1053_s (ck_S1 p2_s1064_s (ck_S1 p2_s1075_s (ck_S1 p2_s1086_s ck_S0)))))))))))))))))))))))) ck_E0)))⟩ p2_s1205_a (fun i hi => ?_) p2_s1205_z
  have hi : i < 25 := hi
  have : i = 0 ∨ i = 1 ∨ i = 2 ∨ i = 3 ∨ i = 4 ∨ i = 5 ∨ i = 6 ∨ i = 7 ∨ i = 8 ∨ i = 9 ∨ i = 10 ∨ i = 11 ∨ i = 12 ∨ i = 13 ∨ i = 14 ∨ i = 15 ∨ i = 16 ∨ i = 17 ∨ i = 18 ∨ i = 19 ∨ i = 20 ∨ i = 21 ∨ i = 22 ∨ i = 23 ∨ i = 24 := by omega
  rcases this with rfl | rfl | rfl | rfl | rfl | rfl | rfl | rfl | rfl | rfl | rfl | rfl | rfl | rfl | rfl | rfl | rfl | rfl | rfl | rfl | rfl | rfl | rfl | rfl | rfl
  · exact p2_s1205_e0
  · exact p2_s1205_e1
  · exact p2_s1205_e2
  · exact p2_s1205_e3
  · exact p2_s1205_e4
  · exact p2_s1205_e5
  · exact p2_s1205_e6
  · exact p2_s1205_e7
  · exact p2_s1205_e8
  · exact p2_s1205_e9
  · exact p2_s1205_e10
  · exact p2_s1205_e11
  · exact p2_s1205_e12
  · exact p2_s1205_e13
  · exact p2_s1205_e14
  · exact p2_s1205_e15
  · exact p2_s1205_e16
  · exact p2_s1205_e17
  · exact p2_s1205_e18
  · exact p2_s1205_e19
  · exact p2_s1205_e20
  · exact p2_s1205_e21
  · exact p2_s1205_e22
  · exact p2_s1205_e23
  · exact p2_s1205_e24
end
/-! 78r80a15c.sf -/
section
/-! EVERY CALL ENDS, whatever was done before (laid by wip/am/p2k.py). -/
set_option maxRecDepth 100000 in
/-- GlacierMailModel.years -/
def p2_s1206 : ck_Sum := ((10, 0, 0), 245, [.inr (.inr (.inl 226)), .inl (ck_one 1)], ([], [], zl181), (zl182, []), [(.inr (some (.inl (0, 24, []))), 245, ([], [], [(227, 9, 9, (1, 299, [(1000011, 0)])), (226, 6, 6, (0, 12, [(1000027, 0)])), (226, 0, 0, (0, 1, []))]))])
set_option maxRecDepth 100000 in
theorem p2_s1206_s {X : Int → Int} {LX : Nat} : ck_Ok p2_O X LX 320 p2_s1206 := ck_ok_s (O := p2_O) (X := X) (LX := LX) (E := [(286, [p2_s1154]), (266, [p2_s190]), (282, [p2_s242, p2_s241]), (316, [p2_s553]), (321, [p2_s1205])]) (mi := 320) (cuts := []) (f := 150) (S := p2_s1206) (lx := none) (XF := []) ⟨p2_nmu, ck_E1 (ck_S1 p2_s1154_s ck_S0) (ck_E1 (ck_S1 p2_s190_s ck_S0) (ck_E1 (ck_S1 p2_s242_s (ck_S1 p2_s241_s ck_S0)) (ck_E1 (ck_S1 p2_s553_s ck_S0) (ck_E1 (ck_S1 p2_s1205_s ck_S0) ck_E0))))⟩ ck_X0 ck_l0 (by decide +kernel)
set_option maxRecDepth 100000 in
/-- GlacierMailModel.in -/
def p2_s1207 : ck_Sum := ((0, 0, 0), 245, [.inl (ck_one 2), .inl (ck_one 1), .inl (ck_one 50)], ([], [], []), ([], []), [(.inr (some (.inl (ck_one 1))), 245, ([], [], []))])
set_option maxRecDepth 100000 in
theorem p2_s1207_s {X : Int → Int} {LX : Nat} : ck_Ok p2_O X LX 286 p2_s1207 := ck_ok_s (O := p2_O) (X := X) (LX := LX) (E := []) (mi := 286) (cuts := []) (f := 88) (S := p2_s1207) (lx := none) (XF := []) ⟨p2_nmu, ck_E0⟩ ck_X0 ck_l0 (by decide +kernel)
set_option maxRecDepth 100000 in
/-- GlacierMailModel.years -/
def p2_s1208 : ck_Sum := ((10, 0, 0), 245, [.inr (.inr (.inl 226)), .inl (ck_one 2)], ([], [], zl181), (zl182, []), [(.inr (some (.inl (0, 48, []))), 245, ([], [], [(227, 9, 9, (2, 299, [(1000011, 0)])), (226, 6, 6, (0, 12, [(1000027, 0)])), (226, 0, 0, (0, 1, []))]))])
set_option maxRecDepth 100000 in
theorem p2_s1208_s {X : Int → Int} {LX : Nat} : ck_Ok p2_O X LX 320 p2_s1208 := ck_ok_s (O := p2_O) (X := X) (LX := LX) (E := [(286, [p2_s1207]), (266, [p2_s190]), (282, [p2_s242, p2_s241]), (316, [p2_s553]), (321, [p2_s1205])]) (mi := 320) (cuts := []) (f := 170) (S := p2_s1208) (lx := none) (XF := []) ⟨p2_nmu, ck_E1 (ck_S1 p2_s1207_s ck_S0) (ck_E1 (ck_S1 p2_s190_s ck_S0) (ck_E1 (ck_S1 p2_s242_s (ck_S1 p2_s241_s ck_S0)) (ck_E1 (ck_S1 p2_s553_s ck_S0) (ck_E1 (ck_S1 p2_s1205_s ck_S0) ck_E0))))⟩ ck_X0 ck_l0 (by decide +kernel)
set_option maxRecDepth 100000 in
/-- GlacierMailModel.in -/
def p2_s1209 : ck_Sum := ((0, 0, 0), 245, [.inl (ck_one 3), .inl (ck_one 1), .inl (ck_one 50)], ([], [], []), ([], []), [(.inr (some (.inl (ck_one 1))), 245, ([], [], []))])
set_option maxRecDepth 100000 in
theorem p2_s1209_s {X : Int → Int} {LX : Nat} : ck_Ok p2_O X LX 286 p2_s1209 := ck_ok_s (O := p2_O) (X := X) (LX := LX) (E := []) (mi := 286) (cuts := []) (f := 88) (S := p2_s1209) (lx := none) (XF := []) ⟨p2_nmu, ck_E0⟩ ck_X0 ck_l0 (by decide +kernel)
set_option maxRecDepth 100000 in
/-- GlacierMailModel.years -/
def p2_s1210 : ck_Sum := ((10, 0, 0), 245, [.inr (.inr (.inl 226)), .inl (ck_one 3)], ([], [], zl181), (zl182, []), [(.inr (some (.inl (0, 72, []))), 245, ([], [], [(227, 9, 9, (3, 299, [(1000011, 0)])), (226, 6, 6, (0, 12, [(1000027, 0)])), (226, 0, 0, (0, 1, []))]))])
set_option maxRecDepth 100000 in
theorem p2_s1210_s {X : Int → Int} {LX : Nat} : ck_Ok p2_O X LX 320 p2_s1210 := ck_ok_s (O := p2_O) (X := X) (LX := LX) (E := [(286, [p2_s1209]), (266, [p2_s190]), (282, [p2_s242, p2_s241]), (316, [p2_s553]), (321, [p2_s1205])]) (mi := 320) (cuts := []) (f := 190) (S := p2_s1210) (lx := none) (XF := []) ⟨p2_nmu, ck_E1 (ck_S1 p2_s1209_s ck_S0) (ck_E1 (ck_S1 p2_s190_s ck_S0) (ck_E1 (ck_S1 p2_s242_s (ck_S1 p2_s241_s ck_S0)) (ck_E1 (ck_S1 p2_s553_s ck_S0) (ck_E1 (ck_S1 p2_s1205_s ck_S0) ck_E0))))⟩ ck_X0 ck_l0 (by decide +kernel)
set_option maxRecDepth 100000 in
/-- GlacierMailModel.in -/
def p2_s1211 : ck_Sum := ((0, 0, 0), 245, [.inl (ck_one 4), .inl (ck_one 1), .inl (ck_one 50)], ([], [], []), ([], []), [(.inr (some (.inl (ck_one 1))), 245, ([], [], []))])
set_option maxRecDepth 100000 in
theorem p2_s1211_s {X : Int → Int} {LX : Nat} : ck_Ok p2_O X LX 286 p2_s1211 := ck_ok_s (O := p2_O) (X := X) (LX := LX) (E := []) (mi := 286) (cuts := []) (f := 88) (S := p2_s1211) (lx := none) (XF := []) ⟨p2_nmu, ck_E0⟩ ck_X0 ck_l0 (by decide +kernel)
set_option maxRecDepth 100000 in
/-- GlacierMailModel.years -/
def p2_s1212 : ck_Sum := ((10, 0, 0), 245, [.inr (.inr (.inl 226)), .inl (ck_one 4)], ([], [], zl181), (zl182, []), [(.inr (some (.inl (0, 96, []))), 245, ([], [], [(227, 9, 9, (4, 299, [(1000011, 0)])), (226, 6, 6, (0, 12, [(1000027, 0)])), (226, 0, 0, (0, 1, []))]))])
set_option maxRecDepth 100000 in
theorem p2_s1212_s {X : Int → Int} {LX : Nat} : ck_Ok p2_O X LX 320 p2_s1212 := ck_ok_s (O := p2_O) (X := X) (LX := LX) (E := [(286, [p2_s1211]), (266, [p2_s190]), (282, [p2_s242, p2_s241]), (316, [p2_s553]), (321, [p2_s1205])]) (mi := 320) (cuts := []) (f := 210) (S := p2_s1212) (lx := none) (XF := []) ⟨p2_nmu, ck_E1 (ck_S1 p2_s1211_s ck_S0) (ck_E1 (ck_S1 p2_s190_s ck_S0) (ck_E1 (ck_S1 p2_s242_s (ck_S1 p2_s241_s ck_S0)) (ck_E1 (ck_S1 p2_s553_s ck_S0) (ck_E1 (ck_S1 p2_s1205_s ck_S0) ck_E0))))⟩ ck_X0 ck_l0 (by decide +kernel)
set_option maxRecDepth 100000 in
/-- GlacierMailModel.in -/
def p2_s1213 : ck_Sum := ((0, 0, 0), 245, [.inl (ck_one 5), .inl (ck_one 1), .inl (ck_one 50)], ([], [], []), ([], []), [(.inr (some (.inl (ck_one 1))), 245, ([], [], []))])
set_option maxRecDepth 100000 in
theorem p2_s1213_s {X : Int → Int} {LX : Nat} : ck_Ok p2_O X LX 286 p2_s1213 := ck_ok_s (O := p2_O) (X := X) (LX := LX) (E := []) (mi := 286) (cuts := []) (f := 88) (S := p2_s1213) (lx := none) (XF := []) ⟨p2_nmu, ck_E0⟩ ck_X0 ck_l0 (by decide +kernel)
set_option maxRecDepth 100000 in
/-- GlacierMailModel.years -/
def p2_s1214 : ck_Sum := ((10, 0, 0), 245, [.inr (.inr (.inl 226)), .inl (ck_one 5)], ([], [], zl181), (zl182, []), [(.inr (some (.inl (0, 120, []))), 245, ([], [], [(227, 9, 9, (5, 299, [(1000011, 0)])), (226, 6, 6, (0, 12, [(1000027, 0)])), (226, 0, 0, (0, 1, []))]))])
set_option maxRecDepth 100000 in
theorem p2_s1214_s {X : Int → Int} {LX : Nat} : ck_Ok p2_O X LX 320 p2_s1214 := ck_ok_s (O := p2_O) (X := X) (LX := LX) (E := [(286, [p2_s1213]), (266, [p2_s190]), (282, [p2_s242, p2_s241]), (316, [p2_s553]), (321, [p2_s1205])]) (mi := 320) (cuts := []) (f := 230) (S := p2_s1214) (lx := none) (XF := []) ⟨p2_nmu, ck_E1 (ck_S1 p2_s1213_s ck_S0) (ck_E1 (ck_S1 p2_s190_s ck_S0) (ck_E1 (ck_S1 p2_s242_s (ck_S1 p2_s241_s ck_S0)) (ck_E1 (ck_S1 p2_s553_s ck_S0) (ck_E1 (ck_S1 p2_s1205_s ck_S0) ck_E0))))⟩ ck_X0 ck_l0 (by decide +kernel)
set_option maxRecDepth 100000 in
/-- GlacierMailModel.in -/
def p2_s1215 : ck_Sum := ((0, 0, 0), 245, [.inl (ck_one 6), .inl (ck_one 1), .inl (ck_one 50)], ([], [], []), ([], []), [(.inr (some (.inl (ck_one 1))), 245, ([], [], []))])
set_option maxRecDepth 100000 in
theorem p2_s1215_s {X : Int → Int} {LX : Nat} : ck_Ok p2_O X LX 286 p2_s1215 := ck_ok_s (O := p2_O) (X := X) (LX := LX) (E := []) (mi := 286) (cuts := []) (f := 88) (S := p2_s1215) (lx := none) (XF := []) ⟨p2_nmu, ck_E0⟩ ck_X0 ck_l0 (by decide +kernel)
set_option maxRecDepth 100000 in
/-- GlacierMailModel.years -/
def p2_s1216 : ck_Sum := ((10, 0, 0), 245, [.inr (.inr (.inl 226)), .inl (ck_one 6)], ([], [], zl181), (zl182, []), [(.inr (some (.inl (0, 144, []))), 245, ([], [], [(227, 9, 9, (6, 299, [(1000011, 0)])), (226, 6, 6, (0, 12, [(1000027, 0)])), (226, 0, 0, (0, 1, []))]))])
set_option maxRecDepth 100000 in
theorem p2_s1216_s {X : Int → Int} {LX : Nat} : ck_Ok p2_O X LX 320 p2_s1216 := ck_ok_s (O := p2_O) (X := X) (LX := LX) (E := [(286, [p2_s1215]), (266, [p2_s190]), (282, [p2_s242, p2_s241]), (316, [p2_s553]), (321, [p2_s1205])]) (mi := 320) (cuts := []) (f := 250) (S := p2_s1216) (lx := none) (XF := []) ⟨p2_nmu, ck_E1 (ck_S1 p2_s1215_s ck_S0) (ck_E1 (ck_S1 p2_s190_s ck_S0) (ck_E1 (ck_S1 p2_s242_s (ck_S1 p2_s241_s ck_S0)) (ck_E1 (ck_S1 p2_s553_s ck_S0) (ck_E1 (ck_S1 p2_s1205_s ck_S0) ck_E0))))⟩ ck_X0 ck_l0 (by decide +kernel)
set_option maxRecDepth 100000 in
/-- GlacierMailModel.in -/
def p2_s1217 : ck_Sum := ((0, 0, 0), 245, [.inl (ck_one 7), .inl (ck_one 1), .inl (ck_one 50)], ([], [], []), ([], []), [(.inr (some (.inl (ck_one 1))), 245, ([], [], []))])
set_option maxRecDepth 100000 in
theorem p2_s1217_s {X : Int → Int} {LX : Nat} : ck_Ok p2_O X LX 286 p2_s1217 := ck_ok_s (O := p2_O) (X := X) (LX := LX) (E := []) (mi := 286) (cuts := []) (f := 88) (S := p2_s1217) (lx := none) (XF := []) ⟨p2_nmu, ck_E0⟩ ck_X0 ck_l0 (by decide +kernel)
set_option maxRecDepth 100000 in
/-- GlacierMailModel.years -/
def p2_s1218 : ck_Sum := ((10, 0, 0), 245, [.inr (.inr (.inl 226)), .inl (ck_one 7)], ([], [], zl181), (zl182, []), [(.inr (some (.inl (0, 168, []))), 245, ([], [], [(227, 9, 9, (7, 299, [(1000011, 0)])), (226, 6, 6, (0, 12, [(1000027, 0)])), (226, 0, 0, (0, 1, []))]))])
set_option maxRecDepth 100000 in
theorem p2_s1218_s {X : Int → Int} {LX : Nat} : ck_Ok p2_O X LX 320 p2_s1218 := ck_ok_s (O := p2_O) (X := X) (LX := LX) (E := [(286, [p2_s1217]), (266, [p2_s190]), (282, [p2_s242, p2_s241]), (316, [p2_s553]), (321, [p2_s1205])]) (mi := 320) (cuts := []) (f := 270) (S := p2_s1218) (lx := none) (XF := []) ⟨p2_nmu, ck_E1 (ck_S1 p2_s1217_s ck_S0) (ck_E1 (ck_S1 p2_s190_s ck_S0) (ck_E1 (ck_S1 p2_s242_s (ck_S1 p2_s241_s ck_S0)) (ck_E1 (ck_S1 p2_s553_s ck_S0) (ck_E1 (ck_S1 p2_s1205_s ck_S0) ck_E0))))⟩ ck_X0 ck_l0 (by decide +kernel)
set_option maxRecDepth 100000 in
/-- GlacierMailModel.in -/
def p2_s1219 : ck_Sum := ((0, 0, 0), 245, [.inl (ck_one 8), .inl (ck_one 1), .inl (ck_one 50)], ([], [], []), ([], []), [(.inr (some (.inl (ck_one 1))), 245, ([], [], []))])
set_option maxRecDepth 100000 in
theorem p2_s1219_s {X : Int → Int} {LX : Nat} : ck_Ok p2_O X LX 286 p2_s1219 := ck_ok_s (O := p2_O) (X := X) (LX := LX) (E := []) (mi := 286) (cuts := []) (f := 88) (S := p2_s1219) (lx := none) (XF := []) ⟨p2_nmu, ck_E0⟩ ck_X0 ck_l0 (by decide +kernel)
set_option maxRecDepth 100000 in
/-- GlacierMailModel.years -/
def p2_s1220 : ck_Sum := ((10, 0, 0), 245, [.inr (.inr (.inl 226)), .inl (ck_one 8)], ([], [], zl181), (zl182, []), [(.inr (some (.inl (0, 192, []))), 245, ([], [], [(227, 9, 9, (8, 299, [(1000011, 0)])), (226, 6, 6, (0, 12, [(1000027, 0)])), (226, 0, 0, (0, 1, []))]))])
set_option maxRecDepth 100000 in
theorem p2_s1220_s {X : Int → Int} {LX : Nat} : ck_Ok p2_O X LX 320 p2_s1220 := ck_ok_s (O := p2_O) (X := X) (LX := LX) (E := [(286, [p2_s1219]), (266, [p2_s190]), (282, [p2_s242, p2_s241]), (316, [p2_s553]), (321, [p2_s1205])]) (mi := 320) (cuts := []) (f := 290) (S := p2_s1220) (lx := none) (XF := []) ⟨p2_nmu, ck_E1 (ck_S1 p2_s1219_s ck_S0) (ck_E1 (ck_S1 p2_s190_s ck_S0) (ck_E1 (ck_S1 p2_s242_s (ck_S1 p2_s241_s ck_S0)) (ck_E1 (ck_S1 p2_s553_s ck_S0) (ck_E1 (ck_S1 p2_s1205_s ck_S0) ck_E0))))⟩ ck_X0 ck_l0 (by decide +kernel)
set_option maxRecDepth 100000 in
/-- GlacierMailModel.in -/
def p2_s1221 : ck_Sum := ((0, 0, 0), 245, [.inl (ck_one 9), .inl (ck_one 1), .inl (ck_one 50)], ([], [], []), ([], []), [(.inr (some (.inl (ck_one 1))), 245, ([], [], []))])
set_option maxRecDepth 100000 in
theorem p2_s1221_s {X : Int → Int} {LX : Nat} : ck_Ok p2_O X LX 286 p2_s1221 := ck_ok_s (O := p2_O) (X := X) (LX := LX) (E := []) (mi := 286) (cuts := []) (f := 88) (S := p2_s1221) (lx := none) (XF := []) ⟨p2_nmu, ck_E0⟩ ck_X0 ck_l0 (by decide +kernel)
set_option maxRecDepth 100000 in
/-- GlacierMailModel.years -/
def p2_s1222 : ck_Sum := ((10, 0, 0), 245, [.inr (.inr (.inl 226)), .inl (ck_one 9)], ([], [], zl181), (zl182, []), [(.inr (some (.inl (0, 216, []))), 245, ([], [], [(227, 9, 9, (9, 299, [(1000011, 0)])), (226, 6, 6, (0, 12, [(1000027, 0)])), (226, 0, 0, (0, 1, []))]))])
set_option maxRecDepth 100000 in
theorem p2_s1222_s {X : Int → Int} {LX : Nat} : ck_Ok p2_O X LX 320 p2_s1222 := ck_ok_s (O := p2_O) (X := X) (LX := LX) (E := [(286, [p2_s1221]), (266, [p2_s190]), (282, [p2_s242, p2_s241]), (316, [p2_s553]), (321, [p2_s1205])]) (mi := 320) (cuts := []) (f := 310) (S := p2_s1222) (lx := none) (XF := []) ⟨p2_nmu, ck_E1 (ck_S1 p2_s1221_s ck_S0) (ck_E1 (ck_S1 p2_s190_s ck_S0) (ck_E1 (ck_S1 p2_s242_s (ck_S1 p2_s241_s ck_S0)) (ck_E1 (ck_S1 p2_s553_s ck_S0) (ck_E1 (ck_S1 p2_s1205_s ck_S0) ck_E0))))⟩ ck_X0 ck_l0 (by decide +kernel)
set_option maxRecDepth 100000 in
/-- GlacierMailModel.in -/
def p2_s1223 : ck_Sum := ((0, 0, 0), 245, [.inl (ck_one 10), .inl (ck_one 1), .inl (ck_one 50)], ([], [], []), ([], []), [(.inr (some (.inl (ck_one 1))), 245, ([], [], []))])
set_option maxRecDepth 100000 in
theorem p2_s1223_s {X : Int → Int} {LX : Nat} : ck_Ok p2_O X LX 286 p2_s1223 := ck_ok_s (O := p2_O) (X := X) (LX := LX) (E := []) (mi := 286) (cuts := []) (f := 88) (S := p2_s1223) (lx := none) (XF := []) ⟨p2_nmu, ck_E0⟩ ck_X0 ck_l0 (by decide +kernel)
set_option maxRecDepth 100000 in
/-- GlacierMailModel.years -/
def p2_s1224 : ck_Sum := ((10, 0, 0), 245, [.inr (.inr (.inl 226)), .inl (ck_one 10)], ([], [], zl181), (zl182, []), [(.inr (some (.inl (0, 240, []))), 245, ([], [], [(227, 9, 9, (10, 299, [(1000011, 0)])), (226, 6, 6, (0, 12, [(1000027, 0)])), (226, 0, 0, (0, 1, []))]))])
set_option maxRecDepth 100000 in
theorem p2_s1224_s {X : Int → Int} {LX : Nat} : ck_Ok p2_O X LX 320 p2_s1224 := ck_ok_s (O := p2_O) (X := X) (LX := LX) (E := [(286, [p2_s1223]), (266, [p2_s190]), (282, [p2_s242, p2_s241]), (316, [p2_s553]), (321, [p2_s1205])]) (mi := 320) (cuts := []) (f := 330) (S := p2_s1224) (lx := none) (XF := []) ⟨p2_nmu, ck_E1 (ck_S1 p2_s1223_s ck_S0) (ck_E1 (ck_S1 p2_s190_s ck_S0) (ck_E1 (ck_S1 p2_s242_s (ck_S1 p2_s241_s ck_S0)) (ck_E1 (ck_S1 p2_s553_s ck_S0) (ck_E1 (ck_S1 p2_s1205_s ck_S0) ck_E0))))⟩ ck_X0 ck_l0 (by decide +kernel)
set_option maxRecDepth 100000 in
/-- GlacierMailModel.in -/
def p2_s1225 : ck_Sum := ((0, 0, 0), 245, [.inl (ck_one 11), .inl (ck_one 1), .inl (ck_one 50)], ([], [], []), ([], []), [(.inr (some (.inl (ck_one 1))), 245, ([], [], []))])
set_option maxRecDepth 100000 in
theorem p2_s1225_s {X : Int → Int} {LX : Nat} : ck_Ok p2_O X LX 286 p2_s1225 := ck_ok_s (O := p2_O) (X := X) (LX := LX) (E := []) (mi := 286) (cuts := []) (f := 88) (S := p2_s1225) (lx := none) (XF := []) ⟨p2_nmu, ck_E0⟩ ck_X0 ck_l0 (by decide +kernel)
end
