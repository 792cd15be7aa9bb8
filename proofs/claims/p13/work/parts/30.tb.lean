/-! 30.tb -/
section
/-! WHAT ALWAYS HOLDS between the calls (laid by wip/am/p2k.py): kinds, references, types of every cell. -/
set_option maxRecDepth 100000 in
noncomputable def p2_T0 : List (Option ((Nat × Nat) × List (Int × Nat) × List (Int × Int × Int × Int))) := [none, some (((4 : Nat), (0 : Nat)), [((0 : Int), (2 : Nat)), ((3 : Int), (3 : Nat)), ((4 : Int), (16 : Nat)), ((5 : Int), (29 : Nat)), ((7 : Int), (42 : Nat)), ((8 : Int), (200 : Nat)), ((9 : Int), (206 : Nat)), ((10 : Int), (207 : Nat)), ((11 : Int), (208 : Nat)), ((12 : Int), (213 : Nat)), ((13 : Int), (215 : Nat)), ((14 : Int), (220 : Nat)), ((16 : Int), (222 : Nat)), ((17 : Int), (224 : Nat))], [((1 : Int), (1 : Int), (0 : Int), (400 : Int)), ((2 : Int), (2 : Int), (-1 : Int), (400 : Int)), ((6 : Int), (6 : Int), (0 : Int), (1 : Int)), ((15 : Int), (15 : Int), (0 : Int), (1 : Int))]), some (((1 : Nat), (400 : Nat)), [], [((0 : Int), (399 : Int), (-128 : Int), (127 : Int))]), some (((5 : Nat), (0 : Nat)), [((9 : Int), (4 : Nat)), ((10 : Int), (6 : Nat)), ((11 : Int), (8 : Nat)), ((12 : Int), (10 : Nat)), ((13 : Int), (12 : Nat)), ((14 : Int), (14 : Nat))], [((0 : Int), (0 : Int), (1 : Int), (6 : Int)), ((1 : Int), (1 : Int), (10 : Int), (99 : Int)), ((2 : Int), (2 : Int), (0 : Int), (98 : Int)), ((3 : Int), (3 : Int), (0 : Int), (9 : Int)), ((4 : Int), (4 : Int), (0 : Int), (6 : Int)), ((5 : Int), (5 : Int), (0 : Int), (9999 : Int)), ((6 : Int), (6 : Int), (0 : Int), (299 : Int)), ((7 : Int), (7 : Int), (-2147483648 : Int), (2147483647 : Int))]), some (((6 : Nat), (0 : Nat)), [((2 : Int), (5 : Nat))], [((0 : Int), (0 : Int), (8 : Int), (8 : Int)), ((1 : Int), (1 : Int), (7 : Int), (7 : Int)), ((3 : Int), (3 : Int), (0 : Int), (8 : Int))]), some (((0 : Nat), (56 : Nat)), [], [((0 : Int), (55 : Int), (0 : Int), (98 : Int))]), some (((6 : Nat), (0 : Nat)), [((2 : Int), (7 : Nat))], [((0 : Int), (0 : Int), (8 : Int), (8 : Int)), ((1 : Int), (1 : Int), (3 : Int), (3 : Int)), ((3 : Int), (3 : Int), (0 : Int), (8 : Int))]), some (((0 : Nat), (24 : Nat)), [], [((0 : Int), (23 : Int), (0 : Int), (299 : Int))]), some (((6 : Nat), (0 : Nat)), [((2 : Int), (9 : Nat))], [((0 : Int), (0 : Int), (8 : Int), (8 : Int)), ((1 : Int), (1 : Int), (3 : Int), (3 : Int)), ((3 : Int), (3 : Int), (0 : Int), (8 : Int))]), some (((0 : Nat), (24 : Nat)), [], [((0 : Int), (23 : Int), (-1 : Int), (98 : Int))]), some (((6 : Nat), (0 : Nat)), [((2 : Int), (11 : Nat))], [((0 : Int), (0 : Int), (24 : Int), (24 : Int)), ((1 : Int), (1 : Int), (7 : Int), (7 : Int)), ((3 : Int), (3 : Int), (0 : Int), (24 : Int))]), some (((0 : Nat), (168 : Nat)), [], [((0 : Int), (167 : Int), (-1 : Int), (299 : Int))]), some (((6 : Nat), (0 : Nat)), [((2 : Int), (13 : Nat))], [((0 : Int), (1 : Int), (6 : Int), (6 : Int)), ((3 : Int), (3 : Int), (0 : Int), (6 : Int))]), some (((0 : Nat), (36 : Nat)), [], [((0 : Int), (35 : Int), (0 : Int), (20 : Int))]), some (((6 : Nat), (0 : Nat)), [((2 : Int), (15 : Nat))], [((0 : Int), (0 : Int), (24 : Int), (24 : Int)), ((1 : Int), (1 : Int), (3 : Int), (3 : Int)), ((3 : Int), (3 : Int), (0 : Int), (24 : Int))]), some (((0 : Nat), (72 : Nat)), [], [((0 : Int), (71 : Int), (-1 : Int), (299 : Int))])]
set_option maxRecDepth 100000 in
noncomputable def p2_T1 : List (Option ((Nat × Nat) × List (Int × Nat) × List (Int × Int × Int × Int))) := [some (((5 : Nat), (0 : Nat)), [((9 : Int), (17 : Nat)), ((10 : Int), (19 : Nat)), ((11 : Int), (21 : Nat)), ((12 : Int), (23 : Nat)), ((13 : Int), (25 : Nat)), ((14 : Int), (27 : Nat))], [((0 : Int), (0 : Int), (1 : Int), (6 : Int)), ((1 : Int), (1 : Int), (10 : Int), (99 : Int)), ((2 : Int), (2 : Int), (0 : Int), (98 : Int)), ((3 : Int), (3 : Int), (0 : Int), (9 : Int)), ((4 : Int), (4 : Int), (0 : Int), (6 : Int)), ((5 : Int), (5 : Int), (0 : Int), (9999 : Int)), ((6 : Int), (6 : Int), (0 : Int), (299 : Int)), ((7 : Int), (7 : Int), (-2147483648 : Int), (2147483647 : Int))]), some (((6 : Nat), (0 : Nat)), [((2 : Int), (18 : Nat))], [((0 : Int), (0 : Int), (8 : Int), (8 : Int)), ((1 : Int), (1 : Int), (7 : Int), (7 : Int)), ((3 : Int), (3 : Int), (0 : Int), (8 : Int))]), some (((0 : Nat), (56 : Nat)), [], [((0 : Int), (55 : Int), (0 : Int), (98 : Int))]), some (((6 : Nat), (0 : Nat)), [((2 : Int), (20 : Nat))], [((0 : Int), (0 : Int), (8 : Int), (8 : Int)), ((1 : Int), (1 : Int), (3 : Int), (3 : Int)), ((3 : Int), (3 : Int), (0 : Int), (8 : Int))]), some (((0 : Nat), (24 : Nat)), [], [((0 : Int), (23 : Int), (0 : Int), (299 : Int))]), some (((6 : Nat), (0 : Nat)), [((2 : Int), (22 : Nat))], [((0 : Int), (0 : Int), (8 : Int), (8 : Int)), ((1 : Int), (1 : Int), (3 : Int), (3 : Int)), ((3 : Int), (3 : Int), (0 : Int), (8 : Int))]), some (((0 : Nat), (24 : Nat)), [], [((0 : Int), (23 : Int), (-1 : Int), (98 : Int))]), some (((6 : Nat), (0 : Nat)), [((2 : Int), (24 : Nat))], [((0 : Int), (0 : Int), (24 : Int), (24 : Int)), ((1 : Int), (1 : Int), (7 : Int), (7 : Int)), ((3 : Int), (3 : Int), (0 : Int), (24 : Int))]), some (((0 : Nat), (168 : Nat)), [], [((0 : Int), (167 : Int), (-1 : Int), (299 : Int))]), some (((6 : Nat), (0 : Nat)), [((2 : Int), (26 : Nat))], [((0 : Int), (1 : Int), (6 : Int), (6 : Int)), ((3 : Int), (3 : Int), (0 : Int), (6 : Int))]), some (((0 : Nat), (36 : Nat)), [], [((0 : Int), (35 : Int), (0 : Int), (20 : Int))]), some (((6 : Nat), (0 : Nat)), [((2 : Int), (28 : Nat))], [((0 : Int), (0 : Int), (24 : Int), (24 : Int)), ((1 : Int), (1 : Int), (3 : Int), (3 : Int)), ((3 : Int), (3 : Int), (0 : Int), (24 : Int))]), some (((0 : Nat), (72 : Nat)), [], [((0 : Int), (71 : Int), (-1 : Int), (299 : Int))]), some (((5 : Nat), (0 : Nat)), [((9 : Int), (30 : Nat)), ((10 : Int), (32 : Nat)), ((11 : Int), (34 : Nat)), ((12 : Int), (36 : Nat)), ((13 : Int), (38 : Nat)), ((14 : Int), (40 : Nat))], [((0 : Int), (0 : Int), (1 : Int), (6 : Int)), ((1 : Int), (1 : Int), (10 : Int), (99 : Int)), ((2 : Int), (2 : Int), (0 : Int), (98 : Int)), ((3 : Int), (3 : Int), (0 : Int), (9 : Int)), ((4 : Int), (4 : Int), (0 : Int), (6 : Int)), ((5 : Int), (5 : Int), (0 : Int), (9999 : Int)), ((6 : Int), (6 : Int), (0 : Int), (299 : Int)), ((7 : Int), (7 : Int), (-2147483648 : Int), (2147483647 : Int))]), some (((6 : Nat), (0 : Nat)), [((2 : Int), (31 : Nat))], [((0 : Int), (0 : Int), (8 : Int), (8 : Int)), ((1 : Int), (1 : Int), (7 : Int), (7 : Int)), ((3 : Int), (3 : Int), (0 : Int), (8 : Int))]), some (((0 : Nat), (56 : Nat)), [], [((0 : Int), (55 : Int), (0 : Int), (98 : Int))])]
set_option maxRecDepth 100000 in
noncomputable def p2_T2 : List (Option ((Nat × Nat) × List (Int × Nat) × List (Int × Int × Int × Int))) := [some (((6 : Nat), (0 : Nat)), [((2 : Int), (33 : Nat))], [((0 : Int), (0 : Int), (8 : Int), (8 : Int)), ((1 : Int), (1 : Int), (3 : Int), (3 : Int)), ((3 : Int), (3 : Int), (0 : Int), (8 : Int))]), some (((0 : Nat), (24 : Nat)), [], [((0 : Int), (23 : Int), (0 : Int), (299 : Int))]), some (((6 : Nat), (0 : Nat)), [((2 : Int), (35 : Nat))], [((0 : Int), (0 : Int), (8 : Int), (8 : Int)), ((1 : Int), (1 : Int), (3 : Int), (3 : Int)), ((3 : Int), (3 : Int), (0 : Int), (8 : Int))]), some (((0 : Nat), (24 : Nat)), [], [((0 : Int), (23 : Int), (-1 : Int), (98 : Int))]), some (((6 : Nat), (0 : Nat)), [((2 : Int), (37 : Nat))], [((0 : Int), (0 : Int), (24 : Int), (24 : Int)), ((1 : Int), (1 : Int), (7 : Int), (7 : Int)), ((3 : Int), (3 : Int), (0 : Int), (24 : Int))]), some (((0 : Nat), (168 : Nat)), [], [((0 : Int), (167 : Int), (-1 : Int), (299 : Int))]), some (((6 : Nat), (0 : Nat)), [((2 : Int), (39 : Nat))], [((0 : Int), (1 : Int), (6 : Int), (6 : Int)), ((3 : Int), (3 : Int), (0 : Int), (6 : Int))]), some (((0 : Nat), (36 : Nat)), [], [((0 : Int), (35 : Int), (0 : Int), (20 : Int))]), some (((6 : Nat), (0 : Nat)), [((2 : Int), (41 : Nat))], [((0 : Int), (0 : Int), (24 : Int), (24 : Int)), ((1 : Int), (1 : Int), (3 : Int), (3 : Int)), ((3 : Int), (3 : Int), (0 : Int), (24 : Int))]), some (((0 : Nat), (72 : Nat)), [], [((0 : Int), (71 : Int), (-1 : Int), (299 : Int))]), some (((7 : Nat), (0 : Nat)), [((0 : Int), (43 : Nat))], [((1 : Int), (2 : Int), (0 : Int), (12 : Int))]), some (((3 : Nat), (12 : Nat)), [((0 : Int), (44 : Nat)), ((1 : Int), (57 : Nat)), ((2 : Int), (70 : Nat)), ((3 : Int), (83 : Nat)), ((4 : Int), (96 : Nat)), ((5 : Int), (109 : Nat)), ((6 : Int), (122 : Nat)), ((7 : Int), (135 : Nat)), ((8 : Int), (148 : Nat)), ((9 : Int), (161 : Nat)), ((10 : Int), (174 : Nat)), ((11 : Int), (187 : Nat))], []), some (((5 : Nat), (0 : Nat)), [((9 : Int), (45 : Nat)), ((10 : Int), (47 : Nat)), ((11 : Int), (49 : Nat)), ((12 : Int), (51 : Nat)), ((13 : Int), (53 : Nat)), ((14 : Int), (55 : Nat))], [((0 : Int), (0 : Int), (1 : Int), (6 : Int)), ((1 : Int), (1 : Int), (10 : Int), (99 : Int)), ((2 : Int), (2 : Int), (0 : Int), (98 : Int)), ((3 : Int), (3 : Int), (0 : Int), (9 : Int)), ((4 : Int), (4 : Int), (0 : Int), (6 : Int)), ((5 : Int), (5 : Int), (0 : Int), (9999 : Int)), ((6 : Int), (6 : Int), (0 : Int), (299 : Int)), ((7 : Int), (7 : Int), (-2147483648 : Int), (2147483647 : Int))]), some (((6 : Nat), (0 : Nat)), [((2 : Int), (46 : Nat))], [((0 : Int), (0 : Int), (8 : Int), (8 : Int)), ((1 : Int), (1 : Int), (7 : Int), (7 : Int)), ((3 : Int), (3 : Int), (0 : Int), (8 : Int))]), some (((0 : Nat), (56 : Nat)), [], [((0 : Int), (55 : Int), (0 : Int), (98 : Int))]), some (((6 : Nat), (0 : Nat)), [((2 : Int), (48 : Nat))], [((0 : Int), (0 : Int), (8 : Int), (8 : Int)), ((1 : Int), (1 : Int), (3 : Int), (3 : Int)), ((3 : Int), (3 : Int), (0 : Int), (8 : Int))])]
set_option maxRecDepth 100000 in
noncomputable def p2_T3 : List (Option ((Nat × Nat) × List (Int × Nat) × List (Int × Int × Int × Int))) := [some (((0 : Nat), (24 : Nat)), [], [((0 : Int), (23 : Int), (0 : Int), (299 : Int))]), some (((6 : Nat), (0 : Nat)), [((2 : Int), (50 : Nat))], [((0 : Int), (0 : Int), (8 : Int), (8 : Int)), ((1 : Int), (1 : Int), (3 : Int), (3 : Int)), ((3 : Int), (3 : Int), (0 : Int), (8 : Int))]), some (((0 : Nat), (24 : Nat)), [], [((0 : Int), (23 : Int), (-1 : Int), (98 : Int))]), some (((6 : Nat), (0 : Nat)), [((2 : Int), (52 : Nat))], [((0 : Int), (0 : Int), (24 : Int), (24 : Int)), ((1 : Int), (1 : Int), (7 : Int), (7 : Int)), ((3 : Int), (3 : Int), (0 : Int), (24 : Int))]), some (((0 : Nat), (168 : Nat)), [], [((0 : Int), (167 : Int), (-1 : Int), (299 : Int))]), some (((6 : Nat), (0 : Nat)), [((2 : Int), (54 : Nat))], [((0 : Int), (1 : Int), (6 : Int), (6 : Int)), ((3 : Int), (3 : Int), (0 : Int), (6 : Int))]), some (((0 : Nat), (36 : Nat)), [], [((0 : Int), (35 : Int), (0 : Int), (20 : Int))]), some (((6 : Nat), (0 : Nat)), [((2 : Int), (56 : Nat))], [((0 : Int), (0 : Int), (24 : Int), (24 : Int)), ((1 : Int), (1 : Int), (3 : Int), (3 : Int)), ((3 : Int), (3 : Int), (0 : Int), (24 : Int))]), some (((0 : Nat), (72 : Nat)), [], [((0 : Int), (71 : Int), (-1 : Int), (299 : Int))]), some (((5 : Nat), (0 : Nat)), [((9 : Int), (58 : Nat)), ((10 : Int), (60 : Nat)), ((11 : Int), (62 : Nat)), ((12 : Int), (64 : Nat)), ((13 : Int), (66 : Nat)), ((14 : Int), (68 : Nat))], [((0 : Int), (0 : Int), (1 : Int), (6 : Int)), ((1 : Int), (1 : Int), (10 : Int), (99 : Int)), ((2 : Int), (2 : Int), (0 : Int), (98 : Int)), ((3 : Int), (3 : Int), (0 : Int), (9 : Int)), ((4 : Int), (4 : Int), (0 : Int), (6 : Int)), ((5 : Int), (5 : Int), (0 : Int), (9999 : Int)), ((6 : Int), (6 : Int), (0 : Int), (299 : Int)), ((7 : Int), (7 : Int), (-2147483648 : Int), (2147483647 : Int))]), some (((6 : Nat), (0 : Nat)), [((2 : Int), (59 : Nat))], [((0 : Int), (0 : Int), (8 : Int), (8 : Int)), ((1 : Int), (1 : Int), (7 : Int), (7 : Int)), ((3 : Int), (3 : Int), (0 : Int), (8 : Int))]), some (((0 : Nat), (56 : Nat)), [], [((0 : Int), (55 : Int), (0 : Int), (98 : Int))]), some (((6 : Nat), (0 : Nat)), [((2 : Int), (61 : Nat))], [((0 : Int), (0 : Int), (8 : Int), (8 : Int)), ((1 : Int), (1 : Int), (3 : Int), (3 : Int)), ((3 : Int), (3 : Int), (0 : Int), (8 : Int))]), some (((0 : Nat), (24 : Nat)), [], [((0 : Int), (23 : Int), (0 : Int), (299 : Int))]), some (((6 : Nat), (0 : Nat)), [((2 : Int), (63 : Nat))], [((0 : Int), (0 : Int), (8 : Int), (8 : Int)), ((1 : Int), (1 : Int), (3 : Int), (3 : Int)), ((3 : Int), (3 : Int), (0 : Int), (8 : Int))]), some (((0 : Nat), (24 : Nat)), [], [((0 : Int), (23 : Int), (-1 : Int), (98 : Int))])]
set_option maxRecDepth 100000 in
noncomputable def p2_T4 : List (Option ((Nat × Nat) × List (Int × Nat) × List (Int × Int × Int × Int))) := [some (((6 : Nat), (0 : Nat)), [((2 : Int), (65 : Nat))], [((0 : Int), (0 : Int), (24 : Int), (24 : Int)), ((1 : Int), (1 : Int), (7 : Int), (7 : Int)), ((3 : Int), (3 : Int), (0 : Int), (24 : Int))]), some (((0 : Nat), (168 : Nat)), [], [((0 : Int), (167 : Int), (-1 : Int), (299 : Int))]), some (((6 : Nat), (0 : Nat)), [((2 : Int), (67 : Nat))], [((0 : Int), (1 : Int), (6 : Int), (6 : Int)), ((3 : Int), (3 : Int), (0 : Int), (6 : Int))]), some (((0 : Nat), (36 : Nat)), [], [((0 : Int), (35 : Int), (0 : Int), (20 : Int))]), some (((6 : Nat), (0 : Nat)), [((2 : Int), (69 : Nat))], [((0 : Int), (0 : Int), (24 : Int), (24 : Int)), ((1 : Int), (1 : Int), (3 : Int), (3 : Int)), ((3 : Int), (3 : Int), (0 : Int), (24 : Int))]), some (((0 : Nat), (72 : Nat)), [], [((0 : Int), (71 : Int), (-1 : Int), (299 : Int))]), some (((5 : Nat), (0 : Nat)), [((9 : Int), (71 : Nat)), ((10 : Int), (73 : Nat)), ((11 : Int), (75 : Nat)), ((12 : Int), (77 : Nat)), ((13 : Int), (79 : Nat)), ((14 : Int), (81 : Nat))], [((0 : Int), (0 : Int), (1 : Int), (6 : Int)), ((1 : Int), (1 : Int), (10 : Int), (99 : Int)), ((2 : Int), (2 : Int), (0 : Int), (98 : Int)), ((3 : Int), (3 : Int), (0 : Int), (9 : Int)), ((4 : Int), (4 : Int), (0 : Int), (6 : Int)), ((5 : Int), (5 : Int), (0 : Int), (9999 : Int)), ((6 : Int), (6 : Int), (0 : Int), (299 : Int)), ((7 : Int), (7 : Int), (-2147483648 : Int), (2147483647 : Int))]), some (((6 : Nat), (0 : Nat)), [((2 : Int), (72 : Nat))], [((0 : Int), (0 : Int), (8 : Int), (8 : Int)), ((1 : Int), (1 : Int), (7 : Int), (7 : Int)), ((3 : Int), (3 : Int), (0 : Int), (8 : Int))]), some (((0 : Nat), (56 : Nat)), [], [((0 : Int), (55 : Int), (0 : Int), (98 : Int))]), some (((6 : Nat), (0 : Nat)), [((2 : Int), (74 : Nat))], [((0 : Int), (0 : Int), (8 : Int), (8 : Int)), ((1 : Int), (1 : Int), (3 : Int), (3 : Int)), ((3 : Int), (3 : Int), (0 : Int), (8 : Int))]), some (((0 : Nat), (24 : Nat)), [], [((0 : Int), (23 : Int), (0 : Int), (299 : Int))]), some (((6 : Nat), (0 : Nat)), [((2 : Int), (76 : Nat))], [((0 : Int), (0 : Int), (8 : Int), (8 : Int)), ((1 : Int), (1 : Int), (3 : Int), (3 : Int)), ((3 : Int), (3 : Int), (0 : Int), (8 : Int))]), some (((0 : Nat), (24 : Nat)), [], [((0 : Int), (23 : Int), (-1 : Int), (98 : Int))]), some (((6 : Nat), (0 : Nat)), [((2 : Int), (78 : Nat))], [((0 : Int), (0 : Int), (24 : Int), (24 : Int)), ((1 : Int), (1 : Int), (7 : Int), (7 : Int)), ((3 : Int), (3 : Int), (0 : Int), (24 : Int))]), some (((0 : Nat), (168 : Nat)), [], [((0 : Int), (167 : Int), (-1 : Int), (299 : Int))]), some (((6 : Nat), (0 : Nat)), [((2 : Int), (80 : Nat))], [((0 : Int), (1 : Int), (6 : Int), (6 : Int)), ((3 : Int), (3 : Int), (0 : Int), (6 : Int))])]
set_option maxRecDepth 100000 in
noncomputable def p2_T5 : List (Option ((Nat × Nat) × List (Int × Nat) × List (Int × Int × Int × Int))) := [some (((0 : Nat), (36 : Nat)), [], [((0 : Int), (35 : Int), (0 : Int), (20 : Int))]), some (((6 : Nat), (0 : Nat)), [((2 : Int), (82 : Nat))], [((0 : Int), (0 : Int), (24 : Int), (24 : Int)), ((1 : Int), (1 : Int), (3 : Int), (3 : Int)), ((3 : Int), (3 : Int), (0 : Int), (24 : Int))]), some (((0 : Nat), (72 : Nat)), [], [((0 : Int), (71 : Int), (-1 : Int), (299 : Int))]), some (((5 : Nat), (0 : Nat)), [((9 : Int), (84 : Nat)), ((10 : Int), (86 : Nat)), ((11 : Int), (88 : Nat)), ((12 : Int), (90 : Nat)), ((13 : Int), (92 : Nat)), ((14 : Int), (94 : Nat))], [((0 : Int), (0 : Int), (1 : Int), (6 : Int)), ((1 : Int), (1 : Int), (10 : Int), (99 : Int)), ((2 : Int), (2 : Int), (0 : Int), (98 : Int)), ((3 : Int), (3 : Int), (0 : Int), (9 : Int)), ((4 : Int), (4 : Int), (0 : Int), (6 : Int)), ((5 : Int), (5 : Int), (0 : Int), (9999 : Int)), ((6 : Int), (6 : Int), (0 : Int), (299 : Int)), ((7 : Int), (7 : Int), (-2147483648 : Int), (2147483647 : Int))]), some (((6 : Nat), (0 : Nat)), [((2 : Int), (85 : Nat))], [((0 : Int), (0 : Int), (8 : Int), (8 : Int)), ((1 : Int), (1 : Int), (7 : Int), (7 : Int)), ((3 : Int), (3 : Int), (0 : Int), (8 : Int))]), some (((0 : Nat), (56 : Nat)), [], [((0 : Int), (55 : Int), (0 : Int), (98 : Int))]), some (((6 : Nat), (0 : Nat)), [((2 : Int), (87 : Nat))], [((0 : Int), (0 : Int), (8 : Int), (8 : Int)), ((1 : Int), (1 : Int), (3 : Int), (3 : Int)), ((3 : Int), (3 : Int), (0 : Int), (8 : Int))]), some (((0 : Nat), (24 : Nat)), [], [((0 : Int), (23 : Int), (0 : Int), (299 : Int))]), some (((6 : Nat), (0 : Nat)), [((2 : Int), (89 : Nat))], [((0 : Int), (0 : Int), (8 : Int), (8 : Int)), ((1 : Int), (1 : Int), (3 : Int), (3 : Int)), ((3 : Int), (3 : Int), (0 : Int), (8 : Int))]), some (((0 : Nat), (24 : Nat)), [], [((0 : Int), (23 : Int), (-1 : Int), (98 : Int))]), some (((6 : Nat), (0 : Nat)), [((2 : Int), (91 : Nat))], [((0 : Int), (0 : Int), (24 : Int), (24 : Int)), ((1 : Int), (1 : Int), (7 : Int), (7 : Int)), ((3 : Int), (3 : Int), (0 : Int), (24 : Int))]), some (((0 : Nat), (168 : Nat)), [], [((0 : Int), (167 : Int), (-1 : Int), (299 : Int))]), some (((6 : Nat), (0 : Nat)), [((2 : Int), (93 : Nat))], [((0 : Int), (1 : Int), (6 : Int), (6 : Int)), ((3 : Int), (3 : Int), (0 : Int), (6 : Int))]), some (((0 : Nat), (36 : Nat)), [], [((0 : Int), (35 : Int), (0 : Int), (20 : Int))]), some (((6 : Nat), (0 : Nat)), [((2 : Int), (95 : Nat))], [((0 : Int), (0 : Int), (24 : Int), (24 : Int)), ((1 : Int), (1 : Int), (3 : Int), (3 : Int)), ((3 : Int), (3 : Int), (0 : Int), (24 : Int))]), some (((0 : Nat), (72 : Nat)), [], [((0 : Int), (71 : Int), (-1 : Int), (299 : Int))])]
set_option maxRecDepth 100000 in
noncomputable def p2_T6 : List (Option ((Nat × Nat) × List (Int × Nat) × List (Int × Int × Int × Int))) := [some (((5 : Nat), (0 : Nat)), [((9 : Int), (97 : Nat)), ((10 : Int), (99 : Nat)), ((11 : Int), (101 : Nat)), ((12 : Int), (103 : Nat)), ((13 : Int), (105 : Nat)), ((14 : Int), (107 : Nat))], [((0 : Int), (0 : Int), (1 : Int), (6 : Int)), ((1 : Int), (1 : Int), (10 : Int), (99 : Int)), ((2 : Int), (2 : Int), (0 : Int), (98 : Int)), ((3 : Int), (3 : Int), (0 : Int), (9 : Int)), ((4 : Int), (4 : Int), (0 : Int), (6 : Int)), ((5 : Int), (5 : Int), (0 : Int), (9999 : Int)), ((6 : Int), (6 : Int), (0 : Int), (299 : Int)), ((7 : Int), (7 : Int), (-2147483648 : Int), (2147483647 : Int))]), some (((6 : Nat), (0 : Nat)), [((2 : Int), (98 : Nat))], [((0 : Int), (0 : Int), (8 : Int), (8 : Int)), ((1 : Int), (1 : Int), (7 : Int), (7 : Int)), ((3 : Int), (3 : Int), (0 : Int), (8 : Int))]), some (((0 : Nat), (56 : Nat)), [], [((0 : Int), (55 : Int), (0 : Int), (98 : Int))]), some (((6 : Nat), (0 : Nat)), [((2 : Int), (100 : Nat))], [((0 : Int), (0 : Int), (8 : Int), (8 : Int)), ((1 : Int), (1 : Int), (3 : Int), (3 : Int)), ((3 : Int), (3 : Int), (0 : Int), (8 : Int))]), some (((0 : Nat), (24 : Nat)), [], [((0 : Int), (23 : Int), (0 : Int), (299 : Int))]), some (((6 : Nat), (0 : Nat)), [((2 : Int), (102 : Nat))], [((0 : Int), (0 : Int), (8 : Int), (8 : Int)), ((1 : Int), (1 : Int), (3 : Int), (3 : Int)), ((3 : Int), (3 : Int), (0 : Int), (8 : Int))]), some (((0 : Nat), (24 : Nat)), [], [((0 : Int), (23 : Int), (-1 : Int), (98 : Int))]), some (((6 : Nat), (0 : Nat)), [((2 : Int), (104 : Nat))], [((0 : Int), (0 : Int), (24 : Int), (24 : Int)), ((1 : Int), (1 : Int), (7 : Int), (7 : Int)), ((3 : Int), (3 : Int), (0 : Int), (24 : Int))]), some (((0 : Nat), (168 : Nat)), [], [((0 : Int), (167 : Int), (-1 : Int), (299 : Int))]), some (((6 : Nat), (0 : Nat)), [((2 : Int), (106 : Nat))], [((0 : Int), (1 : Int), (6 : Int), (6 : Int)), ((3 : Int), (3 : Int), (0 : Int), (6 : Int))]), some (((0 : Nat), (36 : Nat)), [], [((0 : Int), (35 : Int), (0 : Int), (20 : Int))]), some (((6 : Nat), (0 : Nat)), [((2 : Int), (108 : Nat))], [((0 : Int), (0 : Int), (24 : Int), (24 : Int)), ((1 : Int), (1 : Int), (3 : Int), (3 : Int)), ((3 : Int), (3 : Int), (0 : Int), (24 : Int))]), some (((0 : Nat), (72 : Nat)), [], [((0 : Int), (71 : Int), (-1 : Int), (299 : Int))]), some (((5 : Nat), (0 : Nat)), [((9 : Int), (110 : Nat)), ((10 : Int), (112 : Nat)), ((11 : Int), (114 : Nat)), ((12 : Int), (116 : Nat)), ((13 : Int), (118 : Nat)), ((14 : Int), (120 : Nat))], [((0 : Int), (0 : Int), (1 : Int), (6 : Int)), ((1 : Int), (1 : Int), (10 : Int), (99 : Int)), ((2 : Int), (2 : Int), (0 : Int), (98 : Int)), ((3 : Int), (3 : Int), (0 : Int), (9 : Int)), ((4 : Int), (4 : Int), (0 : Int), (6 : Int)), ((5 : Int), (5 : Int), (0 : Int), (9999 : Int)), ((6 : Int), (6 : Int), (0 : Int), (299 : Int)), ((7 : Int), (7 : Int), (-2147483648 : Int), (2147483647 : Int))]), some (((6 : Nat), (0 : Nat)), [((2 : Int), (111 : Nat))], [((0 : Int), (0 : Int), (8 : Int), (8 : Int)), ((1 : Int), (1 : Int), (7 : Int), (7 : Int)), ((3 : Int), (3 : Int), (0 : Int), (8 : Int))]), some (((0 : Nat), (56 : Nat)), [], [((0 : Int), (55 : Int), (0 : Int), (98 : Int))])]
set_option maxRecDepth 100000 in
noncomputable def p2_T7 : List (Option ((Nat × Nat) × List (Int × Nat) × List (Int × Int × Int × Int))) := [some (((6 : Nat), (0 : Nat)), [((2 : Int), (113 : Nat))], [((0 : Int), (0 : Int), (8 : Int), (8 : Int)), ((1 : Int), (1 : Int), (3 : Int), (3 : Int)), ((3 : Int), (3 : Int), (0 : Int), (8 : Int))]), some (((0 : Nat), (24 : Nat)), [], [((0 : Int), (23 : Int), (0 : Int), (299 : Int))]), some (((6 : Nat), (0 : Nat)), [((2 : Int), (115 : Nat))], [((0 : Int), (0 : Int), (8 : Int), (8 : Int)), ((1 : Int), (1 : Int), (3 : Int), (3 : Int)), ((3 : Int), (3 : Int), (0 : Int), (8 : Int))]), some (((0 : Nat), (24 : Nat)), [], [((0 : Int), (23 : Int), (-1 : Int), (98 : Int))]), some (((6 : Nat), (0 : Nat)), [((2 : Int), (117 : Nat))], [((0 : Int), (0 : Int), (24 : Int), (24 : Int)), ((1 : Int), (1 : Int), (7 : Int), (7 : Int)), ((3 : Int), (3 : Int), (0 : Int), (24 : Int))]), some (((0 : Nat), (168 : Nat)), [], [((0 : Int), (167 : Int), (-1 : Int), (299 : Int))]), some (((6 : Nat), (0 : Nat)), [((2 : Int), (119 : Nat))], [((0 : Int), (1 : Int), (6 : Int), (6 : Int)), ((3 : Int), (3 : Int), (0 : Int), (6 : Int))]), some (((0 : Nat), (36 : Nat)), [], [((0 : Int), (35 : Int), (0 : Int), (20 : Int))]), some (((6 : Nat), (0 : Nat)), [((2 : Int), (121 : Nat))], [((0 : Int), (0 : Int), (24 : Int), (24 : Int)), ((1 : Int), (1 : Int), (3 : Int), (3 : Int)), ((3 : Int), (3 : Int), (0 : Int), (24 : Int))]), some (((0 : Nat), (72 : Nat)), [], [((0 : Int), (71 : Int), (-1 : Int), (299 : Int))]), some (((5 : Nat), (0 : Nat)), [((9 : Int), (123 : Nat)), ((10 : Int), (125 : Nat)), ((11 : Int), (127 : Nat)), ((12 : Int), (129 : Nat)), ((13 : Int), (131 : Nat)), ((14 : Int), (133 : Nat))], [((0 : Int), (0 : Int), (1 : Int), (6 : Int)), ((1 : Int), (1 : Int), (10 : Int), (99 : Int)), ((2 : Int), (2 : Int), (0 : Int), (98 : Int)), ((3 : Int), (3 : Int), (0 : Int), (9 : Int)), ((4 : Int), (4 : Int), (0 : Int), (6 : Int)), ((5 : Int), (5 : Int), (0 : Int), (9999 : Int)), ((6 : Int), (6 : Int), (0 : Int), (299 : Int)), ((7 : Int), (7 : Int), (-2147483648 : Int), (2147483647 : Int))]), some (((6 : Nat), (0 : Nat)), [((2 : Int), (124 : Nat))], [((0 : Int), (0 : Int), (8 : Int), (8 : Int)), ((1 : Int), (1 : Int), (7 : Int), (7 : Int)), ((3 : Int), (3 : Int), (0 : Int), (8 : Int))]), some (((0 : Nat), (56 : Nat)), [], [((0 : Int), (55 : Int), (0 : Int), (98 : Int))]), some (((6 : Nat), (0 : Nat)), [((2 : Int), (126 : Nat))], [((0 : Int), (0 : Int), (8 : Int), (8 : Int)), ((1 : Int), (1 : Int), (3 : Int), (3 : Int)), ((3 : Int), (3 : Int), (0 : Int), (8 : Int))]), some (((0 : Nat), (24 : Nat)), [], [((0 : Int), (23 : Int), (0 : Int), (299 : Int))]), some (((6 : Nat), (0 : Nat)), [((2 : Int), (128 : Nat))], [((0 : Int), (0 : Int), (8 : Int), (8 : Int)), ((1 : Int), (1 : Int), (3 : Int), (3 : Int)), ((3 : Int), (3 : Int), (0 : Int), (8 : Int))])]
set_option maxRecDepth 100000 in
noncomputable def p2_T8 : List (Option ((Nat × Nat) × List (Int × Nat) × List (Int × Int × Int × Int))) := [some (((0 : Nat), (24 : Nat)), [], [((0 : Int), (23 : Int), (-1 : Int), (98 : Int))]), some (((6 : Nat), (0 : Nat)), [((2 : Int), (130 : Nat))], [((0 : Int), (0 : Int), (24 : Int), (24 : Int)), ((1 : Int), (1 : Int), (7 : Int), (7 : Int)), ((3 : Int), (3 : Int), (0 : Int), (24 : Int))]), some (((0 : Nat), (168 : Nat)), [], [((0 : Int), (167 : Int), (-1 : Int), (299 : Int))]), some (((6 : Nat), (0 : Nat)), [((2 : Int), (132 : Nat))], [((0 : Int), (1 : Int), (6 : Int), (6 : Int)), ((3 : Int), (3 : Int), (0 : Int), (6 : Int))]), some (((0 : Nat), (36 : Nat)), [], [((0 : Int), (35 : Int), (0 : Int), (20 : Int))]), some (((6 : Nat), (0 : Nat)), [((2 : Int), (134 : Nat))], [((0 : Int), (0 : Int), (24 : Int), (24 : Int)), ((1 : Int), (1 : Int), (3 : Int), (3 : Int)), ((3 : Int), (3 : Int), (0 : Int), (24 : Int))]), some (((0 : Nat), (72 : Nat)), [], [((0 : Int), (71 : Int), (-1 : Int), (299 : Int))]), some (((5 : Nat), (0 : Nat)), [((9 : Int), (136 : Nat)), ((10 : Int), (138 : Nat)), ((11 : Int), (140 : Nat)), ((12 : Int), (142 : Nat)), ((13 : Int), (144 : Nat)), ((14 : Int), (146 : Nat))], [((0 : Int), (0 : Int), (1 : Int), (6 : Int)), ((1 : Int), (1 : Int), (10 : Int), (99 : Int)), ((2 : Int), (2 : Int), (0 : Int), (98 : Int)), ((3 : Int), (3 : Int), (0 : Int), (9 : Int)), ((4 : Int), (4 : Int), (0 : Int), (6 : Int)), ((5 : Int), (5 : Int), (0 : Int), (9999 : Int)), ((6 : Int), (6 : Int), (0 : Int), (299 : Int)), ((7 : Int), (7 : Int), (-2147483648 : Int), (2147483647 : Int))]), some (((6 : Nat), (0 : Nat)), [((2 : Int), (137 : Nat))], [((0 : Int), (0 : Int), (8 : Int), (8 : Int)), ((1 : Int), (1 : Int), (7 : Int), (7 : Int)), ((3 : Int), (3 : Int), (0 : Int), (8 : Int))]), some (((0 : Nat), (56 : Nat)), [], [((0 : Int), (55 : Int), (0 : Int), (98 : Int))]), some (((6 : Nat), (0 : Nat)), [((2 : Int), (139 : Nat))], [((0 : Int), (0 : Int), (8 : Int), (8 : Int)), ((1 : Int), (1 : Int), (3 : Int), (3 : Int)), ((3 : Int), (3 : Int), (0 : Int), (8 : Int))]), some (((0 : Nat), (24 : Nat)), [], [((0 : Int), (23 : Int), (0 : Int), (299 : Int))]), some (((6 : Nat), (0 : Nat)), [((2 : Int), (141 : Nat))], [((0 : Int), (0 : Int), (8 : Int), (8 : Int)), ((1 : Int), (1 : Int), (3 : Int), (3 : Int)), ((3 : Int), (3 : Int), (0 : Int), (8 : Int))]), some (((0 : Nat), (24 : Nat)), [], [((0 : Int), (23 : Int), (-1 : Int), (98 : Int))]), some (((6 : Nat), (0 : Nat)), [((2 : Int), (143 : Nat))], [((0 : Int), (0 : Int), (24 : Int), (24 : Int)), ((1 : Int), (1 : Int), (7 : Int), (7 : Int)), ((3 : Int), (3 : Int), (0 : Int), (24 : Int))]), some (((0 : Nat), (168 : Nat)), [], [((0 : Int), (167 : Int), (-1 : Int), (299 : Int))])]
set_option maxRecDepth 100000 in
noncomputable def p2_T9 : List (Option ((Nat × Nat) × List (Int × Nat) × List (Int × Int × Int × Int))) := [some (((6 : Nat), (0 : Nat)), [((2 : Int), (145 : Nat))], [((0 : Int), (1 : Int), (6 : Int), (6 : Int)), ((3 : Int), (3 : Int), (0 : Int), (6 : Int))]), some (((0 : Nat), (36 : Nat)), [], [((0 : Int), (35 : Int), (0 : Int), (20 : Int))]), some (((6 : Nat), (0 : Nat)), [((2 : Int), (147 : Nat))], [((0 : Int), (0 : Int), (24 : Int), (24 : Int)), ((1 : Int), (1 : Int), (3 : Int), (3 : Int)), ((3 : Int), (3 : Int), (0 : Int), (24 : Int))]), some (((0 : Nat), (72 : Nat)), [], [((0 : Int), (71 : Int), (-1 : Int), (299 : Int))]), some (((5 : Nat), (0 : Nat)), [((9 : Int), (149 : Nat)), ((10 : Int), (151 : Nat)), ((11 : Int), (153 : Nat)), ((12 : Int), (155 : Nat)), ((13 : Int), (157 : Nat)), ((14 : Int), (159 : Nat))], [((0 : Int), (0 : Int), (1 : Int), (6 : Int)), ((1 : Int), (1 : Int), (10 : Int), (99 : Int)), ((2 : Int), (2 : Int), (0 : Int), (98 : Int)), ((3 : Int), (3 : Int), (0 : Int), (9 : Int)), ((4 : Int), (4 : Int), (0 : Int), (6 : Int)), ((5 : Int), (5 : Int), (0 : Int), (9999 : Int)), ((6 : Int), (6 : Int), (0 : Int), (299 : Int)), ((7 : Int), (7 : Int), (-2147483648 : Int), (2147483647 : Int))]), some (((6 : Nat), (0 : Nat)), [((2 : Int), (150 : Nat))], [((0 : Int), (0 : Int), (8 : Int), (8 : Int)), ((1 : Int), (1 : Int), (7 : Int), (7 : Int)), ((3 : Int), (3 : Int), (0 : Int), (8 : Int))]), some (((0 : Nat), (56 : Nat)), [], [((0 : Int), (55 : Int), (0 : Int), (98 : Int))]), some (((6 : Nat), (0 : Nat)), [((2 : Int), (152 : Nat))], [((0 : Int), (0 : Int), (8 : Int), (8 : Int)), ((1 : Int), (1 : Int), (3 : Int), (3 : Int)), ((3 : Int), (3 : Int), (0 : Int), (8 : Int))]), some (((0 : Nat), (24 : Nat)), [], [((0 : Int), (23 : Int), (0 : Int), (299 : Int))]), some (((6 : Nat), (0 : Nat)), [((2 : Int), (154 : Nat))], [((0 : Int), (0 : Int), (8 : Int), (8 : Int)), ((1 : Int), (1 : Int), (3 : Int), (3 : Int)), ((3 : Int), (3 : Int), (0 : Int), (8 : Int))]), some (((0 : Nat), (24 : Nat)), [], [((0 : Int), (23 : Int), (-1 : Int), (98 : Int))]), some (((6 : Nat), (0 : Nat)), [((2 : Int), (156 : Nat))], [((0 : Int), (0 : Int), (24 : Int), (24 : Int)), ((1 : Int), (1 : Int), (7 : Int), (7 : Int)), ((3 : Int), (3 : Int), (0 : Int), (24 : Int))]), some (((0 : Nat), (168 : Nat)), [], [((0 : Int), (167 : Int), (-1 : Int), (299 : Int))]), some (((6 : Nat), (0 : Nat)), [((2 : Int), (158 : Nat))], [((0 : Int), (1 : Int), (6 : Int), (6 : Int)), ((3 : Int), (3 : Int), (0 : Int), (6 : Int))]), some (((0 : Nat), (36 : Nat)), [], [((0 : Int), (35 : Int), (0 : Int), (20 : Int))]), some (((6 : Nat), (0 : Nat)), [((2 : Int), (160 : Nat))], [((0 : Int), (0 : Int), (24 : Int), (24 : Int)), ((1 : Int), (1 : Int), (3 : Int), (3 : Int)), ((3 : Int), (3 : Int), (0 : Int), (24 : Int))])]
set_option maxRecDepth 100000 in
noncomputable def p2_T10 : List (Option ((Nat × Nat) × List (Int × Nat) × List (Int × Int × Int × Int))) := [some (((0 : Nat), (72 : Nat)), [], [((0 : Int), (71 : Int), (-1 : Int), (299 : Int))]), some (((5 : Nat), (0 : Nat)), [((9 : Int), (162 : Nat)), ((10 : Int), (164 : Nat)), ((11 : Int), (166 : Nat)), ((12 : Int), (168 : Nat)), ((13 : Int), (170 : Nat)), ((14 : Int), (172 : Nat))], [((0 : Int), (0 : Int), (1 : Int), (6 : Int)), ((1 : Int), (1 : Int), (10 : Int), (99 : Int)), ((2 : Int), (2 : Int), (0 : Int), (98 : Int)), ((3 : Int), (3 : Int), (0 : Int), (9 : Int)), ((4 : Int), (4 : Int), (0 : Int), (6 : Int)), ((5 : Int), (5 : Int), (0 : Int), (9999 : Int)), ((6 : Int), (6 : Int), (0 : Int), (299 : Int)), ((7 : Int), (7 : Int), (-2147483648 : Int), (2147483647 : Int))]), some (((6 : Nat), (0 : Nat)), [((2 : Int), (163 : Nat))], [((0 : Int), (0 : Int), (8 : Int), (8 : Int)), ((1 : Int), (1 : Int), (7 : Int), (7 : Int)), ((3 : Int), (3 : Int), (0 : Int), (8 : Int))]), some (((0 : Nat), (56 : Nat)), [], [((0 : Int), (55 : Int), (0 : Int), (98 : Int))]), some (((6 : Nat), (0 : Nat)), [((2 : Int), (165 : Nat))], [((0 : Int), (0 : Int), (8 : Int), (8 : Int)), ((1 : Int), (1 : Int), (3 : Int), (3 : Int)), ((3 : Int), (3 : Int), (0 : Int), (8 : Int))]), some (((0 : Nat), (24 : Nat)), [], [((0 : Int), (23 : Int), (0 : Int), (299 : Int))]), some (((6 : Nat), (0 : Nat)), [((2 : Int), (167 : Nat))], [((0 : Int), (0 : Int), (8 : Int), (8 : Int)), ((1 : Int), (1 : Int), (3 : Int), (3 : Int)), ((3 : Int), (3 : Int), (0 : Int), (8 : Int))]), some (((0 : Nat), (24 : Nat)), [], [((0 : Int), (23 : Int), (-1 : Int), (98 : Int))]), some (((6 : Nat), (0 : Nat)), [((2 : Int), (169 : Nat))], [((0 : Int), (0 : Int), (24 : Int), (24 : Int)), ((1 : Int), (1 : Int), (7 : Int), (7 : Int)), ((3 : Int), (3 : Int), (0 : Int), (24 : Int))]), some (((0 : Nat), (168 : Nat)), [], [((0 : Int), (167 : Int), (-1 : Int), (299 : Int))]), some (((6 : Nat), (0 : Nat)), [((2 : Int), (171 : Nat))], [((0 : Int), (1 : Int), (6 : Int), (6 : Int)), ((3 : Int), (3 : Int), (0 : Int), (6 : Int))]), some (((0 : Nat), (36 : Nat)), [], [((0 : Int), (35 : Int), (0 : Int), (20 : Int))]), some (((6 : Nat), (0 : Nat)), [((2 : Int), (173 : Nat))], [((0 : Int), (0 : Int), (24 : Int), (24 : Int)), ((1 : Int), (1 : Int), (3 : Int), (3 : Int)), ((3 : Int), (3 : Int), (0 : Int), (24 : Int))]), some (((0 : Nat), (72 : Nat)), [], [((0 : Int), (71 : Int), (-1 : Int), (299 : Int))]), some (((5 : Nat), (0 : Nat)), [((9 : Int), (175 : Nat)), ((10 : Int), (177 : Nat)), ((11 : Int), (179 : Nat)), ((12 : Int), (181 : Nat)), ((13 : Int), (183 : Nat)), ((14 : Int), (185 : Nat))], [((0 : Int), (0 : Int), (1 : Int), (6 : Int)), ((1 : Int), (1 : Int), (10 : Int), (99 : Int)), ((2 : Int), (2 : Int), (0 : Int), (98 : Int)), ((3 : Int), (3 : Int), (0 : Int), (9 : Int)), ((4 : Int), (4 : Int), (0 : Int), (6 : Int)), ((5 : Int), (5 : Int), (0 : Int), (9999 : Int)), ((6 : Int), (6 : Int), (0 : Int), (299 : Int)), ((7 : Int), (7 : Int), (-2147483648 : Int), (2147483647 : Int))]), some (((6 : Nat), (0 : Nat)), [((2 : Int), (176 : Nat))], [((0 : Int), (0 : Int), (8 : Int), (8 : Int)), ((1 : Int), (1 : Int), (7 : Int), (7 : Int)), ((3 : Int), (3 : Int), (0 : Int), (8 : Int))])]
set_option maxRecDepth 100000 in
noncomputable def p2_T11 : List (Option ((Nat × Nat) × List (Int × Nat) × List (Int × Int × Int × Int))) := [some (((0 : Nat), (56 : Nat)), [], [((0 : Int), (55 : Int), (0 : Int), (98 : Int))]), some (((6 : Nat), (0 : Nat)), [((2 : Int), (178 : Nat))], [((0 : Int), (0 : Int), (8 : Int), (8 : Int)), ((1 : Int), (1 : Int), (3 : Int), (3 : Int)), ((3 : Int), (3 : Int), (0 : Int), (8 : Int))]), some (((0 : Nat), (24 : Nat)), [], [((0 : Int), (23 : Int), (0 : Int), (299 : Int))]), some (((6 : Nat), (0 : Nat)), [((2 : Int), (180 : Nat))], [((0 : Int), (0 : Int), (8 : Int), (8 : Int)), ((1 : Int), (1 : Int), (3 : Int), (3 : Int)), ((3 : Int), (3 : Int), (0 : Int), (8 : Int))]), some (((0 : Nat), (24 : Nat)), [], [((0 : Int), (23 : Int), (-1 : Int), (98 : Int))]), some (((6 : Nat), (0 : Nat)), [((2 : Int), (182 : Nat))], [((0 : Int), (0 : Int), (24 : Int), (24 : Int)), ((1 : Int), (1 : Int), (7 : Int), (7 : Int)), ((3 : Int), (3 : Int), (0 : Int), (24 : Int))]), some (((0 : Nat), (168 : Nat)), [], [((0 : Int), (167 : Int), (-1 : Int), (299 : Int))]), some (((6 : Nat), (0 : Nat)), [((2 : Int), (184 : Nat))], [((0 : Int), (1 : Int), (6 : Int), (6 : Int)), ((3 : Int), (3 : Int), (0 : Int), (6 : Int))]), some (((0 : Nat), (36 : Nat)), [], [((0 : Int), (35 : Int), (0 : Int), (20 : Int))]), some (((6 : Nat), (0 : Nat)), [((2 : Int), (186 : Nat))], [((0 : Int), (0 : Int), (24 : Int), (24 : Int)), ((1 : Int), (1 : Int), (3 : Int), (3 : Int)), ((3 : Int), (3 : Int), (0 : Int), (24 : Int))]), some (((0 : Nat), (72 : Nat)), [], [((0 : Int), (71 : Int), (-1 : Int), (299 : Int))]), some (((5 : Nat), (0 : Nat)), [((9 : Int), (188 : Nat)), ((10 : Int), (190 : Nat)), ((11 : Int), (192 : Nat)), ((12 : Int), (194 : Nat)), ((13 : Int), (196 : Nat)), ((14 : Int), (198 : Nat))], [((0 : Int), (0 : Int), (1 : Int), (6 : Int)), ((1 : Int), (1 : Int), (10 : Int), (99 : Int)), ((2 : Int), (2 : Int), (0 : Int), (98 : Int)), ((3 : Int), (3 : Int), (0 : Int), (9 : Int)), ((4 : Int), (4 : Int), (0 : Int), (6 : Int)), ((5 : Int), (5 : Int), (0 : Int), (9999 : Int)), ((6 : Int), (6 : Int), (0 : Int), (299 : Int)), ((7 : Int), (7 : Int), (-2147483648 : Int), (2147483647 : Int))]), some (((6 : Nat), (0 : Nat)), [((2 : Int), (189 : Nat))], [((0 : Int), (0 : Int), (8 : Int), (8 : Int)), ((1 : Int), (1 : Int), (7 : Int), (7 : Int)), ((3 : Int), (3 : Int), (0 : Int), (8 : Int))]), some (((0 : Nat), (56 : Nat)), [], [((0 : Int), (55 : Int), (0 : Int), (98 : Int))]), some (((6 : Nat), (0 : Nat)), [((2 : Int), (191 : Nat))], [((0 : Int), (0 : Int), (8 : Int), (8 : Int)), ((1 : Int), (1 : Int), (3 : Int), (3 : Int)), ((3 : Int), (3 : Int), (0 : Int), (8 : Int))]), some (((0 : Nat), (24 : Nat)), [], [((0 : Int), (23 : Int), (0 : Int), (299 : Int))])]
set_option maxRecDepth 100000 in
noncomputable def p2_T12 : List (Option ((Nat × Nat) × List (Int × Nat) × List (Int × Int × Int × Int))) := [some (((6 : Nat), (0 : Nat)), [((2 : Int), (193 : Nat))], [((0 : Int), (0 : Int), (8 : Int), (8 : Int)), ((1 : Int), (1 : Int), (3 : Int), (3 : Int)), ((3 : Int), (3 : Int), (0 : Int), (8 : Int))]), some (((0 : Nat), (24 : Nat)), [], [((0 : Int), (23 : Int), (-1 : Int), (98 : Int))]), some (((6 : Nat), (0 : Nat)), [((2 : Int), (195 : Nat))], [((0 : Int), (0 : Int), (24 : Int), (24 : Int)), ((1 : Int), (1 : Int), (7 : Int), (7 : Int)), ((3 : Int), (3 : Int), (0 : Int), (24 : Int))]), some (((0 : Nat), (168 : Nat)), [], [((0 : Int), (167 : Int), (-1 : Int), (299 : Int))]), some (((6 : Nat), (0 : Nat)), [((2 : Int), (197 : Nat))], [((0 : Int), (1 : Int), (6 : Int), (6 : Int)), ((3 : Int), (3 : Int), (0 : Int), (6 : Int))]), some (((0 : Nat), (36 : Nat)), [], [((0 : Int), (35 : Int), (0 : Int), (20 : Int))]), some (((6 : Nat), (0 : Nat)), [((2 : Int), (199 : Nat))], [((0 : Int), (0 : Int), (24 : Int), (24 : Int)), ((1 : Int), (1 : Int), (3 : Int), (3 : Int)), ((3 : Int), (3 : Int), (0 : Int), (24 : Int))]), some (((0 : Nat), (72 : Nat)), [], [((0 : Int), (71 : Int), (-1 : Int), (299 : Int))]), some (((8 : Nat), (0 : Nat)), [((0 : Int), (3 : Nat)), ((1 : Int), (201 : Nat)), ((2 : Int), (202 : Nat)), ((3 : Int), (203 : Nat)), ((4 : Int), (204 : Nat)), ((5 : Int), (205 : Nat))], [((6 : Int), (6 : Int), (0 : Int), (1 : Int))]), some (((0 : Nat), (300 : Nat)), [], [((0 : Int), (299 : Int), (0 : Int), (9 : Int))]), some (((0 : Nat), (594 : Nat)), [], [((0 : Int), (593 : Int), (-1 : Int), (98 : Int))]), some (((0 : Nat), (300 : Nat)), [], [((0 : Int), (299 : Int), (-2147483648 : Int), (2147483647 : Int))]), some (((0 : Nat), (10 : Nat)), [], [((0 : Int), (9 : Int), (-2147483648 : Int), (2147483647 : Int))]), some (((2 : Nat), (14850 : Nat)), [], []), some (((9 : Nat), (0 : Nat)), [((0 : Int), (3 : Nat)), ((1 : Int), (200 : Nat))], [((2 : Int), (2 : Int), (-2147483648 : Int), (2147483647 : Int)), ((3 : Int), (3 : Int), (0 : Int), (1 : Int)), ((4 : Int), (4 : Int), (-1 : Int), (7 : Int)), ((5 : Int), (5 : Int), (-2147483648 : Int), (2147483647 : Int)), ((6 : Int), (6 : Int), (0 : Int), (99 : Int)), ((7 : Int), (8 : Int), (-2147483648 : Int), (2147483647 : Int))]), some (((9 : Nat), (0 : Nat)), [((0 : Int), (3 : Nat)), ((1 : Int), (200 : Nat))], [((2 : Int), (2 : Int), (-1 : Int), (299 : Int)), ((3 : Int), (3 : Int), (0 : Int), (1 : Int)), ((4 : Int), (4 : Int), (-1 : Int), (-1 : Int)), ((5 : Int), (5 : Int), (-2147483648 : Int), (2147483647 : Int)), ((6 : Int), (6 : Int), (0 : Int), (99 : Int)), ((7 : Int), (8 : Int), (-2147483648 : Int), (2147483647 : Int))])]
set_option maxRecDepth 100000 in
noncomputable def p2_T13 : List (Option ((Nat × Nat) × List (Int × Nat) × List (Int × Int × Int × Int))) := [some (((10 : Nat), (0 : Nat)), [((0 : Int), (3 : Nat)), ((1 : Int), (206 : Nat)), ((2 : Int), (209 : Nat)), ((3 : Int), (211 : Nat))], []), some (((6 : Nat), (0 : Nat)), [((2 : Int), (210 : Nat))], [((0 : Int), (0 : Int), (8 : Int), (8 : Int)), ((1 : Int), (1 : Int), (300 : Int), (300 : Int)), ((3 : Int), (3 : Int), (0 : Int), (8 : Int))]), some (((0 : Nat), (2400 : Nat)), [], [((0 : Int), (2399 : Int), (-2147483648 : Int), (2147483647 : Int))]), some (((6 : Nat), (0 : Nat)), [((2 : Int), (212 : Nat))], [((0 : Int), (0 : Int), (8 : Int), (8 : Int)), ((1 : Int), (1 : Int), (300 : Int), (300 : Int)), ((3 : Int), (3 : Int), (0 : Int), (8 : Int))]), some (((0 : Nat), (2400 : Nat)), [], [((0 : Int), (2399 : Int), (-2147483648 : Int), (299 : Int))]), some (((11 : Nat), (0 : Nat)), [((0 : Int), (214 : Nat)), ((2 : Int), (16 : Nat))], [((1 : Int), (1 : Int), (14 : Int), (14 : Int))]), some (((12 : Nat), (0 : Nat)), [((0 : Int), (2 : Nat))], [((1 : Int), (1 : Int), (4 : Int), (4 : Int)), ((2 : Int), (4 : Int), (0 : Int), (400 : Int)), ((5 : Int), (5 : Int), (-1 : Int), (400 : Int)), ((6 : Int), (6 : Int), (0 : Int), (258 : Int)), ((7 : Int), (7 : Int), (-2147483648 : Int), (2147483647 : Int))]), some (((13 : Nat), (0 : Nat)), [((0 : Int), (216 : Nat)), ((2 : Int), (217 : Nat)), ((3 : Int), (219 : Nat))], [((1 : Int), (1 : Int), (12 : Int), (12 : Int)), ((4 : Int), (4 : Int), (0 : Int), (400 : Int))]), some (((12 : Nat), (0 : Nat)), [((0 : Int), (2 : Nat))], [((1 : Int), (1 : Int), (3 : Int), (3 : Int)), ((2 : Int), (4 : Int), (0 : Int), (400 : Int)), ((5 : Int), (5 : Int), (-1 : Int), (400 : Int)), ((6 : Int), (6 : Int), (0 : Int), (258 : Int)), ((7 : Int), (7 : Int), (-2147483648 : Int), (2147483647 : Int))]), some (((6 : Nat), (0 : Nat)), [((2 : Int), (218 : Nat))], [((0 : Int), (0 : Int), (12 : Int), (12 : Int)), ((1 : Int), (1 : Int), (4 : Int), (4 : Int)), ((3 : Int), (3 : Int), (0 : Int), (12 : Int))]), some (((0 : Nat), (48 : Nat)), [], [((0 : Int), (47 : Int), (0 : Int), (400 : Int))]), some (((0 : Nat), (400 : Nat)), [], [((0 : Int), (399 : Int), (-2147483648 : Int), (2147483647 : Int))]), some (((6 : Nat), (0 : Nat)), [((2 : Int), (221 : Nat))], [((0 : Int), (0 : Int), (24 : Int), (24 : Int)), ((1 : Int), (1 : Int), (2 : Int), (2 : Int)), ((3 : Int), (3 : Int), (0 : Int), (24 : Int))]), some (((0 : Nat), (48 : Nat)), [], [((0 : Int), (47 : Int), (-2147483648 : Int), (299 : Int))]), some (((6 : Nat), (0 : Nat)), [((2 : Int), (223 : Nat))], [((0 : Int), (0 : Int), (30 : Int), (30 : Int)), ((1 : Int), (1 : Int), (6 : Int), (6 : Int)), ((3 : Int), (3 : Int), (0 : Int), (30 : Int))]), some (((0 : Nat), (180 : Nat)), [], [((0 : Int), (179 : Int), (-2147483648 : Int), (2147483647 : Int))])]
set_option maxRecDepth 100000 in
noncomputable def p2_T14_17254 : List (Int × Int × Int × Int) := [((0 : Int), (0 : Int), (0 : Int), (6 : Int)), ((1 : Int), (1 : Int), (0 : Int), (99 : Int)), ((2 : Int), (3 : Int), (0 : Int), (8 : Int)), ((4 : Int), (4 : Int), (0 : Int), (24 : Int)), ((5 : Int), (5 : Int), (0 : Int), (8 : Int)), ((6 : Int), (6 : Int), (0 : Int), (6 : Int)), ((7 : Int), (7 : Int), (0 : Int), (12 : Int)), ((8 : Int), (8 : Int), (0 : Int), (1 : Int)), ((9 : Int), (9 : Int), (0 : Int), (299 : Int)), ((10 : Int), (10 : Int), (0 : Int), (98 : Int)), ((11 : Int), (11 : Int), (0 : Int), (9 : Int)), ((12 : Int), (12 : Int), (-1 : Int), (6 : Int)), ((13 : Int), (13 : Int), (-1 : Int), (9999 : Int)), ((14 : Int), (14 : Int), (0 : Int), (24 : Int)), ((15 : Int), (15 : Int), (0 : Int), (0 : Int)), ((16 : Int), (21 : Int), (0 : Int), (20 : Int)), ((22 : Int), (22 : Int), (0 : Int), (98 : Int)), ((23 : Int), (28 : Int), (0 : Int), (20 : Int)), ((29 : Int), (29 : Int), (0 : Int), (98 : Int)), ((30 : Int), (35 : Int), (0 : Int), (20 : Int)), ((36 : Int), (36 : Int), (0 : Int), (98 : Int)), ((37 : Int), (42 : Int), (0 : Int), (20 : Int)), ((43 : Int), (43 : Int), (0 : Int), (98 : Int)), ((44 : Int), (49 : Int), (0 : Int), (20 : Int)), ((50 : Int), (50 : Int), (0 : Int), (98 : Int)), ((51 : Int), (56 : Int), (0 : Int), (20 : Int)), ((57 : Int), (57 : Int), (0 : Int), (98 : Int)), ((58 : Int), (63 : Int), (0 : Int), (20 : Int)), ((64 : Int), (64 : Int), (0 : Int), (98 : Int)), ((65 : Int), (70 : Int), (0 : Int), (20 : Int)), ((71 : Int), (71 : Int), (0 : Int), (299 : Int)), ((72 : Int), (72 : Int), (0 : Int), (98 : Int)), ((73 : Int), (73 : Int), (0 : Int), (20 : Int)), ((74 : Int), (74 : Int), (0 : Int), (299 : Int)), ((75 : Int), (75 : Int), (0 : Int), (98 : Int)), ((76 : Int), (76 : Int), (0 : Int), (20 : Int)), ((77 : Int), (77 : Int), (0 : Int), (299 : Int)), ((78 : Int), (78 : Int), (0 : Int), (98 : Int)), ((79 : Int), (79 : Int), (0 : Int), (20 : Int)), ((80 : Int), (80 : Int), (0 : Int), (299 : Int)), ((81 : Int), (81 : Int), (0 : Int), (98 : Int)), ((82 : Int), (82 : Int), (0 : Int), (20 : Int)), ((83 : Int), (83 : Int), (0 : Int), (299 : Int)), ((84 : Int), (84 : Int), (0 : Int), (98 : Int)), ((85 : Int), (85 : Int), (0 : Int), (20 : Int)), ((86 : Int), (86 : Int), (0 : Int), (299 : Int)), ((87 : Int), (87 : Int), (0 : Int), (98 : Int)), ((88 : Int), (88 : Int), (0 : Int), (20 : Int)), ((89 : Int), (89 : Int), (0 : Int), (299 : Int)), ((90 : Int), (90 : Int), (0 : Int), (98 : Int)), ((91 : Int), (91 : Int), (0 : Int), (20 : Int)), ((92 : Int), (92 : Int), (0 : Int), (299 : Int)), ((93 : Int), (93 : Int), (0 : Int), (98 : Int)), ((94 : Int), (94 : Int), (0 : Int), (20 : Int)), ((95 : Int), (95 : Int), (0 : Int), (6 : Int)), ((96 : Int), (96 : Int), (0 : Int), (98 : Int)), ((97 : Int), (97 : Int), (-1 : Int), (6 : Int)), ((98 : Int), (98 : Int), (0 : Int), (6 : Int)), ((99 : Int), (99 : Int), (0 : Int), (98 : Int)), ((100 : Int), (100 : Int), (-1 : Int), (6 : Int)), ((101 : Int), (101 : Int), (0 : Int), (6 : Int)), ((102 : Int), (102 : Int), (0 : Int), (98 : Int)), ((103 : Int), (103 : Int), (-1 : Int), (6 : Int)), ((104 : Int), (104 : Int), (0 : Int), (6 : Int)), ((105 : Int), (105 : Int), (0 : Int), (98 : Int)), ((106 : Int), (106 : Int), (-1 : Int), (6 : Int)), ((107 : Int), (107 : Int), (0 : Int), (6 : Int)), ((108 : Int), (108 : Int), (0 : Int), (98 : Int)), ((109 : Int), (109 : Int), (-1 : Int), (6 : Int)), ((110 : Int), (110 : Int), (0 : Int), (6 : Int)), ((111 : Int), (111 : Int), (0 : Int), (98 : Int)), ((112 : Int), (112 : Int), (-1 : Int), (6 : Int)), ((113 : Int), (113 : Int), (0 : Int), (6 : Int)), ((114 : Int), (114 : Int), (0 : Int), (98 : Int)), ((115 : Int), (115 : Int), (-1 : Int), (6 : Int)), ((116 : Int), (116 : Int), (0 : Int), (6 : Int)), ((117 : Int), (117 : Int), (0 : Int), (98 : Int)), ((118 : Int), (118 : Int), (-1 : Int), (6 : Int)), ((119 : Int), (120 : Int), (-1 : Int), (7 : Int)), ((121 : Int), (121 : Int), (0 : Int), (6 : Int)), ((122 : Int), (122 : Int), (0 : Int), (299 : Int)), ((123 : Int), (123 : Int), (0 : Int), (98 : Int)), ((124 : Int), (124 : Int), (-1 : Int), (7 : Int)), ((125 : Int), (125 : Int), (-1 : Int), (299 : Int)), ((126 : Int), (127 : Int), (-1 : Int), (7 : Int)), ((128 : Int), (128 : Int), (0 : Int), (6 : Int)), ((129 : Int), (129 : Int), (0 : Int), (299 : Int)), ((130 : Int), (130 : Int), (0 : Int), (98 : Int)), ((131 : Int), (131 : Int), (-1 : Int), (7 : Int)), ((132 : Int), (132 : Int), (-1 : Int), (299 : Int)), ((133 : Int), (134 : Int), (-1 : Int), (7 : Int)), ((135 : Int), (135 : Int), (0 : Int), (6 : Int)), ((136 : Int), (136 : Int), (0 : Int), (299 : Int)), ((137 : Int), (137 : Int), (0 : Int), (98 : Int)), ((138 : Int), (138 : Int), (-1 : Int), (7 : Int)), ((139 : Int), (139 : Int), (-1 : Int), (299 : Int)), ((140 : Int), (141 : Int), (-1 : Int), (7 : Int)), ((142 : Int), (142 : Int), (0 : Int), (6 : Int)), ((143 : Int), (143 : Int), (0 : Int), (299 : Int)), ((144 : Int), (144 : Int), (0 : Int), (98 : Int)), ((145 : Int), (145 : Int), (-1 : Int), (7 : Int)), ((146 : Int), (146 : Int), (-1 : Int), (299 : Int)), ((147 : Int), (148 : Int), (-1 : Int), (7 : Int)), ((149 : Int), (149 : Int), (0 : Int), (6 : Int)), ((150 : Int), (150 : Int), (0 : Int), (299 : Int)), ((151 : Int), (151 : Int), (0 : Int), (98 : Int)), ((152 : Int), (152 : Int), (-1 : Int), (7 : Int)), ((153 : Int), (153 : Int), (-1 : Int), (299 : Int)), ((154 : Int), (155 : Int), (-1 : Int), (7 : Int)), ((156 : Int), (156 : Int), (0 : Int), (6 : Int)), ((157 : Int), (157 : Int), (0 : Int), (299 : Int)), ((158 : Int), (158 : Int), (0 : Int), (98 : Int)), ((159 : Int), (159 : Int), (-1 : Int), (7 : Int)), ((160 : Int), (160 : Int), (-1 : Int), (299 : Int)), ((161 : Int), (162 : Int), (-1 : Int), (7 : Int)), ((163 : Int), (163 : Int), (0 : Int), (6 : Int)), ((164 : Int), (164 : Int), (0 : Int), (299 : Int)), ((165 : Int), (165 : Int), (0 : Int), (98 : Int)), ((166 : Int), (166 : Int), (-1 : Int), (7 : Int)), ((167 : Int), (167 : Int), (-1 : Int), (299 : Int)), ((168 : Int), (169 : Int), (-1 : Int), (7 : Int)), ((170 : Int), (170 : Int), (0 : Int), (6 : Int)), ((171 : Int), (171 : Int), (0 : Int), (299 : Int)), ((172 : Int), (172 : Int), (0 : Int), (98 : Int)), ((173 : Int), (173 : Int), (-1 : Int), (7 : Int)), ((174 : Int), (174 : Int), (-1 : Int), (299 : Int)), ((175 : Int), (176 : Int), (-1 : Int), (7 : Int)), ((177 : Int), (177 : Int), (0 : Int), (6 : Int)), ((178 : Int), (178 : Int), (0 : Int), (299 : Int)), ((179 : Int), (179 : Int), (0 : Int), (98 : Int)), ((180 : Int), (180 : Int), (-1 : Int), (7 : Int)), ((181 : Int), (181 : Int), (-1 : Int), (299 : Int)), ((182 : Int), (183 : Int), (-1 : Int), (7 : Int)), ((184 : Int), (184 : Int), (0 : Int), (6 : Int)), ((185 : Int), (185 : Int), (0 : Int), (299 : Int)), ((186 : Int), (186 : Int), (0 : Int), (98 : Int)), ((187 : Int), (187 : Int), (-1 : Int), (7 : Int)), ((188 : Int), (188 : Int), (-1 : Int), (299 : Int)), ((189 : Int), (190 : Int), (-1 : Int), (7 : Int)), ((191 : Int), (191 : Int), (0 : Int), (6 : Int)), ((192 : Int), (192 : Int), (0 : Int), (299 : Int)), ((193 : Int), (193 : Int), (0 : Int), (98 : Int)), ((194 : Int), (194 : Int), (-1 : Int), (7 : Int)), ((195 : Int), (195 : Int), (-1 : Int), (299 : Int)), ((196 : Int), (197 : Int), (-1 : Int), (7 : Int)), ((198 : Int), (198 : Int), (0 : Int), (6 : Int)), ((199 : Int), (199 : Int), (0 : Int), (299 : Int)), ((200 : Int), (200 : Int), (0 : Int), (98 : Int)), ((201 : Int), (201 : Int), (-1 : Int), (7 : Int)), ((202 : Int), (202 : Int), (-1 : Int), (299 : Int)), ((203 : Int), (204 : Int), (-1 : Int), (7 : Int)), ((205 : Int), (205 : Int), (0 : Int), (6 : Int)), ((206 : Int), (206 : Int), (0 : Int), (299 : Int)), ((207 : Int), (207 : Int), (0 : Int), (98 : Int)), ((208 : Int), (208 : Int), (-1 : Int), (7 : Int)), ((209 : Int), (209 : Int), (-1 : Int), (299 : Int)), ((210 : Int), (211 : Int), (-1 : Int), (7 : Int)), ((212 : Int), (212 : Int), (0 : Int), (6 : Int)), ((213 : Int), (213 : Int), (0 : Int), (299 : Int)), ((214 : Int), (214 : Int), (0 : Int), (98 : Int)), ((215 : Int), (215 : Int), (-1 : Int), (7 : Int)), ((216 : Int), (216 : Int), (-1 : Int), (299 : Int)), ((217 : Int), (218 : Int), (-1 : Int), (7 : Int)), ((219 : Int), (219 : Int), (0 : Int), (6 : Int)), ((220 : Int), (220 : Int), (0 : Int), (299 : Int)), ((221 : Int), (221 : Int), (0 : Int), (98 : Int)), ((222 : Int), (222 : Int), (-1 : Int), (7 : Int)), ((223 : Int), (223 : Int), (-1 : Int), (299 : Int)), ((224 : Int), (225 : Int), (-1 : Int), (7 : Int)), ((226 : Int), (226 : Int), (0 : Int), (6 : Int)), ((227 : Int), (227 : Int), (0 : Int), (299 : Int)), ((228 : Int), (228 : Int), (0 : Int), (98 : Int)), ((229 : Int), (229 : Int), (-1 : Int), (7 : Int)), ((230 : Int), (230 : Int), (-1 : Int), (299 : Int)), ((231 : Int), (232 : Int), (-1 : Int), (7 : Int)), ((233 : Int), (233 : Int), (0 : Int), (6 : Int)), ((234 : Int), (234 : Int), (0 : Int), (299 : Int)), ((235 : Int), (235 : Int), (0 : Int), (98 : Int)), ((236 : Int), (236 : Int), (-1 : Int), (7 : Int)), ((237 : Int), (237 : Int), (-1 : Int), (299 : Int)), ((238 : Int), (239 : Int), (-1 : Int), (7 : Int)), ((240 : Int), (240 : Int), (0 : Int), (6 : Int)), ((241 : Int), (241 : Int), (0 : Int), (299 : Int)), ((242 : Int), (242 : Int), (0 : Int), (98 : Int)), ((243 : Int), (243 : Int), (-1 : Int), (7 : Int)), ((244 : Int), (244 : Int), (-1 : Int), (299 : Int)), ((245 : Int), (246 : Int), (-1 : Int), (7 : Int)), ((247 : Int), (247 : Int), (0 : Int), (6 : Int)), ((248 : Int), (248 : Int), (0 : Int), (299 : Int)), ((249 : Int), (249 : Int), (0 : Int), (98 : Int)), ((250 : Int), (250 : Int), (-1 : Int), (7 : Int)), ((251 : Int), (251 : Int), (-1 : Int), (299 : Int)), ((252 : Int), (253 : Int), (-1 : Int), (7 : Int)), ((254 : Int), (254 : Int), (0 : Int), (6 : Int)), ((255 : Int), (255 : Int), (0 : Int), (299 : Int)), ((256 : Int), (256 : Int), (0 : Int), (98 : Int)), ((257 : Int), (257 : Int), (-1 : Int), (7 : Int)), ((258 : Int), (258 : Int), (-1 : Int), (299 : Int)), ((259 : Int), (260 : Int), (-1 : Int), (7 : Int)), ((261 : Int), (261 : Int), (0 : Int), (6 : Int)), ((262 : Int), (262 : Int), (0 : Int), (299 : Int)), ((263 : Int), (263 : Int), (0 : Int), (98 : Int)), ((264 : Int), (264 : Int), (-1 : Int), (7 : Int)), ((265 : Int), (265 : Int), (-1 : Int), (299 : Int)), ((266 : Int), (267 : Int), (-1 : Int), (7 : Int)), ((268 : Int), (268 : Int), (0 : Int), (6 : Int)), ((269 : Int), (269 : Int), (0 : Int), (299 : Int)), ((270 : Int), (270 : Int), (0 : Int), (98 : Int)), ((271 : Int), (271 : Int), (-1 : Int), (7 : Int)), ((272 : Int), (272 : Int), (-1 : Int), (299 : Int)), ((273 : Int), (274 : Int), (-1 : Int), (7 : Int)), ((275 : Int), (275 : Int), (0 : Int), (6 : Int)), ((276 : Int), (276 : Int), (0 : Int), (299 : Int)), ((277 : Int), (277 : Int), (0 : Int), (98 : Int)), ((278 : Int), (278 : Int), (-1 : Int), (7 : Int)), ((279 : Int), (279 : Int), (-1 : Int), (299 : Int)), ((280 : Int), (281 : Int), (-1 : Int), (7 : Int)), ((282 : Int), (282 : Int), (0 : Int), (6 : Int)), ((283 : Int), (283 : Int), (0 : Int), (299 : Int)), ((284 : Int), (284 : Int), (0 : Int), (98 : Int)), ((285 : Int), (285 : Int), (-1 : Int), (7 : Int)), ((286 : Int), (286 : Int), (-1 : Int), (299 : Int)), ((287 : Int), (322 : Int), (0 : Int), (20 : Int)), ((323 : Int), (323 : Int), (0 : Int), (299 : Int)), ((324 : Int), (324 : Int), (0 : Int), (23 : Int)), ((325 : Int), (325 : Int), (-1 : Int), (7 : Int)), ((326 : Int), (326 : Int), (0 : Int), (299 : Int)), ((327 : Int), (327 : Int), (0 : Int), (23 : Int)), ((328 : Int), (328 : Int), (-1 : Int), (7 : Int)), ((329 : Int), (329 : Int), (0 : Int), (299 : Int)), ((330 : Int), (330 : Int), (0 : Int), (23 : Int)), ((331 : Int), (331 : Int), (-1 : Int), (7 : Int)), ((332 : Int), (332 : Int), (0 : Int), (299 : Int)), ((333 : Int), (333 : Int), (0 : Int), (23 : Int)), ((334 : Int), (334 : Int), (-1 : Int), (7 : Int)), ((335 : Int), (335 : Int), (0 : Int), (299 : Int)), ((336 : Int), (336 : Int), (0 : Int), (23 : Int)), ((337 : Int), (337 : Int), (-1 : Int), (7 : Int)), ((338 : Int), (338 : Int), (0 : Int), (299 : Int)), ((339 : Int), (339 : Int), (0 : Int), (23 : Int)), ((340 : Int), (340 : Int), (-1 : Int), (7 : Int)), ((341 : Int), (341 : Int), (0 : Int), (299 : Int)), ((342 : Int), (342 : Int), (0 : Int), (23 : Int)), ((343 : Int), (343 : Int), (-1 : Int), (7 : Int)), ((344 : Int), (344 : Int), (0 : Int), (299 : Int)), ((345 : Int), (345 : Int), (0 : Int), (23 : Int)), ((346 : Int), (346 : Int), (-1 : Int), (7 : Int)), ((347 : Int), (347 : Int), (0 : Int), (299 : Int)), ((348 : Int), (348 : Int), (0 : Int), (23 : Int)), ((349 : Int), (349 : Int), (-1 : Int), (7 : Int)), ((350 : Int), (350 : Int), (0 : Int), (299 : Int)), ((351 : Int), (351 : Int), (0 : Int), (23 : Int)), ((352 : Int), (352 : Int), (-1 : Int), (7 : Int)), ((353 : Int), (353 : Int), (0 : Int), (299 : Int)), ((354 : Int), (354 : Int), (0 : Int), (23 : Int)), ((355 : Int), (355 : Int), (-1 : Int), (7 : Int)), ((356 : Int), (356 : Int), (0 : Int), (299 : Int)), ((357 : Int), (357 : Int), (0 : Int), (23 : Int)), ((358 : Int), (358 : Int), (-1 : Int), (7 : Int)), ((359 : Int), (359 : Int), (0 : Int), (299 : Int)), ((360 : Int), (360 : Int), (0 : Int), (23 : Int)), ((361 : Int), (361 : Int), (-1 : Int), (7 : Int)), ((362 : Int), (362 : Int), (0 : Int), (299 : Int)), ((363 : Int), (363 : Int), (0 : Int), (23 : Int)), ((364 : Int), (364 : Int), (-1 : Int), (7 : Int)), ((365 : Int), (365 : Int), (0 : Int), (299 : Int)), ((366 : Int), (366 : Int), (0 : Int), (23 : Int)), ((367 : Int), (367 : Int), (-1 : Int), (7 : Int)), ((368 : Int), (368 : Int), (0 : Int), (299 : Int)), ((369 : Int), (369 : Int), (0 : Int), (23 : Int)), ((370 : Int), (370 : Int), (-1 : Int), (7 : Int)), ((371 : Int), (371 : Int), (0 : Int), (299 : Int)), ((372 : Int), (372 : Int), (0 : Int), (23 : Int)), ((373 : Int), (373 : Int), (-1 : Int), (7 : Int)), ((374 : Int), (374 : Int), (0 : Int), (299 : Int)), ((375 : Int), (375 : Int), (0 : Int), (23 : Int)), ((376 : Int), (376 : Int), (-1 : Int), (7 : Int)), ((377 : Int), (377 : Int), (0 : Int), (299 : Int)), ((378 : Int), (378 : Int), (0 : Int), (23 : Int)), ((379 : Int), (379 : Int), (-1 : Int), (7 : Int)), ((380 : Int), (380 : Int), (0 : Int), (299 : Int)), ((381 : Int), (381 : Int), (0 : Int), (23 : Int)), ((382 : Int), (382 : Int), (-1 : Int), (7 : Int)), ((383 : Int), (383 : Int), (0 : Int), (299 : Int)), ((384 : Int), (384 : Int), (0 : Int), (23 : Int)), ((385 : Int), (385 : Int), (-1 : Int), (7 : Int)), ((386 : Int), (386 : Int), (0 : Int), (299 : Int)), ((387 : Int), (387 : Int), (0 : Int), (23 : Int)), ((388 : Int), (388 : Int), (-1 : Int), (7 : Int)), ((389 : Int), (389 : Int), (0 : Int), (299 : Int)), ((390 : Int), (390 : Int), (0 : Int), (23 : Int)), ((391 : Int), (391 : Int), (-1 : Int), (7 : Int)), ((392 : Int), (392 : Int), (0 : Int), (299 : Int)), ((393 : Int), (393 : Int), (0 : Int), (23 : Int)), ((394 : Int), (394 : Int), (-1 : Int), (7 : Int)), ((395 : Int), (395 : Int), (0 : Int), (12 : Int)), ((396 : Int), (396 : Int), (-1 : Int), (2 : Int)), ((397 : Int), (397 : Int), (-1 : Int), (20 : Int)), ((398 : Int), (399 : Int), (0 : Int), (400 : Int)), ((400 : Int), (400 : Int), (-1 : Int), (2 : Int)), ((401 : Int), (401 : Int), (-1 : Int), (20 : Int)), ((402 : Int), (403 : Int), (0 : Int), (400 : Int)), ((404 : Int), (404 : Int), (-1 : Int), (2 : Int)), ((405 : Int), (405 : Int), (-1 : Int), (20 : Int)), ((406 : Int), (407 : Int), (0 : Int), (400 : Int)), ((408 : Int), (408 : Int), (-1 : Int), (2 : Int)), ((409 : Int), (409 : Int), (-1 : Int), (20 : Int)), ((410 : Int), (411 : Int), (0 : Int), (400 : Int)), ((412 : Int), (412 : Int), (-1 : Int), (2 : Int)), ((413 : Int), (413 : Int), (-1 : Int), (20 : Int)), ((414 : Int), (415 : Int), (0 : Int), (400 : Int)), ((416 : Int), (416 : Int), (-1 : Int), (2 : Int)), ((417 : Int), (417 : Int), (-1 : Int), (20 : Int)), ((418 : Int), (419 : Int), (0 : Int), (400 : Int)), ((420 : Int), (420 : Int), (-1 : Int), (2 : Int)), ((421 : Int), (421 : Int), (-1 : Int), (20 : Int)), ((422 : Int), (423 : Int), (0 : Int), (400 : Int)), ((424 : Int), (424 : Int), (-1 : Int), (2 : Int)), ((425 : Int), (425 : Int), (-1 : Int), (20 : Int)), ((426 : Int), (427 : Int), (0 : Int), (400 : Int)), ((428 : Int), (428 : Int), (-1 : Int), (2 : Int)), ((429 : Int), (429 : Int), (-1 : Int), (20 : Int)), ((430 : Int), (431 : Int), (0 : Int), (400 : Int)), ((432 : Int), (432 : Int), (-1 : Int), (2 : Int)), ((433 : Int), (433 : Int), (-1 : Int), (20 : Int)), ((434 : Int), (435 : Int), (0 : Int), (400 : Int)), ((436 : Int), (436 : Int), (-1 : Int), (2 : Int)), ((437 : Int), (437 : Int), (-1 : Int), (20 : Int)), ((438 : Int), (439 : Int), (0 : Int), (400 : Int)), ((440 : Int), (440 : Int), (-1 : Int), (2 : Int)), ((441 : Int), (441 : Int), (-1 : Int), (20 : Int)), ((442 : Int), (443 : Int), (0 : Int), (400 : Int)), ((444 : Int), (1243 : Int), (-1 : Int), (999 : Int)), ((1244 : Int), (1244 : Int), (0 : Int), (12 : Int)), ((1245 : Int), (1245 : Int), (-1 : Int), (2 : Int)), ((1246 : Int), (1246 : Int), (-1 : Int), (20 : Int)), ((1247 : Int), (1248 : Int), (0 : Int), (400 : Int)), ((1249 : Int), (1249 : Int), (-1 : Int), (2 : Int)), ((1250 : Int), (1250 : Int), (-1 : Int), (20 : Int)), ((1251 : Int), (1252 : Int), (0 : Int), (400 : Int)), ((1253 : Int), (1253 : Int), (-1 : Int), (2 : Int)), ((1254 : Int), (1254 : Int), (-1 : Int), (20 : Int)), ((1255 : Int), (1256 : Int), (0 : Int), (400 : Int)), ((1257 : Int), (1257 : Int), (-1 : Int), (2 : Int)), ((1258 : Int), (1258 : Int), (-1 : Int), (20 : Int)), ((1259 : Int), (1260 : Int), (0 : Int), (400 : Int)), ((1261 : Int), (1261 : Int), (-1 : Int), (2 : Int)), ((1262 : Int), (1262 : Int), (-1 : Int), (20 : Int)), ((1263 : Int), (1264 : Int), (0 : Int), (400 : Int)), ((1265 : Int), (1265 : Int), (-1 : Int), (2 : Int)), ((1266 : Int), (1266 : Int), (-1 : Int), (20 : Int)), ((1267 : Int), (1268 : Int), (0 : Int), (400 : Int)), ((1269 : Int), (1269 : Int), (-1 : Int), (2 : Int)), ((1270 : Int), (1270 : Int), (-1 : Int), (20 : Int)), ((1271 : Int), (1272 : Int), (0 : Int), (400 : Int)), ((1273 : Int), (1273 : Int), (-1 : Int), (2 : Int)), ((1274 : Int), (1274 : Int), (-1 : Int), (20 : Int)), ((1275 : Int), (1276 : Int), (0 : Int), (400 : Int)), ((1277 : Int), (1277 : Int), (-1 : Int), (2 : Int)), ((1278 : Int), (1278 : Int), (-1 : Int), (20 : Int)), ((1279 : Int), (1280 : Int), (0 : Int), (400 : Int)), ((1281 : Int), (1281 : Int), (-1 : Int), (2 : Int)), ((1282 : Int), (1282 : Int), (-1 : Int), (20 : Int)), ((1283 : Int), (1284 : Int), (0 : Int), (400 : Int)), ((1285 : Int), (1285 : Int), (-1 : Int), (2 : Int)), ((1286 : Int), (1286 : Int), (-1 : Int), (20 : Int)), ((1287 : Int), (1288 : Int), (0 : Int), (400 : Int)), ((1289 : Int), (1289 : Int), (-1 : Int), (2 : Int)), ((1290 : Int), (1290 : Int), (-1 : Int), (20 : Int)), ((1291 : Int), (1292 : Int), (0 : Int), (400 : Int)), ((1293 : Int), (2092 : Int), (-1 : Int), (999 : Int))]
set_option maxRecDepth 100000 in
noncomputable def p2_T14_24762 : List (Int × Int × Int × Int) := [((0 : Int), (0 : Int), (0 : Int), (6 : Int)), ((1 : Int), (1 : Int), (0 : Int), (99 : Int)), ((2 : Int), (3 : Int), (0 : Int), (8 : Int)), ((4 : Int), (4 : Int), (0 : Int), (24 : Int)), ((5 : Int), (5 : Int), (0 : Int), (8 : Int)), ((6 : Int), (6 : Int), (0 : Int), (6 : Int)), ((7 : Int), (7 : Int), (0 : Int), (12 : Int)), ((8 : Int), (8 : Int), (0 : Int), (1 : Int)), ((9 : Int), (9 : Int), (0 : Int), (299 : Int)), ((10 : Int), (10 : Int), (0 : Int), (98 : Int)), ((11 : Int), (11 : Int), (0 : Int), (9 : Int)), ((12 : Int), (12 : Int), (-1 : Int), (6 : Int)), ((13 : Int), (13 : Int), (-1 : Int), (9999 : Int)), ((14 : Int), (14 : Int), (0 : Int), (24 : Int)), ((15 : Int), (15 : Int), (0 : Int), (0 : Int)), ((16 : Int), (21 : Int), (0 : Int), (20 : Int)), ((22 : Int), (22 : Int), (0 : Int), (98 : Int)), ((23 : Int), (28 : Int), (0 : Int), (20 : Int)), ((29 : Int), (29 : Int), (0 : Int), (98 : Int)), ((30 : Int), (35 : Int), (0 : Int), (20 : Int)), ((36 : Int), (36 : Int), (0 : Int), (98 : Int)), ((37 : Int), (42 : Int), (0 : Int), (20 : Int)), ((43 : Int), (43 : Int), (0 : Int), (98 : Int)), ((44 : Int), (49 : Int), (0 : Int), (20 : Int)), ((50 : Int), (50 : Int), (0 : Int), (98 : Int)), ((51 : Int), (56 : Int), (0 : Int), (20 : Int)), ((57 : Int), (57 : Int), (0 : Int), (98 : Int)), ((58 : Int), (63 : Int), (0 : Int), (20 : Int)), ((64 : Int), (64 : Int), (0 : Int), (98 : Int)), ((65 : Int), (70 : Int), (0 : Int), (20 : Int)), ((71 : Int), (71 : Int), (0 : Int), (299 : Int)), ((72 : Int), (72 : Int), (0 : Int), (98 : Int)), ((73 : Int), (73 : Int), (0 : Int), (20 : Int)), ((74 : Int), (74 : Int), (0 : Int), (299 : Int)), ((75 : Int), (75 : Int), (0 : Int), (98 : Int)), ((76 : Int), (76 : Int), (0 : Int), (20 : Int)), ((77 : Int), (77 : Int), (0 : Int), (299 : Int)), ((78 : Int), (78 : Int), (0 : Int), (98 : Int)), ((79 : Int), (79 : Int), (0 : Int), (20 : Int)), ((80 : Int), (80 : Int), (0 : Int), (299 : Int)), ((81 : Int), (81 : Int), (0 : Int), (98 : Int)), ((82 : Int), (82 : Int), (0 : Int), (20 : Int)), ((83 : Int), (83 : Int), (0 : Int), (299 : Int)), ((84 : Int), (84 : Int), (0 : Int), (98 : Int)), ((85 : Int), (85 : Int), (0 : Int), (20 : Int)), ((86 : Int), (86 : Int), (0 : Int), (299 : Int)), ((87 : Int), (87 : Int), (0 : Int), (98 : Int)), ((88 : Int), (88 : Int), (0 : Int), (20 : Int)), ((89 : Int), (89 : Int), (0 : Int), (299 : Int)), ((90 : Int), (90 : Int), (0 : Int), (98 : Int)), ((91 : Int), (91 : Int), (0 : Int), (20 : Int)), ((92 : Int), (92 : Int), (0 : Int), (299 : Int)), ((93 : Int), (93 : Int), (0 : Int), (98 : Int)), ((94 : Int), (94 : Int), (0 : Int), (20 : Int)), ((95 : Int), (95 : Int), (0 : Int), (6 : Int)), ((96 : Int), (96 : Int), (0 : Int), (98 : Int)), ((97 : Int), (97 : Int), (-1 : Int), (6 : Int)), ((98 : Int), (98 : Int), (0 : Int), (6 : Int)), ((99 : Int), (99 : Int), (0 : Int), (98 : Int)), ((100 : Int), (100 : Int), (-1 : Int), (6 : Int)), ((101 : Int), (101 : Int), (0 : Int), (6 : Int)), ((102 : Int), (102 : Int), (0 : Int), (98 : Int)), ((103 : Int), (103 : Int), (-1 : Int), (6 : Int)), ((104 : Int), (104 : Int), (0 : Int), (6 : Int)), ((105 : Int), (105 : Int), (0 : Int), (98 : Int)), ((106 : Int), (106 : Int), (-1 : Int), (6 : Int)), ((107 : Int), (107 : Int), (0 : Int), (6 : Int)), ((108 : Int), (108 : Int), (0 : Int), (98 : Int)), ((109 : Int), (109 : Int), (-1 : Int), (6 : Int)), ((110 : Int), (110 : Int), (0 : Int), (6 : Int)), ((111 : Int), (111 : Int), (0 : Int), (98 : Int)), ((112 : Int), (112 : Int), (-1 : Int), (6 : Int)), ((113 : Int), (113 : Int), (0 : Int), (6 : Int)), ((114 : Int), (114 : Int), (0 : Int), (98 : Int)), ((115 : Int), (115 : Int), (-1 : Int), (6 : Int)), ((116 : Int), (116 : Int), (0 : Int), (6 : Int)), ((117 : Int), (117 : Int), (0 : Int), (98 : Int)), ((118 : Int), (118 : Int), (-1 : Int), (6 : Int)), ((119 : Int), (120 : Int), (-1 : Int), (7 : Int)), ((121 : Int), (121 : Int), (0 : Int), (6 : Int)), ((122 : Int), (122 : Int), (0 : Int), (299 : Int)), ((123 : Int), (123 : Int), (0 : Int), (98 : Int)), ((124 : Int), (124 : Int), (-1 : Int), (7 : Int)), ((125 : Int), (125 : Int), (-1 : Int), (299 : Int)), ((126 : Int), (127 : Int), (-1 : Int), (7 : Int)), ((128 : Int), (128 : Int), (0 : Int), (6 : Int)), ((129 : Int), (129 : Int), (0 : Int), (299 : Int)), ((130 : Int), (130 : Int), (0 : Int), (98 : Int)), ((131 : Int), (131 : Int), (-1 : Int), (7 : Int)), ((132 : Int), (132 : Int), (-1 : Int), (299 : Int)), ((133 : Int), (134 : Int), (-1 : Int), (7 : Int)), ((135 : Int), (135 : Int), (0 : Int), (6 : Int)), ((136 : Int), (136 : Int), (0 : Int), (299 : Int)), ((137 : Int), (137 : Int), (0 : Int), (98 : Int)), ((138 : Int), (138 : Int), (-1 : Int), (7 : Int)), ((139 : Int), (139 : Int), (-1 : Int), (299 : Int)), ((140 : Int), (141 : Int), (-1 : Int), (7 : Int)), ((142 : Int), (142 : Int), (0 : Int), (6 : Int)), ((143 : Int), (143 : Int), (0 : Int), (299 : Int)), ((144 : Int), (144 : Int), (0 : Int), (98 : Int)), ((145 : Int), (145 : Int), (-1 : Int), (7 : Int)), ((146 : Int), (146 : Int), (-1 : Int), (299 : Int)), ((147 : Int), (148 : Int), (-1 : Int), (7 : Int)), ((149 : Int), (149 : Int), (0 : Int), (6 : Int)), ((150 : Int), (150 : Int), (0 : Int), (299 : Int)), ((151 : Int), (151 : Int), (0 : Int), (98 : Int)), ((152 : Int), (152 : Int), (-1 : Int), (7 : Int)), ((153 : Int), (153 : Int), (-1 : Int), (299 : Int)), ((154 : Int), (155 : Int), (-1 : Int), (7 : Int)), ((156 : Int), (156 : Int), (0 : Int), (6 : Int)), ((157 : Int), (157 : Int), (0 : Int), (299 : Int)), ((158 : Int), (158 : Int), (0 : Int), (98 : Int)), ((159 : Int), (159 : Int), (-1 : Int), (7 : Int)), ((160 : Int), (160 : Int), (-1 : Int), (299 : Int)), ((161 : Int), (162 : Int), (-1 : Int), (7 : Int)), ((163 : Int), (163 : Int), (0 : Int), (6 : Int)), ((164 : Int), (164 : Int), (0 : Int), (299 : Int)), ((165 : Int), (165 : Int), (0 : Int), (98 : Int)), ((166 : Int), (166 : Int), (-1 : Int), (7 : Int)), ((167 : Int), (167 : Int), (-1 : Int), (299 : Int)), ((168 : Int), (169 : Int), (-1 : Int), (7 : Int)), ((170 : Int), (170 : Int), (0 : Int), (6 : Int)), ((171 : Int), (171 : Int), (0 : Int), (299 : Int)), ((172 : Int), (172 : Int), (0 : Int), (98 : Int)), ((173 : Int), (173 : Int), (-1 : Int), (7 : Int)), ((174 : Int), (174 : Int), (-1 : Int), (299 : Int)), ((175 : Int), (176 : Int), (-1 : Int), (7 : Int)), ((177 : Int), (177 : Int), (0 : Int), (6 : Int)), ((178 : Int), (178 : Int), (0 : Int), (299 : Int)), ((179 : Int), (179 : Int), (0 : Int), (98 : Int)), ((180 : Int), (180 : Int), (-1 : Int), (7 : Int)), ((181 : Int), (181 : Int), (-1 : Int), (299 : Int)), ((182 : Int), (183 : Int), (-1 : Int), (7 : Int)), ((184 : Int), (184 : Int), (0 : Int), (6 : Int)), ((185 : Int), (185 : Int), (0 : Int), (299 : Int)), ((186 : Int), (186 : Int), (0 : Int), (98 : Int)), ((187 : Int), (187 : Int), (-1 : Int), (7 : Int)), ((188 : Int), (188 : Int), (-1 : Int), (299 : Int)), ((189 : Int), (190 : Int), (-1 : Int), (7 : Int)), ((191 : Int), (191 : Int), (0 : Int), (6 : Int)), ((192 : Int), (192 : Int), (0 : Int), (299 : Int)), ((193 : Int), (193 : Int), (0 : Int), (98 : Int)), ((194 : Int), (194 : Int), (-1 : Int), (7 : Int)), ((195 : Int), (195 : Int), (-1 : Int), (299 : Int)), ((196 : Int), (197 : Int), (-1 : Int), (7 : Int)), ((198 : Int), (198 : Int), (0 : Int), (6 : Int)), ((199 : Int), (199 : Int), (0 : Int), (299 : Int)), ((200 : Int), (200 : Int), (0 : Int), (98 : Int)), ((201 : Int), (201 : Int), (-1 : Int), (7 : Int)), ((202 : Int), (202 : Int), (-1 : Int), (299 : Int)), ((203 : Int), (204 : Int), (-1 : Int), (7 : Int)), ((205 : Int), (205 : Int), (0 : Int), (6 : Int)), ((206 : Int), (206 : Int), (0 : Int), (299 : Int)), ((207 : Int), (207 : Int), (0 : Int), (98 : Int)), ((208 : Int), (208 : Int), (-1 : Int), (7 : Int)), ((209 : Int), (209 : Int), (-1 : Int), (299 : Int)), ((210 : Int), (211 : Int), (-1 : Int), (7 : Int)), ((212 : Int), (212 : Int), (0 : Int), (6 : Int)), ((213 : Int), (213 : Int), (0 : Int), (299 : Int)), ((214 : Int), (214 : Int), (0 : Int), (98 : Int)), ((215 : Int), (215 : Int), (-1 : Int), (7 : Int)), ((216 : Int), (216 : Int), (-1 : Int), (299 : Int)), ((217 : Int), (218 : Int), (-1 : Int), (7 : Int)), ((219 : Int), (219 : Int), (0 : Int), (6 : Int)), ((220 : Int), (220 : Int), (0 : Int), (299 : Int)), ((221 : Int), (221 : Int), (0 : Int), (98 : Int)), ((222 : Int), (222 : Int), (-1 : Int), (7 : Int)), ((223 : Int), (223 : Int), (-1 : Int), (299 : Int)), ((224 : Int), (225 : Int), (-1 : Int), (7 : Int)), ((226 : Int), (226 : Int), (0 : Int), (6 : Int)), ((227 : Int), (227 : Int), (0 : Int), (299 : Int)), ((228 : Int), (228 : Int), (0 : Int), (98 : Int)), ((229 : Int), (229 : Int), (-1 : Int), (7 : Int)), ((230 : Int), (230 : Int), (-1 : Int), (299 : Int)), ((231 : Int), (232 : Int), (-1 : Int), (7 : Int)), ((233 : Int), (233 : Int), (0 : Int), (6 : Int)), ((234 : Int), (234 : Int), (0 : Int), (299 : Int)), ((235 : Int), (235 : Int), (0 : Int), (98 : Int)), ((236 : Int), (236 : Int), (-1 : Int), (7 : Int)), ((237 : Int), (237 : Int), (-1 : Int), (299 : Int)), ((238 : Int), (239 : Int), (-1 : Int), (7 : Int)), ((240 : Int), (240 : Int), (0 : Int), (6 : Int)), ((241 : Int), (241 : Int), (0 : Int), (299 : Int)), ((242 : Int), (242 : Int), (0 : Int), (98 : Int)), ((243 : Int), (243 : Int), (-1 : Int), (7 : Int)), ((244 : Int), (244 : Int), (-1 : Int), (299 : Int)), ((245 : Int), (246 : Int), (-1 : Int), (7 : Int)), ((247 : Int), (247 : Int), (0 : Int), (6 : Int)), ((248 : Int), (248 : Int), (0 : Int), (299 : Int)), ((249 : Int), (249 : Int), (0 : Int), (98 : Int)), ((250 : Int), (250 : Int), (-1 : Int), (7 : Int)), ((251 : Int), (251 : Int), (-1 : Int), (299 : Int)), ((252 : Int), (253 : Int), (-1 : Int), (7 : Int)), ((254 : Int), (254 : Int), (0 : Int), (6 : Int)), ((255 : Int), (255 : Int), (0 : Int), (299 : Int)), ((256 : Int), (256 : Int), (0 : Int), (98 : Int)), ((257 : Int), (257 : Int), (-1 : Int), (7 : Int)), ((258 : Int), (258 : Int), (-1 : Int), (299 : Int)), ((259 : Int), (260 : Int), (-1 : Int), (7 : Int)), ((261 : Int), (261 : Int), (0 : Int), (6 : Int)), ((262 : Int), (262 : Int), (0 : Int), (299 : Int)), ((263 : Int), (263 : Int), (0 : Int), (98 : Int)), ((264 : Int), (264 : Int), (-1 : Int), (7 : Int)), ((265 : Int), (265 : Int), (-1 : Int), (299 : Int)), ((266 : Int), (267 : Int), (-1 : Int), (7 : Int)), ((268 : Int), (268 : Int), (0 : Int), (6 : Int)), ((269 : Int), (269 : Int), (0 : Int), (299 : Int)), ((270 : Int), (270 : Int), (0 : Int), (98 : Int)), ((271 : Int), (271 : Int), (-1 : Int), (7 : Int)), ((272 : Int), (272 : Int), (-1 : Int), (299 : Int)), ((273 : Int), (274 : Int), (-1 : Int), (7 : Int)), ((275 : Int), (275 : Int), (0 : Int), (6 : Int)), ((276 : Int), (276 : Int), (0 : Int), (299 : Int)), ((277 : Int), (277 : Int), (0 : Int), (98 : Int)), ((278 : Int), (278 : Int), (-1 : Int), (7 : Int)), ((279 : Int), (279 : Int), (-1 : Int), (299 : Int)), ((280 : Int), (281 : Int), (-1 : Int), (7 : Int)), ((282 : Int), (282 : Int), (0 : Int), (6 : Int)), ((283 : Int), (283 : Int), (0 : Int), (299 : Int)), ((284 : Int), (284 : Int), (0 : Int), (98 : Int)), ((285 : Int), (285 : Int), (-1 : Int), (7 : Int)), ((286 : Int), (286 : Int), (-1 : Int), (299 : Int)), ((287 : Int), (322 : Int), (0 : Int), (20 : Int)), ((323 : Int), (323 : Int), (0 : Int), (299 : Int)), ((324 : Int), (324 : Int), (0 : Int), (23 : Int)), ((325 : Int), (325 : Int), (-1 : Int), (7 : Int)), ((326 : Int), (326 : Int), (0 : Int), (299 : Int)), ((327 : Int), (327 : Int), (0 : Int), (23 : Int)), ((328 : Int), (328 : Int), (-1 : Int), (7 : Int)), ((329 : Int), (329 : Int), (0 : Int), (299 : Int)), ((330 : Int), (330 : Int), (0 : Int), (23 : Int)), ((331 : Int), (331 : Int), (-1 : Int), (7 : Int)), ((332 : Int), (332 : Int), (0 : Int), (299 : Int)), ((333 : Int), (333 : Int), (0 : Int), (23 : Int)), ((334 : Int), (334 : Int), (-1 : Int), (7 : Int)), ((335 : Int), (335 : Int), (0 : Int), (299 : Int)), ((336 : Int), (336 : Int), (0 : Int), (23 : Int)), ((337 : Int), (337 : Int), (-1 : Int), (7 : Int)), ((338 : Int), (338 : Int), (0 : Int), (299 : Int)), ((339 : Int), (339 : Int), (0 : Int), (23 : Int)), ((340 : Int), (340 : Int), (-1 : Int), (7 : Int)), ((341 : Int), (341 : Int), (0 : Int), (299 : Int)), ((342 : Int), (342 : Int), (0 : Int), (23 : Int)), ((343 : Int), (343 : Int), (-1 : Int), (7 : Int)), ((344 : Int), (344 : Int), (0 : Int), (299 : Int)), ((345 : Int), (345 : Int), (0 : Int), (23 : Int)), ((346 : Int), (346 : Int), (-1 : Int), (7 : Int)), ((347 : Int), (347 : Int), (0 : Int), (299 : Int)), ((348 : Int), (348 : Int), (0 : Int), (23 : Int)), ((349 : Int), (349 : Int), (-1 : Int), (7 : Int)), ((350 : Int), (350 : Int), (0 : Int), (299 : Int)), ((351 : Int), (351 : Int), (0 : Int), (23 : Int)), ((352 : Int), (352 : Int), (-1 : Int), (7 : Int)), ((353 : Int), (353 : Int), (0 : Int), (299 : Int)), ((354 : Int), (354 : Int), (0 : Int), (23 : Int)), ((355 : Int), (355 : Int), (-1 : Int), (7 : Int)), ((356 : Int), (356 : Int), (0 : Int), (299 : Int)), ((357 : Int), (357 : Int), (0 : Int), (23 : Int)), ((358 : Int), (358 : Int), (-1 : Int), (7 : Int)), ((359 : Int), (359 : Int), (0 : Int), (299 : Int)), ((360 : Int), (360 : Int), (0 : Int), (23 : Int)), ((361 : Int), (361 : Int), (-1 : Int), (7 : Int)), ((362 : Int), (362 : Int), (0 : Int), (299 : Int)), ((363 : Int), (363 : Int), (0 : Int), (23 : Int)), ((364 : Int), (364 : Int), (-1 : Int), (7 : Int)), ((365 : Int), (365 : Int), (0 : Int), (299 : Int)), ((366 : Int), (366 : Int), (0 : Int), (23 : Int)), ((367 : Int), (367 : Int), (-1 : Int), (7 : Int)), ((368 : Int), (368 : Int), (0 : Int), (299 : Int)), ((369 : Int), (369 : Int), (0 : Int), (23 : Int)), ((370 : Int), (370 : Int), (-1 : Int), (7 : Int)), ((371 : Int), (371 : Int), (0 : Int), (299 : Int)), ((372 : Int), (372 : Int), (0 : Int), (23 : Int)), ((373 : Int), (373 : Int), (-1 : Int), (7 : Int)), ((374 : Int), (374 : Int), (0 : Int), (299 : Int)), ((375 : Int), (375 : Int), (0 : Int), (23 : Int)), ((376 : Int), (376 : Int), (-1 : Int), (7 : Int)), ((377 : Int), (377 : Int), (0 : Int), (299 : Int)), ((378 : Int), (378 : Int), (0 : Int), (23 : Int)), ((379 : Int), (379 : Int), (-1 : Int), (7 : Int)), ((380 : Int), (380 : Int), (0 : Int), (299 : Int)), ((381 : Int), (381 : Int), (0 : Int), (23 : Int)), ((382 : Int), (382 : Int), (-1 : Int), (7 : Int)), ((383 : Int), (383 : Int), (0 : Int), (299 : Int)), ((384 : Int), (384 : Int), (0 : Int), (23 : Int)), ((385 : Int), (385 : Int), (-1 : Int), (7 : Int)), ((386 : Int), (386 : Int), (0 : Int), (299 : Int)), ((387 : Int), (387 : Int), (0 : Int), (23 : Int)), ((388 : Int), (388 : Int), (-1 : Int), (7 : Int)), ((389 : Int), (389 : Int), (0 : Int), (299 : Int)), ((390 : Int), (390 : Int), (0 : Int), (23 : Int)), ((391 : Int), (391 : Int), (-1 : Int), (7 : Int)), ((392 : Int), (392 : Int), (0 : Int), (299 : Int)), ((393 : Int), (393 : Int), (0 : Int), (23 : Int)), ((394 : Int), (394 : Int), (-1 : Int), (7 : Int)), ((395 : Int), (395 : Int), (0 : Int), (12 : Int)), ((396 : Int), (396 : Int), (-1 : Int), (2 : Int)), ((397 : Int), (397 : Int), (-1 : Int), (20 : Int)), ((398 : Int), (399 : Int), (0 : Int), (400 : Int)), ((400 : Int), (400 : Int), (-1 : Int), (2 : Int)), ((401 : Int), (401 : Int), (-1 : Int), (20 : Int)), ((402 : Int), (403 : Int), (0 : Int), (400 : Int)), ((404 : Int), (404 : Int), (-1 : Int), (2 : Int)), ((405 : Int), (405 : Int), (-1 : Int), (20 : Int)), ((406 : Int), (407 : Int), (0 : Int), (400 : Int)), ((408 : Int), (408 : Int), (-1 : Int), (2 : Int)), ((409 : Int), (409 : Int), (-1 : Int), (20 : Int)), ((410 : Int), (411 : Int), (0 : Int), (400 : Int)), ((412 : Int), (412 : Int), (-1 : Int), (2 : Int)), ((413 : Int), (413 : Int), (-1 : Int), (20 : Int)), ((414 : Int), (415 : Int), (0 : Int), (400 : Int)), ((416 : Int), (416 : Int), (-1 : Int), (2 : Int)), ((417 : Int), (417 : Int), (-1 : Int), (20 : Int)), ((418 : Int), (419 : Int), (0 : Int), (400 : Int)), ((420 : Int), (420 : Int), (-1 : Int), (2 : Int)), ((421 : Int), (421 : Int), (-1 : Int), (20 : Int)), ((422 : Int), (423 : Int), (0 : Int), (400 : Int)), ((424 : Int), (424 : Int), (-1 : Int), (2 : Int)), ((425 : Int), (425 : Int), (-1 : Int), (20 : Int)), ((426 : Int), (427 : Int), (0 : Int), (400 : Int)), ((428 : Int), (428 : Int), (-1 : Int), (2 : Int)), ((429 : Int), (429 : Int), (-1 : Int), (20 : Int)), ((430 : Int), (431 : Int), (0 : Int), (400 : Int)), ((432 : Int), (432 : Int), (-1 : Int), (2 : Int)), ((433 : Int), (433 : Int), (-1 : Int), (20 : Int)), ((434 : Int), (435 : Int), (0 : Int), (400 : Int)), ((436 : Int), (436 : Int), (-1 : Int), (2 : Int)), ((437 : Int), (437 : Int), (-1 : Int), (20 : Int)), ((438 : Int), (439 : Int), (0 : Int), (400 : Int)), ((440 : Int), (440 : Int), (-1 : Int), (2 : Int)), ((441 : Int), (441 : Int), (-1 : Int), (20 : Int)), ((442 : Int), (443 : Int), (0 : Int), (400 : Int)), ((444 : Int), (1243 : Int), (-1 : Int), (999 : Int))]
set_option maxRecDepth 100000 in
noncomputable def p2_T14_31396 : List (Int × Int × Int × Int) := [((0 : Int), (0 : Int), (0 : Int), (6 : Int)), ((1 : Int), (1 : Int), (0 : Int), (99 : Int)), ((2 : Int), (3 : Int), (0 : Int), (8 : Int)), ((4 : Int), (4 : Int), (0 : Int), (24 : Int)), ((5 : Int), (5 : Int), (0 : Int), (8 : Int)), ((6 : Int), (6 : Int), (0 : Int), (6 : Int)), ((7 : Int), (7 : Int), (0 : Int), (12 : Int)), ((8 : Int), (8 : Int), (0 : Int), (1 : Int)), ((9 : Int), (9 : Int), (0 : Int), (299 : Int)), ((10 : Int), (10 : Int), (0 : Int), (98 : Int)), ((11 : Int), (11 : Int), (0 : Int), (9 : Int)), ((12 : Int), (12 : Int), (-1 : Int), (6 : Int)), ((13 : Int), (13 : Int), (-1 : Int), (9999 : Int)), ((14 : Int), (14 : Int), (0 : Int), (24 : Int)), ((15 : Int), (15 : Int), (0 : Int), (0 : Int)), ((16 : Int), (21 : Int), (0 : Int), (20 : Int)), ((22 : Int), (22 : Int), (0 : Int), (98 : Int)), ((23 : Int), (28 : Int), (0 : Int), (20 : Int)), ((29 : Int), (29 : Int), (0 : Int), (98 : Int)), ((30 : Int), (35 : Int), (0 : Int), (20 : Int)), ((36 : Int), (36 : Int), (0 : Int), (98 : Int)), ((37 : Int), (42 : Int), (0 : Int), (20 : Int)), ((43 : Int), (43 : Int), (0 : Int), (98 : Int)), ((44 : Int), (49 : Int), (0 : Int), (20 : Int)), ((50 : Int), (50 : Int), (0 : Int), (98 : Int)), ((51 : Int), (56 : Int), (0 : Int), (20 : Int)), ((57 : Int), (57 : Int), (0 : Int), (98 : Int)), ((58 : Int), (63 : Int), (0 : Int), (20 : Int)), ((64 : Int), (64 : Int), (0 : Int), (98 : Int)), ((65 : Int), (70 : Int), (0 : Int), (20 : Int)), ((71 : Int), (71 : Int), (0 : Int), (299 : Int)), ((72 : Int), (72 : Int), (0 : Int), (98 : Int)), ((73 : Int), (73 : Int), (0 : Int), (20 : Int)), ((74 : Int), (74 : Int), (0 : Int), (299 : Int)), ((75 : Int), (75 : Int), (0 : Int), (98 : Int)), ((76 : Int), (76 : Int), (0 : Int), (20 : Int)), ((77 : Int), (77 : Int), (0 : Int), (299 : Int)), ((78 : Int), (78 : Int), (0 : Int), (98 : Int)), ((79 : Int), (79 : Int), (0 : Int), (20 : Int)), ((80 : Int), (80 : Int), (0 : Int), (299 : Int)), ((81 : Int), (81 : Int), (0 : Int), (98 : Int)), ((82 : Int), (82 : Int), (0 : Int), (20 : Int)), ((83 : Int), (83 : Int), (0 : Int), (299 : Int)), ((84 : Int), (84 : Int), (0 : Int), (98 : Int)), ((85 : Int), (85 : Int), (0 : Int), (20 : Int)), ((86 : Int), (86 : Int), (0 : Int), (299 : Int)), ((87 : Int), (87 : Int), (0 : Int), (98 : Int)), ((88 : Int), (88 : Int), (0 : Int), (20 : Int)), ((89 : Int), (89 : Int), (0 : Int), (299 : Int)), ((90 : Int), (90 : Int), (0 : Int), (98 : Int)), ((91 : Int), (91 : Int), (0 : Int), (20 : Int)), ((92 : Int), (92 : Int), (0 : Int), (299 : Int)), ((93 : Int), (93 : Int), (0 : Int), (98 : Int)), ((94 : Int), (94 : Int), (0 : Int), (20 : Int)), ((95 : Int), (95 : Int), (0 : Int), (6 : Int)), ((96 : Int), (96 : Int), (0 : Int), (98 : Int)), ((97 : Int), (97 : Int), (-1 : Int), (6 : Int)), ((98 : Int), (98 : Int), (0 : Int), (6 : Int)), ((99 : Int), (99 : Int), (0 : Int), (98 : Int)), ((100 : Int), (100 : Int), (-1 : Int), (6 : Int)), ((101 : Int), (101 : Int), (0 : Int), (6 : Int)), ((102 : Int), (102 : Int), (0 : Int), (98 : Int)), ((103 : Int), (103 : Int), (-1 : Int), (6 : Int)), ((104 : Int), (104 : Int), (0 : Int), (6 : Int)), ((105 : Int), (105 : Int), (0 : Int), (98 : Int)), ((106 : Int), (106 : Int), (-1 : Int), (6 : Int)), ((107 : Int), (107 : Int), (0 : Int), (6 : Int)), ((108 : Int), (108 : Int), (0 : Int), (98 : Int)), ((109 : Int), (109 : Int), (-1 : Int), (6 : Int)), ((110 : Int), (110 : Int), (0 : Int), (6 : Int)), ((111 : Int), (111 : Int), (0 : Int), (98 : Int)), ((112 : Int), (112 : Int), (-1 : Int), (6 : Int)), ((113 : Int), (113 : Int), (0 : Int), (6 : Int)), ((114 : Int), (114 : Int), (0 : Int), (98 : Int)), ((115 : Int), (115 : Int), (-1 : Int), (6 : Int)), ((116 : Int), (116 : Int), (0 : Int), (6 : Int)), ((117 : Int), (117 : Int), (0 : Int), (98 : Int)), ((118 : Int), (118 : Int), (-1 : Int), (6 : Int)), ((119 : Int), (120 : Int), (-1 : Int), (7 : Int)), ((121 : Int), (121 : Int), (0 : Int), (6 : Int)), ((122 : Int), (122 : Int), (0 : Int), (299 : Int)), ((123 : Int), (123 : Int), (0 : Int), (98 : Int)), ((124 : Int), (124 : Int), (-1 : Int), (7 : Int)), ((125 : Int), (125 : Int), (-1 : Int), (299 : Int)), ((126 : Int), (127 : Int), (-1 : Int), (7 : Int)), ((128 : Int), (128 : Int), (0 : Int), (6 : Int)), ((129 : Int), (129 : Int), (0 : Int), (299 : Int)), ((130 : Int), (130 : Int), (0 : Int), (98 : Int)), ((131 : Int), (131 : Int), (-1 : Int), (7 : Int)), ((132 : Int), (132 : Int), (-1 : Int), (299 : Int)), ((133 : Int), (134 : Int), (-1 : Int), (7 : Int)), ((135 : Int), (135 : Int), (0 : Int), (6 : Int)), ((136 : Int), (136 : Int), (0 : Int), (299 : Int)), ((137 : Int), (137 : Int), (0 : Int), (98 : Int)), ((138 : Int), (138 : Int), (-1 : Int), (7 : Int)), ((139 : Int), (139 : Int), (-1 : Int), (299 : Int)), ((140 : Int), (141 : Int), (-1 : Int), (7 : Int)), ((142 : Int), (142 : Int), (0 : Int), (6 : Int)), ((143 : Int), (143 : Int), (0 : Int), (299 : Int)), ((144 : Int), (144 : Int), (0 : Int), (98 : Int)), ((145 : Int), (145 : Int), (-1 : Int), (7 : Int)), ((146 : Int), (146 : Int), (-1 : Int), (299 : Int)), ((147 : Int), (148 : Int), (-1 : Int), (7 : Int)), ((149 : Int), (149 : Int), (0 : Int), (6 : Int)), ((150 : Int), (150 : Int), (0 : Int), (299 : Int)), ((151 : Int), (151 : Int), (0 : Int), (98 : Int)), ((152 : Int), (152 : Int), (-1 : Int), (7 : Int)), ((153 : Int), (153 : Int), (-1 : Int), (299 : Int)), ((154 : Int), (155 : Int), (-1 : Int), (7 : Int)), ((156 : Int), (156 : Int), (0 : Int), (6 : Int)), ((157 : Int), (157 : Int), (0 : Int), (299 : Int)), ((158 : Int), (158 : Int), (0 : Int), (98 : Int)), ((159 : Int), (159 : Int), (-1 : Int), (7 : Int)), ((160 : Int), (160 : Int), (-1 : Int), (299 : Int)), ((161 : Int), (162 : Int), (-1 : Int), (7 : Int)), ((163 : Int), (163 : Int), (0 : Int), (6 : Int)), ((164 : Int), (164 : Int), (0 : Int), (299 : Int)), ((165 : Int), (165 : Int), (0 : Int), (98 : Int)), ((166 : Int), (166 : Int), (-1 : Int), (7 : Int)), ((167 : Int), (167 : Int), (-1 : Int), (299 : Int)), ((168 : Int), (169 : Int), (-1 : Int), (7 : Int)), ((170 : Int), (170 : Int), (0 : Int), (6 : Int)), ((171 : Int), (171 : Int), (0 : Int), (299 : Int)), ((172 : Int), (172 : Int), (0 : Int), (98 : Int)), ((173 : Int), (173 : Int), (-1 : Int), (7 : Int)), ((174 : Int), (174 : Int), (-1 : Int), (299 : Int)), ((175 : Int), (176 : Int), (-1 : Int), (7 : Int)), ((177 : Int), (177 : Int), (0 : Int), (6 : Int)), ((178 : Int), (178 : Int), (0 : Int), (299 : Int)), ((179 : Int), (179 : Int), (0 : Int), (98 : Int)), ((180 : Int), (180 : Int), (-1 : Int), (7 : Int)), ((181 : Int), (181 : Int), (-1 : Int), (299 : Int)), ((182 : Int), (183 : Int), (-1 : Int), (7 : Int)), ((184 : Int), (184 : Int), (0 : Int), (6 : Int)), ((185 : Int), (185 : Int), (0 : Int), (299 : Int)), ((186 : Int), (186 : Int), (0 : Int), (98 : Int)), ((187 : Int), (187 : Int), (-1 : Int), (7 : Int)), ((188 : Int), (188 : Int), (-1 : Int), (299 : Int)), ((189 : Int), (190 : Int), (-1 : Int), (7 : Int)), ((191 : Int), (191 : Int), (0 : Int), (6 : Int)), ((192 : Int), (192 : Int), (0 : Int), (299 : Int)), ((193 : Int), (193 : Int), (0 : Int), (98 : Int)), ((194 : Int), (194 : Int), (-1 : Int), (7 : Int)), ((195 : Int), (195 : Int), (-1 : Int), (299 : Int)), ((196 : Int), (197 : Int), (-1 : Int), (7 : Int)), ((198 : Int), (198 : Int), (0 : Int), (6 : Int)), ((199 : Int), (199 : Int), (0 : Int), (299 : Int)), ((200 : Int), (200 : Int), (0 : Int), (98 : Int)), ((201 : Int), (201 : Int), (-1 : Int), (7 : Int)), ((202 : Int), (202 : Int), (-1 : Int), (299 : Int)), ((203 : Int), (204 : Int), (-1 : Int), (7 : Int)), ((205 : Int), (205 : Int), (0 : Int), (6 : Int)), ((206 : Int), (206 : Int), (0 : Int), (299 : Int)), ((207 : Int), (207 : Int), (0 : Int), (98 : Int)), ((208 : Int), (208 : Int), (-1 : Int), (7 : Int)), ((209 : Int), (209 : Int), (-1 : Int), (299 : Int)), ((210 : Int), (211 : Int), (-1 : Int), (7 : Int)), ((212 : Int), (212 : Int), (0 : Int), (6 : Int)), ((213 : Int), (213 : Int), (0 : Int), (299 : Int)), ((214 : Int), (214 : Int), (0 : Int), (98 : Int)), ((215 : Int), (215 : Int), (-1 : Int), (7 : Int)), ((216 : Int), (216 : Int), (-1 : Int), (299 : Int)), ((217 : Int), (218 : Int), (-1 : Int), (7 : Int)), ((219 : Int), (219 : Int), (0 : Int), (6 : Int)), ((220 : Int), (220 : Int), (0 : Int), (299 : Int)), ((221 : Int), (221 : Int), (0 : Int), (98 : Int)), ((222 : Int), (222 : Int), (-1 : Int), (7 : Int)), ((223 : Int), (223 : Int), (-1 : Int), (299 : Int)), ((224 : Int), (225 : Int), (-1 : Int), (7 : Int)), ((226 : Int), (226 : Int), (0 : Int), (6 : Int)), ((227 : Int), (227 : Int), (0 : Int), (299 : Int)), ((228 : Int), (228 : Int), (0 : Int), (98 : Int)), ((229 : Int), (229 : Int), (-1 : Int), (7 : Int)), ((230 : Int), (230 : Int), (-1 : Int), (299 : Int)), ((231 : Int), (232 : Int), (-1 : Int), (7 : Int)), ((233 : Int), (233 : Int), (0 : Int), (6 : Int)), ((234 : Int), (234 : Int), (0 : Int), (299 : Int)), ((235 : Int), (235 : Int), (0 : Int), (98 : Int)), ((236 : Int), (236 : Int), (-1 : Int), (7 : Int)), ((237 : Int), (237 : Int), (-1 : Int), (299 : Int)), ((238 : Int), (239 : Int), (-1 : Int), (7 : Int)), ((240 : Int), (240 : Int), (0 : Int), (6 : Int)), ((241 : Int), (241 : Int), (0 : Int), (299 : Int)), ((242 : Int), (242 : Int), (0 : Int), (98 : Int)), ((243 : Int), (243 : Int), (-1 : Int), (7 : Int)), ((244 : Int), (244 : Int), (-1 : Int), (299 : Int)), ((245 : Int), (246 : Int), (-1 : Int), (7 : Int)), ((247 : Int), (247 : Int), (0 : Int), (6 : Int)), ((248 : Int), (248 : Int), (0 : Int), (299 : Int)), ((249 : Int), (249 : Int), (0 : Int), (98 : Int)), ((250 : Int), (250 : Int), (-1 : Int), (7 : Int)), ((251 : Int), (251 : Int), (-1 : Int), (299 : Int)), ((252 : Int), (253 : Int), (-1 : Int), (7 : Int)), ((254 : Int), (254 : Int), (0 : Int), (6 : Int)), ((255 : Int), (255 : Int), (0 : Int), (299 : Int)), ((256 : Int), (256 : Int), (0 : Int), (98 : Int)), ((257 : Int), (257 : Int), (-1 : Int), (7 : Int)), ((258 : Int), (258 : Int), (-1 : Int), (299 : Int)), ((259 : Int), (260 : Int), (-1 : Int), (7 : Int)), ((261 : Int), (261 : Int), (0 : Int), (6 : Int)), ((262 : Int), (262 : Int), (0 : Int), (299 : Int)), ((263 : Int), (263 : Int), (0 : Int), (98 : Int)), ((264 : Int), (264 : Int), (-1 : Int), (7 : Int)), ((265 : Int), (265 : Int), (-1 : Int), (299 : Int)), ((266 : Int), (267 : Int), (-1 : Int), (7 : Int)), ((268 : Int), (268 : Int), (0 : Int), (6 : Int)), ((269 : Int), (269 : Int), (0 : Int), (299 : Int)), ((270 : Int), (270 : Int), (0 : Int), (98 : Int)), ((271 : Int), (271 : Int), (-1 : Int), (7 : Int)), ((272 : Int), (272 : Int), (-1 : Int), (299 : Int)), ((273 : Int), (274 : Int), (-1 : Int), (7 : Int)), ((275 : Int), (275 : Int), (0 : Int), (6 : Int)), ((276 : Int), (276 : Int), (0 : Int), (299 : Int)), ((277 : Int), (277 : Int), (0 : Int), (98 : Int)), ((278 : Int), (278 : Int), (-1 : Int), (7 : Int)), ((279 : Int), (279 : Int), (-1 : Int), (299 : Int)), ((280 : Int), (281 : Int), (-1 : Int), (7 : Int)), ((282 : Int), (282 : Int), (0 : Int), (6 : Int)), ((283 : Int), (283 : Int), (0 : Int), (299 : Int)), ((284 : Int), (284 : Int), (0 : Int), (98 : Int)), ((285 : Int), (285 : Int), (-1 : Int), (7 : Int)), ((286 : Int), (286 : Int), (-1 : Int), (299 : Int)), ((287 : Int), (322 : Int), (0 : Int), (20 : Int)), ((323 : Int), (323 : Int), (0 : Int), (299 : Int)), ((324 : Int), (324 : Int), (0 : Int), (23 : Int)), ((325 : Int), (325 : Int), (-1 : Int), (7 : Int)), ((326 : Int), (326 : Int), (0 : Int), (299 : Int)), ((327 : Int), (327 : Int), (0 : Int), (23 : Int)), ((328 : Int), (328 : Int), (-1 : Int), (7 : Int)), ((329 : Int), (329 : Int), (0 : Int), (299 : Int)), ((330 : Int), (330 : Int), (0 : Int), (23 : Int)), ((331 : Int), (331 : Int), (-1 : Int), (7 : Int)), ((332 : Int), (332 : Int), (0 : Int), (299 : Int)), ((333 : Int), (333 : Int), (0 : Int), (23 : Int)), ((334 : Int), (334 : Int), (-1 : Int), (7 : Int)), ((335 : Int), (335 : Int), (0 : Int), (299 : Int)), ((336 : Int), (336 : Int), (0 : Int), (23 : Int)), ((337 : Int), (337 : Int), (-1 : Int), (7 : Int)), ((338 : Int), (338 : Int), (0 : Int), (299 : Int)), ((339 : Int), (339 : Int), (0 : Int), (23 : Int)), ((340 : Int), (340 : Int), (-1 : Int), (7 : Int)), ((341 : Int), (341 : Int), (0 : Int), (299 : Int)), ((342 : Int), (342 : Int), (0 : Int), (23 : Int)), ((343 : Int), (343 : Int), (-1 : Int), (7 : Int)), ((344 : Int), (344 : Int), (0 : Int), (299 : Int)), ((345 : Int), (345 : Int), (0 : Int), (23 : Int)), ((346 : Int), (346 : Int), (-1 : Int), (7 : Int)), ((347 : Int), (347 : Int), (0 : Int), (299 : Int)), ((348 : Int), (348 : Int), (0 : Int), (23 : Int)), ((349 : Int), (349 : Int), (-1 : Int), (7 : Int)), ((350 : Int), (350 : Int), (0 : Int), (299 : Int)), ((351 : Int), (351 : Int), (0 : Int), (23 : Int)), ((352 : Int), (352 : Int), (-1 : Int), (7 : Int)), ((353 : Int), (353 : Int), (0 : Int), (299 : Int)), ((354 : Int), (354 : Int), (0 : Int), (23 : Int)), ((355 : Int), (355 : Int), (-1 : Int), (7 : Int)), ((356 : Int), (356 : Int), (0 : Int), (299 : Int)), ((357 : Int), (357 : Int), (0 : Int), (23 : Int)), ((358 : Int), (358 : Int), (-1 : Int), (7 : Int)), ((359 : Int), (359 : Int), (0 : Int), (299 : Int)), ((360 : Int), (360 : Int), (0 : Int), (23 : Int)), ((361 : Int), (361 : Int), (-1 : Int), (7 : Int)), ((362 : Int), (362 : Int), (0 : Int), (299 : Int)), ((363 : Int), (363 : Int), (0 : Int), (23 : Int)), ((364 : Int), (364 : Int), (-1 : Int), (7 : Int)), ((365 : Int), (365 : Int), (0 : Int), (299 : Int)), ((366 : Int), (366 : Int), (0 : Int), (23 : Int)), ((367 : Int), (367 : Int), (-1 : Int), (7 : Int)), ((368 : Int), (368 : Int), (0 : Int), (299 : Int)), ((369 : Int), (369 : Int), (0 : Int), (23 : Int)), ((370 : Int), (370 : Int), (-1 : Int), (7 : Int)), ((371 : Int), (371 : Int), (0 : Int), (299 : Int)), ((372 : Int), (372 : Int), (0 : Int), (23 : Int)), ((373 : Int), (373 : Int), (-1 : Int), (7 : Int)), ((374 : Int), (374 : Int), (0 : Int), (299 : Int)), ((375 : Int), (375 : Int), (0 : Int), (23 : Int)), ((376 : Int), (376 : Int), (-1 : Int), (7 : Int)), ((377 : Int), (377 : Int), (0 : Int), (299 : Int)), ((378 : Int), (378 : Int), (0 : Int), (23 : Int)), ((379 : Int), (379 : Int), (-1 : Int), (7 : Int)), ((380 : Int), (380 : Int), (0 : Int), (299 : Int)), ((381 : Int), (381 : Int), (0 : Int), (23 : Int)), ((382 : Int), (382 : Int), (-1 : Int), (7 : Int)), ((383 : Int), (383 : Int), (0 : Int), (299 : Int)), ((384 : Int), (384 : Int), (0 : Int), (23 : Int)), ((385 : Int), (385 : Int), (-1 : Int), (7 : Int)), ((386 : Int), (386 : Int), (0 : Int), (299 : Int)), ((387 : Int), (387 : Int), (0 : Int), (23 : Int)), ((388 : Int), (388 : Int), (-1 : Int), (7 : Int)), ((389 : Int), (389 : Int), (0 : Int), (299 : Int)), ((390 : Int), (390 : Int), (0 : Int), (23 : Int)), ((391 : Int), (391 : Int), (-1 : Int), (7 : Int)), ((392 : Int), (392 : Int), (0 : Int), (299 : Int)), ((393 : Int), (393 : Int), (0 : Int), (23 : Int)), ((394 : Int), (394 : Int), (-1 : Int), (7 : Int)), ((395 : Int), (395 : Int), (0 : Int), (12 : Int)), ((396 : Int), (396 : Int), (-1 : Int), (2 : Int)), ((397 : Int), (397 : Int), (-1 : Int), (20 : Int)), ((398 : Int), (399 : Int), (0 : Int), (400 : Int)), ((400 : Int), (400 : Int), (-1 : Int), (2 : Int)), ((401 : Int), (401 : Int), (-1 : Int), (20 : Int)), ((402 : Int), (403 : Int), (0 : Int), (400 : Int)), ((404 : Int), (404 : Int), (-1 : Int), (2 : Int)), ((405 : Int), (405 : Int), (-1 : Int), (20 : Int)), ((406 : Int), (407 : Int), (0 : Int), (400 : Int)), ((408 : Int), (408 : Int), (-1 : Int), (2 : Int)), ((409 : Int), (409 : Int), (-1 : Int), (20 : Int)), ((410 : Int), (411 : Int), (0 : Int), (400 : Int)), ((412 : Int), (412 : Int), (-1 : Int), (2 : Int)), ((413 : Int), (413 : Int), (-1 : Int), (20 : Int)), ((414 : Int), (415 : Int), (0 : Int), (400 : Int)), ((416 : Int), (416 : Int), (-1 : Int), (2 : Int)), ((417 : Int), (417 : Int), (-1 : Int), (20 : Int)), ((418 : Int), (419 : Int), (0 : Int), (400 : Int)), ((420 : Int), (420 : Int), (-1 : Int), (2 : Int)), ((421 : Int), (421 : Int), (-1 : Int), (20 : Int)), ((422 : Int), (423 : Int), (0 : Int), (400 : Int)), ((424 : Int), (424 : Int), (-1 : Int), (2 : Int)), ((425 : Int), (425 : Int), (-1 : Int), (20 : Int)), ((426 : Int), (427 : Int), (0 : Int), (400 : Int)), ((428 : Int), (428 : Int), (-1 : Int), (2 : Int)), ((429 : Int), (429 : Int), (-1 : Int), (20 : Int)), ((430 : Int), (431 : Int), (0 : Int), (400 : Int)), ((432 : Int), (432 : Int), (-1 : Int), (2 : Int)), ((433 : Int), (433 : Int), (-1 : Int), (20 : Int)), ((434 : Int), (435 : Int), (0 : Int), (400 : Int)), ((436 : Int), (436 : Int), (-1 : Int), (2 : Int)), ((437 : Int), (437 : Int), (-1 : Int), (20 : Int)), ((438 : Int), (439 : Int), (0 : Int), (400 : Int)), ((440 : Int), (440 : Int), (-1 : Int), (2 : Int)), ((441 : Int), (441 : Int), (-1 : Int), (20 : Int)), ((442 : Int), (443 : Int), (0 : Int), (400 : Int)), ((444 : Int), (1243 : Int), (-1 : Int), (999 : Int))]
set_option maxRecDepth 100000 in
noncomputable def p2_T14 : List (Option ((Nat × Nat) × List (Int × Nat) × List (Int × Int × Int × Int))) := [some (((6 : Nat), (0 : Nat)), [((2 : Int), (225 : Nat))], [((0 : Int), (0 : Int), (31 : Int), (31 : Int)), ((1 : Int), (1 : Int), (6 : Int), (6 : Int)), ((3 : Int), (3 : Int), (0 : Int), (31 : Int))]), some (((0 : Nat), (186 : Nat)), [], [((0 : Int), (185 : Int), (-2147483648 : Int), (2147483647 : Int))]), some (((15 : Nat), (0 : Nat)), [((1 : Int), (227 : Nat)), ((2 : Int), (228 : Nat)), ((3 : Int), (229 : Nat)), ((4 : Int), (230 : Nat)), ((7 : Int), (231 : Nat)), ((14 : Int), (232 : Nat)), ((16 : Int), (233 : Nat)), ((24 : Int), (234 : Nat)), ((25 : Int), (235 : Nat)), ((27 : Int), (236 : Nat)), ((28 : Int), (237 : Nat)), ((31 : Int), (238 : Nat)), ((32 : Int), (239 : Nat)), ((33 : Int), (240 : Nat)), ((34 : Int), (241 : Nat)), ((35 : Int), (242 : Nat)), ((37 : Int), (243 : Nat)), ((38 : Int), (244 : Nat))], [((0 : Int), (0 : Int), (0 : Int), (3 : Int)), ((5 : Int), (5 : Int), (0 : Int), (1 : Int)), ((6 : Int), (6 : Int), (0 : Int), (12 : Int)), ((8 : Int), (11 : Int), (0 : Int), (400 : Int)), ((12 : Int), (12 : Int), (0 : Int), (6 : Int)), ((13 : Int), (13 : Int), (-1 : Int), (400 : Int)), ((15 : Int), (15 : Int), (0 : Int), (400 : Int)), ((17 : Int), (17 : Int), (0 : Int), (6 : Int)), ((18 : Int), (18 : Int), (0 : Int), (99 : Int)), ((19 : Int), (20 : Int), (0 : Int), (299 : Int)), ((21 : Int), (21 : Int), (0 : Int), (7 : Int)), ((22 : Int), (22 : Int), (-2147483648 : Int), (299 : Int)), ((23 : Int), (23 : Int), (-1 : Int), (99 : Int)), ((26 : Int), (26 : Int), (-1 : Int), (6 : Int)), ((29 : Int), (29 : Int), (-1 : Int), (299 : Int)), ((30 : Int), (30 : Int), (-2147483648 : Int), (2147483647 : Int)), ((36 : Int), (36 : Int), (0 : Int), (299 : Int))]), some (((0 : Nat), (2093 : Nat)), [], p2_T14_17254), some (((0 : Nat), (1244 : Nat)), [], p2_T14_24762), some (((0 : Nat), (1244 : Nat)), [], p2_T14_31396), some (((0 : Nat), (4740 : Nat)), [], []), some (((1 : Nat), (400 : Nat)), [], [((0 : Int), (399 : Int), (-128 : Int), (127 : Int))]), some (((0 : Nat), (5 : Nat)), [], [((0 : Int), (4 : Int), (-2147483648 : Int), (2147483647 : Int))]), some (((0 : Nat), (400 : Nat)), [], [((0 : Int), (399 : Int), (-2147483648 : Int), (2147483647 : Int))]), some (((0 : Nat), (300 : Nat)), [], [((0 : Int), (299 : Int), (0 : Int), (9 : Int))]), some (((1 : Nat), (29700 : Nat)), [], [((0 : Int), (29699 : Int), (0 : Int), (31 : Int))]), some (((0 : Nat), (300 : Nat)), [], [((0 : Int), (299 : Int), (-1 : Int), (99 : Int))]), some (((0 : Nat), (300 : Nat)), [], [((0 : Int), (299 : Int), (-1 : Int), (99 : Int))]), some (((0 : Nat), (24 : Nat)), [], [((0 : Int), (23 : Int), (-1 : Int), (299 : Int))]), some (((0 : Nat), (300 : Nat)), [], [((0 : Int), (299 : Int), (-1 : Int), (99 : Int))])]
set_option maxRecDepth 100000 in
noncomputable def p2_T15 : List (Option ((Nat × Nat) × List (Int × Nat) × List (Int × Int × Int × Int))) := [some (((0 : Nat), (2408 : Nat)), [], [((0 : Int), (2407 : Int), (0 : Int), (1000 : Int))]), some (((0 : Nat), (2408 : Nat)), [], [((0 : Int), (2407 : Int), (0 : Int), (1000 : Int))]), some (((0 : Nat), (2408 : Nat)), [], [((0 : Int), (2407 : Int), (-1 : Int), (299 : Int))]), some (((0 : Nat), (6 : Nat)), [], [((0 : Int), (5 : Int), (-2147483648 : Int), (2147483647 : Int))]), some (((0 : Nat), (6 : Nat)), [], [((0 : Int), (5 : Int), (-2147483648 : Int), (2147483647 : Int))]), some (((2 : Nat), (1 : Nat)), [], [])]
noncomputable def p2_T : ck_TT := [p2_T0, p2_T1, p2_T2, p2_T3, p2_T4, p2_T5, p2_T6, p2_T7, p2_T8, p2_T9, p2_T10, p2_T11, p2_T12, p2_T13, p2_T14, p2_T15]
set_option maxRecDepth 100000 in
noncomputable def p2_ty : List (Int × Int × Int × Int) := [((0 : Int), (0 : Int), (0 : Int), (6 : Int)), ((1 : Int), (1 : Int), (0 : Int), (99 : Int)), ((2 : Int), (3 : Int), (0 : Int), (8 : Int)), ((4 : Int), (4 : Int), (0 : Int), (24 : Int)), ((5 : Int), (5 : Int), (0 : Int), (8 : Int)), ((6 : Int), (6 : Int), (0 : Int), (6 : Int)), ((7 : Int), (7 : Int), (0 : Int), (12 : Int)), ((8 : Int), (8 : Int), (0 : Int), (1 : Int)), ((9 : Int), (9 : Int), (0 : Int), (299 : Int)), ((10 : Int), (10 : Int), (0 : Int), (98 : Int)), ((11 : Int), (11 : Int), (0 : Int), (9 : Int)), ((12 : Int), (12 : Int), (-1 : Int), (6 : Int)), ((13 : Int), (13 : Int), (-1 : Int), (9999 : Int)), ((14 : Int), (14 : Int), (0 : Int), (24 : Int)), ((15 : Int), (15 : Int), (0 : Int), (0 : Int)), ((16 : Int), (21 : Int), (0 : Int), (20 : Int)), ((22 : Int), (22 : Int), (0 : Int), (98 : Int)), ((23 : Int), (28 : Int), (0 : Int), (20 : Int)), ((29 : Int), (29 : Int), (0 : Int), (98 : Int)), ((30 : Int), (35 : Int), (0 : Int), (20 : Int)), ((36 : Int), (36 : Int), (0 : Int), (98 : Int)), ((37 : Int), (42 : Int), (0 : Int), (20 : Int)), ((43 : Int), (43 : Int), (0 : Int), (98 : Int)), ((44 : Int), (49 : Int), (0 : Int), (20 : Int)), ((50 : Int), (50 : Int), (0 : Int), (98 : Int)), ((51 : Int), (56 : Int), (0 : Int), (20 : Int)), ((57 : Int), (57 : Int), (0 : Int), (98 : Int)), ((58 : Int), (63 : Int), (0 : Int), (20 : Int)), ((64 : Int), (64 : Int), (0 : Int), (98 : Int)), ((65 : Int), (70 : Int), (0 : Int), (20 : Int)), ((71 : Int), (71 : Int), (0 : Int), (299 : Int)), ((72 : Int), (72 : Int), (0 : Int), (98 : Int)), ((73 : Int), (73 : Int), (0 : Int), (20 : Int)), ((74 : Int), (74 : Int), (0 : Int), (299 : Int)), ((75 : Int), (75 : Int), (0 : Int), (98 : Int)), ((76 : Int), (76 : Int), (0 : Int), (20 : Int)), ((77 : Int), (77 : Int), (0 : Int), (299 : Int)), ((78 : Int), (78 : Int), (0 : Int), (98 : Int)), ((79 : Int), (79 : Int), (0 : Int), (20 : Int)), ((80 : Int), (80 : Int), (0 : Int), (299 : Int)), ((81 : Int), (81 : Int), (0 : Int), (98 : Int)), ((82 : Int), (82 : Int), (0 : Int), (20 : Int)), ((83 : Int), (83 : Int), (0 : Int), (299 : Int)), ((84 : Int), (84 : Int), (0 : Int), (98 : Int)), ((85 : Int), (85 : Int), (0 : Int), (20 : Int)), ((86 : Int), (86 : Int), (0 : Int), (299 : Int)), ((87 : Int), (87 : Int), (0 : Int), (98 : Int)), ((88 : Int), (88 : Int), (0 : Int), (20 : Int)), ((89 : Int), (89 : Int), (0 : Int), (299 : Int)), ((90 : Int), (90 : Int), (0 : Int), (98 : Int)), ((91 : Int), (91 : Int), (0 : Int), (20 : Int)), ((92 : Int), (92 : Int), (0 : Int), (299 : Int)), ((93 : Int), (93 : Int), (0 : Int), (98 : Int)), ((94 : Int), (94 : Int), (0 : Int), (20 : Int)), ((95 : Int), (95 : Int), (0 : Int), (6 : Int)), ((96 : Int), (96 : Int), (0 : Int), (98 : Int)), ((97 : Int), (97 : Int), (-1 : Int), (6 : Int)), ((98 : Int), (98 : Int), (0 : Int), (6 : Int)), ((99 : Int), (99 : Int), (0 : Int), (98 : Int)), ((100 : Int), (100 : Int), (-1 : Int), (6 : Int)), ((101 : Int), (101 : Int), (0 : Int), (6 : Int)), ((102 : Int), (102 : Int), (0 : Int), (98 : Int)), ((103 : Int), (103 : Int), (-1 : Int), (6 : Int)), ((104 : Int), (104 : Int), (0 : Int), (6 : Int)), ((105 : Int), (105 : Int), (0 : Int), (98 : Int)), ((106 : Int), (106 : Int), (-1 : Int), (6 : Int)), ((107 : Int), (107 : Int), (0 : Int), (6 : Int)), ((108 : Int), (108 : Int), (0 : Int), (98 : Int)), ((109 : Int), (109 : Int), (-1 : Int), (6 : Int)), ((110 : Int), (110 : Int), (0 : Int), (6 : Int)), ((111 : Int), (111 : Int), (0 : Int), (98 : Int)), ((112 : Int), (112 : Int), (-1 : Int), (6 : Int)), ((113 : Int), (113 : Int), (0 : Int), (6 : Int)), ((114 : Int), (114 : Int), (0 : Int), (98 : Int)), ((115 : Int), (115 : Int), (-1 : Int), (6 : Int)), ((116 : Int), (116 : Int), (0 : Int), (6 : Int)), ((117 : Int), (117 : Int), (0 : Int), (98 : Int)), ((118 : Int), (118 : Int), (-1 : Int), (6 : Int)), ((119 : Int), (120 : Int), (-1 : Int), (7 : Int)), ((121 : Int), (121 : Int), (0 : Int), (6 : Int)), ((122 : Int), (122 : Int), (0 : Int), (299 : Int)), ((123 : Int), (123 : Int), (0 : Int), (98 : Int)), ((124 : Int), (124 : Int), (-1 : Int), (7 : Int)), ((125 : Int), (125 : Int), (-1 : Int), (299 : Int)), ((126 : Int), (127 : Int), (-1 : Int), (7 : Int)), ((128 : Int), (128 : Int), (0 : Int), (6 : Int)), ((129 : Int), (129 : Int), (0 : Int), (299 : Int)), ((130 : Int), (130 : Int), (0 : Int), (98 : Int)), ((131 : Int), (131 : Int), (-1 : Int), (7 : Int)), ((132 : Int), (132 : Int), (-1 : Int), (299 : Int)), ((133 : Int), (134 : Int), (-1 : Int), (7 : Int)), ((135 : Int), (135 : Int), (0 : Int), (6 : Int)), ((136 : Int), (136 : Int), (0 : Int), (299 : Int)), ((137 : Int), (137 : Int), (0 : Int), (98 : Int)), ((138 : Int), (138 : Int), (-1 : Int), (7 : Int)), ((139 : Int), (139 : Int), (-1 : Int), (299 : Int)), ((140 : Int), (141 : Int), (-1 : Int), (7 : Int)), ((142 : Int), (142 : Int), (0 : Int), (6 : Int)), ((143 : Int), (143 : Int), (0 : Int), (299 : Int)), ((144 : Int), (144 : Int), (0 : Int), (98 : Int)), ((145 : Int), (145 : Int), (-1 : Int), (7 : Int)), ((146 : Int), (146 : Int), (-1 : Int), (299 : Int)), ((147 : Int), (148 : Int), (-1 : Int), (7 : Int)), ((149 : Int), (149 : Int), (0 : Int), (6 : Int)), ((150 : Int), (150 : Int), (0 : Int), (299 : Int)), ((151 : Int), (151 : Int), (0 : Int), (98 : Int)), ((152 : Int), (152 : Int), (-1 : Int), (7 : Int)), ((153 : Int), (153 : Int), (-1 : Int), (299 : Int)), ((154 : Int), (155 : Int), (-1 : Int), (7 : Int)), ((156 : Int), (156 : Int), (0 : Int), (6 : Int)), ((157 : Int), (157 : Int), (0 : Int), (299 : Int)), ((158 : Int), (158 : Int), (0 : Int), (98 : Int)), ((159 : Int), (159 : Int), (-1 : Int), (7 : Int)), ((160 : Int), (160 : Int), (-1 : Int), (299 : Int)), ((161 : Int), (162 : Int), (-1 : Int), (7 : Int)), ((163 : Int), (163 : Int), (0 : Int), (6 : Int)), ((164 : Int), (164 : Int), (0 : Int), (299 : Int)), ((165 : Int), (165 : Int), (0 : Int), (98 : Int)), ((166 : Int), (166 : Int), (-1 : Int), (7 : Int)), ((167 : Int), (167 : Int), (-1 : Int), (299 : Int)), ((168 : Int), (169 : Int), (-1 : Int), (7 : Int)), ((170 : Int), (170 : Int), (0 : Int), (6 : Int)), ((171 : Int), (171 : Int), (0 : Int), (299 : Int)), ((172 : Int), (172 : Int), (0 : Int), (98 : Int)), ((173 : Int), (173 : Int), (-1 : Int), (7 : Int)), ((174 : Int), (174 : Int), (-1 : Int), (299 : Int)), ((175 : Int), (176 : Int), (-1 : Int), (7 : Int)), ((177 : Int), (177 : Int), (0 : Int), (6 : Int)), ((178 : Int), (178 : Int), (0 : Int), (299 : Int)), ((179 : Int), (179 : Int), (0 : Int), (98 : Int)), ((180 : Int), (180 : Int), (-1 : Int), (7 : Int)), ((181 : Int), (181 : Int), (-1 : Int), (299 : Int)), ((182 : Int), (183 : Int), (-1 : Int), (7 : Int)), ((184 : Int), (184 : Int), (0 : Int), (6 : Int)), ((185 : Int), (185 : Int), (0 : Int), (299 : Int)), ((186 : Int), (186 : Int), (0 : Int), (98 : Int)), ((187 : Int), (187 : Int), (-1 : Int), (7 : Int)), ((188 : Int), (188 : Int), (-1 : Int), (299 : Int)), ((189 : Int), (190 : Int), (-1 : Int), (7 : Int)), ((191 : Int), (191 : Int), (0 : Int), (6 : Int)), ((192 : Int), (192 : Int), (0 : Int), (299 : Int)), ((193 : Int), (193 : Int), (0 : Int), (98 : Int)), ((194 : Int), (194 : Int), (-1 : Int), (7 : Int)), ((195 : Int), (195 : Int), (-1 : Int), (299 : Int)), ((196 : Int), (197 : Int), (-1 : Int), (7 : Int)), ((198 : Int), (198 : Int), (0 : Int), (6 : Int)), ((199 : Int), (199 : Int), (0 : Int), (299 : Int)), ((200 : Int), (200 : Int), (0 : Int), (98 : Int)), ((201 : Int), (201 : Int), (-1 : Int), (7 : Int)), ((202 : Int), (202 : Int), (-1 : Int), (299 : Int)), ((203 : Int), (204 : Int), (-1 : Int), (7 : Int)), ((205 : Int), (205 : Int), (0 : Int), (6 : Int)), ((206 : Int), (206 : Int), (0 : Int), (299 : Int)), ((207 : Int), (207 : Int), (0 : Int), (98 : Int)), ((208 : Int), (208 : Int), (-1 : Int), (7 : Int)), ((209 : Int), (209 : Int), (-1 : Int), (299 : Int)), ((210 : Int), (211 : Int), (-1 : Int), (7 : Int)), ((212 : Int), (212 : Int), (0 : Int), (6 : Int)), ((213 : Int), (213 : Int), (0 : Int), (299 : Int)), ((214 : Int), (214 : Int), (0 : Int), (98 : Int)), ((215 : Int), (215 : Int), (-1 : Int), (7 : Int)), ((216 : Int), (216 : Int), (-1 : Int), (299 : Int)), ((217 : Int), (218 : Int), (-1 : Int), (7 : Int)), ((219 : Int), (219 : Int), (0 : Int), (6 : Int)), ((220 : Int), (220 : Int), (0 : Int), (299 : Int)), ((221 : Int), (221 : Int), (0 : Int), (98 : Int)), ((222 : Int), (222 : Int), (-1 : Int), (7 : Int)), ((223 : Int), (223 : Int), (-1 : Int), (299 : Int)), ((224 : Int), (225 : Int), (-1 : Int), (7 : Int)), ((226 : Int), (226 : Int), (0 : Int), (6 : Int)), ((227 : Int), (227 : Int), (0 : Int), (299 : Int)), ((228 : Int), (228 : Int), (0 : Int), (98 : Int)), ((229 : Int), (229 : Int), (-1 : Int), (7 : Int)), ((230 : Int), (230 : Int), (-1 : Int), (299 : Int)), ((231 : Int), (232 : Int), (-1 : Int), (7 : Int)), ((233 : Int), (233 : Int), (0 : Int), (6 : Int)), ((234 : Int), (234 : Int), (0 : Int), (299 : Int)), ((235 : Int), (235 : Int), (0 : Int), (98 : Int)), ((236 : Int), (236 : Int), (-1 : Int), (7 : Int)), ((237 : Int), (237 : Int), (-1 : Int), (299 : Int)), ((238 : Int), (239 : Int), (-1 : Int), (7 : Int)), ((240 : Int), (240 : Int), (0 : Int), (6 : Int)), ((241 : Int), (241 : Int), (0 : Int), (299 : Int)), ((242 : Int), (242 : Int), (0 : Int), (98 : Int)), ((243 : Int), (243 : Int), (-1 : Int), (7 : Int)), ((244 : Int), (244 : Int), (-1 : Int), (299 : Int)), ((245 : Int), (246 : Int), (-1 : Int), (7 : Int)), ((247 : Int), (247 : Int), (0 : Int), (6 : Int)), ((248 : Int), (248 : Int), (0 : Int), (299 : Int)), ((249 : Int), (249 : Int), (0 : Int), (98 : Int)), ((250 : Int), (250 : Int), (-1 : Int), (7 : Int)), ((251 : Int), (251 : Int), (-1 : Int), (299 : Int)), ((252 : Int), (253 : Int), (-1 : Int), (7 : Int)), ((254 : Int), (254 : Int), (0 : Int), (6 : Int)), ((255 : Int), (255 : Int), (0 : Int), (299 : Int)), ((256 : Int), (256 : Int), (0 : Int), (98 : Int)), ((257 : Int), (257 : Int), (-1 : Int), (7 : Int)), ((258 : Int), (258 : Int), (-1 : Int), (299 : Int)), ((259 : Int), (260 : Int), (-1 : Int), (7 : Int)), ((261 : Int), (261 : Int), (0 : Int), (6 : Int)), ((262 : Int), (262 : Int), (0 : Int), (299 : Int)), ((263 : Int), (263 : Int), (0 : Int), (98 : Int)), ((264 : Int), (264 : Int), (-1 : Int), (7 : Int)), ((265 : Int), (265 : Int), (-1 : Int), (299 : Int)), ((266 : Int), (267 : Int), (-1 : Int), (7 : Int)), ((268 : Int), (268 : Int), (0 : Int), (6 : Int)), ((269 : Int), (269 : Int), (0 : Int), (299 : Int)), ((270 : Int), (270 : Int), (0 : Int), (98 : Int)), ((271 : Int), (271 : Int), (-1 : Int), (7 : Int)), ((272 : Int), (272 : Int), (-1 : Int), (299 : Int)), ((273 : Int), (274 : Int), (-1 : Int), (7 : Int)), ((275 : Int), (275 : Int), (0 : Int), (6 : Int)), ((276 : Int), (276 : Int), (0 : Int), (299 : Int)), ((277 : Int), (277 : Int), (0 : Int), (98 : Int)), ((278 : Int), (278 : Int), (-1 : Int), (7 : Int)), ((279 : Int), (279 : Int), (-1 : Int), (299 : Int)), ((280 : Int), (281 : Int), (-1 : Int), (7 : Int)), ((282 : Int), (282 : Int), (0 : Int), (6 : Int)), ((283 : Int), (283 : Int), (0 : Int), (299 : Int)), ((284 : Int), (284 : Int), (0 : Int), (98 : Int)), ((285 : Int), (285 : Int), (-1 : Int), (7 : Int)), ((286 : Int), (286 : Int), (-1 : Int), (299 : Int)), ((287 : Int), (322 : Int), (0 : Int), (20 : Int)), ((323 : Int), (323 : Int), (0 : Int), (299 : Int)), ((324 : Int), (324 : Int), (0 : Int), (23 : Int)), ((325 : Int), (325 : Int), (-1 : Int), (7 : Int)), ((326 : Int), (326 : Int), (0 : Int), (299 : Int)), ((327 : Int), (327 : Int), (0 : Int), (23 : Int)), ((328 : Int), (328 : Int), (-1 : Int), (7 : Int)), ((329 : Int), (329 : Int), (0 : Int), (299 : Int)), ((330 : Int), (330 : Int), (0 : Int), (23 : Int)), ((331 : Int), (331 : Int), (-1 : Int), (7 : Int)), ((332 : Int), (332 : Int), (0 : Int), (299 : Int)), ((333 : Int), (333 : Int), (0 : Int), (23 : Int)), ((334 : Int), (334 : Int), (-1 : Int), (7 : Int)), ((335 : Int), (335 : Int), (0 : Int), (299 : Int)), ((336 : Int), (336 : Int), (0 : Int), (23 : Int)), ((337 : Int), (337 : Int), (-1 : Int), (7 : Int)), ((338 : Int), (338 : Int), (0 : Int), (299 : Int)), ((339 : Int), (339 : Int), (0 : Int), (23 : Int)), ((340 : Int), (340 : Int), (-1 : Int), (7 : Int)), ((341 : Int), (341 : Int), (0 : Int), (299 : Int)), ((342 : Int), (342 : Int), (0 : Int), (23 : Int)), ((343 : Int), (343 : Int), (-1 : Int), (7 : Int)), ((344 : Int), (344 : Int), (0 : Int), (299 : Int)), ((345 : Int), (345 : Int), (0 : Int), (23 : Int)), ((346 : Int), (346 : Int), (-1 : Int), (7 : Int)), ((347 : Int), (347 : Int), (0 : Int), (299 : Int)), ((348 : Int), (348 : Int), (0 : Int), (23 : Int)), ((349 : Int), (349 : Int), (-1 : Int), (7 : Int)), ((350 : Int), (350 : Int), (0 : Int), (299 : Int)), ((351 : Int), (351 : Int), (0 : Int), (23 : Int)), ((352 : Int), (352 : Int), (-1 : Int), (7 : Int)), ((353 : Int), (353 : Int), (0 : Int), (299 : Int)), ((354 : Int), (354 : Int), (0 : Int), (23 : Int)), ((355 : Int), (355 : Int), (-1 : Int), (7 : Int)), ((356 : Int), (356 : Int), (0 : Int), (299 : Int)), ((357 : Int), (357 : Int), (0 : Int), (23 : Int)), ((358 : Int), (358 : Int), (-1 : Int), (7 : Int)), ((359 : Int), (359 : Int), (0 : Int), (299 : Int)), ((360 : Int), (360 : Int), (0 : Int), (23 : Int)), ((361 : Int), (361 : Int), (-1 : Int), (7 : Int)), ((362 : Int), (362 : Int), (0 : Int), (299 : Int)), ((363 : Int), (363 : Int), (0 : Int), (23 : Int)), ((364 : Int), (364 : Int), (-1 : Int), (7 : Int)), ((365 : Int), (365 : Int), (0 : Int), (299 : Int)), ((366 : Int), (366 : Int), (0 : Int), (23 : Int)), ((367 : Int), (367 : Int), (-1 : Int), (7 : Int)), ((368 : Int), (368 : Int), (0 : Int), (299 : Int)), ((369 : Int), (369 : Int), (0 : Int), (23 : Int)), ((370 : Int), (370 : Int), (-1 : Int), (7 : Int)), ((371 : Int), (371 : Int), (0 : Int), (299 : Int)), ((372 : Int), (372 : Int), (0 : Int), (23 : Int)), ((373 : Int), (373 : Int), (-1 : Int), (7 : Int)), ((374 : Int), (374 : Int), (0 : Int), (299 : Int)), ((375 : Int), (375 : Int), (0 : Int), (23 : Int)), ((376 : Int), (376 : Int), (-1 : Int), (7 : Int)), ((377 : Int), (377 : Int), (0 : Int), (299 : Int)), ((378 : Int), (378 : Int), (0 : Int), (23 : Int)), ((379 : Int), (379 : Int), (-1 : Int), (7 : Int)), ((380 : Int), (380 : Int), (0 : Int), (299 : Int)), ((381 : Int), (381 : Int), (0 : Int), (23 : Int)), ((382 : Int), (382 : Int), (-1 : Int), (7 : Int)), ((383 : Int), (383 : Int), (0 : Int), (299 : Int)), ((384 : Int), (384 : Int), (0 : Int), (23 : Int)), ((385 : Int), (385 : Int), (-1 : Int), (7 : Int)), ((386 : Int), (386 : Int), (0 : Int), (299 : Int)), ((387 : Int), (387 : Int), (0 : Int), (23 : Int)), ((388 : Int), (388 : Int), (-1 : Int), (7 : Int)), ((389 : Int), (389 : Int), (0 : Int), (299 : Int)), ((390 : Int), (390 : Int), (0 : Int), (23 : Int)), ((391 : Int), (391 : Int), (-1 : Int), (7 : Int)), ((392 : Int), (392 : Int), (0 : Int), (299 : Int)), ((393 : Int), (393 : Int), (0 : Int), (23 : Int)), ((394 : Int), (394 : Int), (-1 : Int), (7 : Int))]
noncomputable def p2_nm : List (Nat × Nat × Int) := [((1 : Nat), (226 : Nat), (9 : Int)), ((2 : Nat), (226 : Nat), (15 : Int)), ((6 : Nat), (1 : Nat), (1 : Int)), ((7 : Nat), (226 : Nat), (8 : Int)), ((8 : Nat), (226 : Nat), (5 : Int)), ((9 : Nat), (1 : Nat), (6 : Int)), ((10 : Nat), (3 : Nat), (6 : Int)), ((11 : Nat), (227 : Nat), (9 : Int)), ((12 : Nat), (214 : Nat), (3 : Int)), ((13 : Nat), (216 : Nat), (3 : Int)), ((20 : Nat), (227 : Nat), (2 : Int)), ((21 : Nat), (227 : Nat), (3 : Int)), ((22 : Nat), (227 : Nat), (4 : Int)), ((23 : Nat), (227 : Nat), (5 : Int)), ((24 : Nat), (227 : Nat), (6 : Int)), ((25 : Nat), (227 : Nat), (7 : Int)), ((26 : Nat), (227 : Nat), (14 : Int)), ((27 : Nat), (226 : Nat), (6 : Int))]
noncomputable abbrev p2_O : gm_Or := ck_OT p2_T j_fp (j_J p2_ty) p2_nm j_h
theorem p2_nmk : p2_nm.all (fun q => decide (p2_nm.find? (fun p => p.1 == q.1) = some q)) = true := by decide +kernel
theorem p2_nmu : ck_nmu p2_O := fun q hq => of_decide_eq_true (List.all_eq_true.mp p2_nmk q hq)
end
/-! 40.jn -/
section
/-! PUTTING TOGETHER by hand: stops; the reference's flowAt where it reads one cell twice. -/
noncomputable def ck_O0 : gm_Or := (fun _ => none, fun _ _ => none, ⟨(fun _ => [], fun _ => [], fun _ _ => True, [], none), fun _ _ _ _ _ _ h => h, fun _ h => nomatch h⟩)
theorem ck_F0 {n : Nat} {K : gm_K} {R : gm_R} {M : gm_M} : gm_Fx ck_O0 n K R M := ⟨fun _ _ h => (nomatch h), fun _ _ _ h => (nomatch h), fun _ _ h => (nomatch h), fun _ _ h => (nomatch h), trivial⟩
section JN
variable {O : gm_Or} {X : Int → Int} {LX : Nat} {E : List (Nat × List ck_Sum)} {mi d n0 : Nat} {W : List (Nat × Int × Int) × List (Nat × Int)} {outs : List ck_Oc} {bc bs pc : Nat} {L : gm_L} {n : Nat} {K : gm_K} {R : gm_R} {M : gm_M} {AL : ck_AL} {F : ck_F} {σ : Nat → Int} {K0 : gm_K} {R0 : gm_R} {M0 : gm_M} {Q : gm_Q}
/-- a method walked up to stops -/
theorem ck_ok_st {cuts : List (Nat × ck_C)} {f : Nat} {S : ck_Sum} {ch : List ck_H} (hcu : ck_cu cuts = true) (hE : ck_nmu O ∧ ck_OkE O X LX E) (h : (decide (S.2.2.1.length ≤ gm_ml mi) && ck_go O none [] E mi S.1.1 S.2.1 S.2.2.2.2.1 S.2.2.2.2.2 cuts f false ch S.1.2.1 S.1.2.2 0 (S.2.2.1.map some ++ List.replicate (gm_ml mi - S.2.2.1.length) none) [] S.2.1 S.2.2.2.1) = true)
    (hch : ∀ h ∈ ch, (h.1, h.2.1) ∈ cuts ∧ ∀ (σ : Nat → Int) (K0 : gm_K) (R0 : gm_R) (M0 : gm_M), ck_Hy O X LX mi S.1.1 S.2.2.2.2.1 S.2.1 K0 R0 M0 (ck_Q O σ S.2.2.2.2.1 S.2.1 K0 R0 M0 S.2.2.2.2.2) σ h) : ck_Ok O X LX mi S := by
  intro d σ vs n K R M hd hn hvs _ hF hf
  simp only [Bool.and_eq_true, decide_eq_true_eq] at h
  obtain ⟨h2, h3⟩ := h
  subst hn
  obtain ⟨g1, g2⟩ := ck_ent hvs
  refine gm_Wp_wk hd (Nat.le_refl _) (Nat.le_refl _) (ck_go_s (σ0 := σ) hcu hE ck_X0 ck_l0 f false ch _ _ 0 _ [] _ _ σ _ [] K R M (fun _ _ => rfl) (fun z hz => ⟨(hch z hz).1, (hch z hz).2 σ K R M⟩) ⟨hF, ⟨?_, fun j b hb => ?_⟩, rfl, hf, ck_fr_0⟩ h3)
  · unfold gm_ent
    simp [g1]
  · unfold gm_ent
    rw [List.getElem?_append] at hb ⊢
    simp only [List.length_map] at hb ⊢
    split at hb
    · rename_i e
      rw [if_pos (by rw [← g1]; exact e)]
      rw [List.getElem?_map] at hb ⊢
      cases hq : S.2.2.1[j]? with
      | none => rw [hq] at hb; cases hb
      | some b' =>
        rw [hq] at hb
        cases hb
        obtain ⟨u, h4, h5⟩ := g2 j b hq
        exact ⟨u, by rw [h4]; rfl, h5⟩
    · exfalso
      have := List.mem_of_getElem? hb
      rw [List.mem_replicate] at this
      cases this.2
/-- flowAt of the reference, from its first look at the row to the second -/
theorem ck_flow {k fl : Nat} {t : Int} (hF : gm_Fx O n K R M) (hkk : O.1 k = some (15, 0)) (hfl : O.2.1 k 25 = some fl) (hfk : O.1 fl = some (1, 29700)) (h0 : L[0]? = some (some (gm_vr k))) (h4 : L[4]? = some (some (gm_vi t))) (ht : 0 ≤ t ∧ t < 29700) (hM : 0 ≤ M fl t ∧ M fl t ≤ 127) (hr : 0 < M fl t → Q (.inl (some (gm_vi (M fl t - 1)))) n K R M) (h34 : gm_Wp X LX d bc bs 292 34 L [] n K R M Q) : gm_Wp X LX d bc bs 292 14 L [] n K R M Q := by
  have hK1 := hF.1 k _ hkk
  have hK2 := hF.1 fl _ hfk
  have hR := (hF.2.1 k _ fl hfl).2
  have hw : gm_w t = t := gm_w_id (by omega) (by omega)
  have hkd : (K k).1 = 11 + 4 := by rw [hK1.2.2]
  have hfd : (K fl).1 = 1 := by rw [hK2.2.2]
  have hfi : 0 ≤ gm_w t ∧ gm_w t < (K fl).2 := by rw [hw, hK2.2.2]; exact ht
  have hif : (if gm_isr 11 25 = true then gm_vr (R k ((25 : Nat) : Int)) else gm_vi (M k ((25 : Nat) : Int))) = gm_vr fl := by
    rw [if_pos (by decide +kernel)]
    exact congrArg gm_vr hR
  refine gm_sp (gm_p_load (i := .aload_n 0) (sr := 2) (j := 0) (by decide +kernel) (by decide +kernel) h0 rfl) (Nat.zero_le _) (Nat.zero_le _) ?_
  refine gm_sp (pc' := 18) (gm_p_get (pc := 15) (ix := 42) (ci := 11) (j := 25) (by decide +kernel) ⟨hK1.1, hK1.2.1⟩ hkd (by decide +kernel)) (Nat.zero_le _) (Nat.zero_le _) ?_
  rw [hif]
  refine gm_sp (gm_p_load (i := .iload 4) (sr := 0) (j := 4) (by decide +kernel) (by decide +kernel) h4 rfl) (Nat.zero_le _) (Nat.zero_le _) ?_
  refine gm_sp (pc' := 21) (gm_p_bald (pc := 20) (by decide +kernel) ⟨hK2.1, hK2.2.1⟩ hfd hfi) (Nat.zero_le _) (Nat.zero_le _) ?_
  rw [hw]
  refine gm_b_if (cc := .le) (off := 13) (by decide +kernel) (by decide) (fun _ => h34) (fun hp => ?_)
  have hp : 0 < M fl t := by
    rw [gm_cm_w ⟨by omega, by omega⟩ ⟨by omega, by omega⟩] at hp
    have hp : ¬ M fl t ≤ 0 := hp
    omega
  refine gm_sp (pc' := 25) (gm_p_load (pc := 24) (i := .aload_n 0) (sr := 2) (j := 0) (by decide +kernel) (by decide +kernel) h0 rfl) (Nat.zero_le _) (Nat.zero_le _) ?_
  refine gm_sp (pc' := 28) (gm_p_get (pc := 25) (ix := 42) (ci := 11) (j := 25) (by decide +kernel) ⟨hK1.1, hK1.2.1⟩ hkd (by decide +kernel)) (Nat.zero_le _) (Nat.zero_le _) ?_
  rw [hif]
  refine gm_sp (pc' := 30) (gm_p_load (pc := 28) (i := .iload 4) (sr := 0) (j := 4) (by decide +kernel) (by decide +kernel) h4 rfl) (Nat.zero_le _) (Nat.zero_le _) ?_
  refine gm_sp (pc' := 31) (gm_p_bald (pc := 30) (by decide +kernel) ⟨hK2.1, hK2.2.1⟩ hfd hfi) (Nat.zero_le _) (Nat.zero_le _) ?_
  rw [hw]
  refine gm_sp (pc' := 32) (gm_p_const (pc := 31) (i := .iconst 1) (v := gm_vi 1) (by decide +kernel) rfl) (Nat.zero_le _) (Nat.zero_le _) ?_
  refine gm_sp (pc' := 33) (gm_p_bin (pc := 32) (i := .isub) (f := fun x y => x - y) (by decide +kernel) rfl) (Nat.zero_le _) (Nat.zero_le _) ?_
  exact gm_r_int (by decide +kernel) (Or.inl (by decide +kernel)) (hr hp)
end JN
end
/-! 42.cp -/
section
/-! COPIES from one row to another, number by number: the loop ends with a closed form. -/
noncomputable def gm_cpy (M : gm_M) (A B : Nat) (a b i : Int) : gm_M := fun c j => if c = A ∧ a ≤ j ∧ j < a + i then M B (j - a + b) else M c j
theorem gm_cpy_0 {M : gm_M} {A B : Nat} {a b : Int} : gm_cpy M A B a b 0 = M := by
  funext c j
  unfold gm_cpy
  rw [if_neg (by omega)]
theorem gm_cpy_ne {M : gm_M} {A B c : Nat} {a b i j : Int} (h : ¬ c = A) : gm_cpy M A B a b i c j = M c j := by
  unfold gm_cpy
  rw [if_neg (fun e => h e.1)]
theorem gm_cpy_out {M : gm_M} {A B c : Nat} {a b i j : Int} (h : ¬ (a ≤ j ∧ j < a + i)) : gm_cpy M A B a b i c j = M c j := by
  unfold gm_cpy
  rw [if_neg (fun e => h e.2)]
theorem gm_cpy_in {M : gm_M} {A B : Nat} {a b i j : Int} (h : a ≤ j ∧ j < a + i) : gm_cpy M A B a b i A j = M B (j - a + b) := by
  unfold gm_cpy
  rw [if_pos ⟨rfl, h⟩]
theorem gm_cpy_s {M : gm_M} {A B : Nat} {a b i : Int} (h : A = B → a ≤ b) (hi : 0 ≤ i) : gm_uM (gm_cpy M A B a b i) A (a + i) (gm_cpy M A B a b i B (b + i)) = gm_cpy M A B a b (i + 1) := by
  have h1 : gm_cpy M A B a b i B (b + i) = M B (b + i) := by
    unfold gm_cpy
    rw [if_neg]
    rintro ⟨e, h2, h3⟩
    have := h e.symm
    omega
  rw [h1]
  funext c j
  unfold gm_uM
  by_cases e : c = A ∧ j = a + i
  · rw [if_pos e]
    obtain ⟨rfl, rfl⟩ := e
    rw [gm_cpy_in ⟨by omega, by omega⟩]
    congr 1
    omega
  · rw [if_neg e]
    unfold gm_cpy
    by_cases e2 : c = A ∧ a ≤ j ∧ j < a + i
    · rw [if_pos e2, if_pos ⟨e2.1, e2.2.1, by omega⟩]
    · rw [if_neg e2, if_neg]
      rintro ⟨e3, e4, e5⟩
      refine e2 ⟨e3, e4, ?_⟩
      have : ¬ j = a + i := fun e6 => e ⟨e3, e6⟩
      omega
section CP
variable {X : Int → Int} {LX d bc bs mi pc : Nat} {L : gm_L} {st : List gm_V} {n : Nat} {K : gm_K} {R : gm_R} {M : gm_M} {Q : gm_Q}
theorem cp_lst {L : gm_L} {v : Nat} {x y : Int} (hv : 1 ≤ v) (lw : ∃ w, L[v - 1]? = some (some w) ∧ ¬ gm_sort w = 1) : gm_lst (L.set v (some (gm_vi x))) v (gm_vi y) = L.set v (some (gm_vi y)) := by
  obtain ⟨w, hw, hs⟩ := lw
  obtain ⟨v, rfl⟩ : ∃ u, v = u + 1 := ⟨v - 1, by omega⟩
  have hw : L[v]? = some (some w) := hw
  have h1 : (L.set (v + 1) (some (gm_vi x)))[v]? = some (some w) := by
    rw [List.getElem?_set, if_neg (by omega), hw]
  have h2 : gm_lc (L.set (v + 1) (some (gm_vi x))) (v + 1) = L.set (v + 1) (some (gm_vi x)) := by
    show (match (L.set (v + 1) (some (gm_vi x)))[v]? with
      | some (some (.inr (.inl _))) => (L.set (v + 1) (some (gm_vi x))).set v none
      | _ => L.set (v + 1) (some (gm_vi x))) = _
    rw [h1]
    rcases w with z | z | z
    · rfl
    · exact absurd rfl hs
    · rfl
  show (gm_lc (L.set (v + 1) (some (gm_vi x))) (v + 1)).set (v + 1) (some (gm_vi y)) = _
  rw [h2, List.set_set]
theorem cp_set0 {L : gm_L} {v : Nat} {x : Int} (lv : L[v]? = some (some (gm_vi x))) : L.set v (some (gm_vi x)) = L := by
  apply List.ext_getElem?
  intro i
  rw [List.getElem?_set]
  split
  · rename_i e
    subst e
    rw [lv]
    split
    · rfl
    · rename_i h
      rw [List.getElem?_eq_none (by omega)] at lv
      cases lv
  · rfl
theorem cp_getv {L : gm_L} {v : Nat} {x y : Int} (lv : L[v]? = some (some (gm_vi x))) : (L.set v (some (gm_vi y)))[v]? = some (some (gm_vi y)) := by
  rw [List.getElem?_set, if_pos rfl, if_pos]
  exact (List.getElem?_eq_some_iff.mp lv).1
theorem cp_get0 {L : gm_L} {v : Nat} {w : Option gm_V} {y : Int} (hv : 1 ≤ v) (l0 : L[0]? = some w) : (L.set v (some (gm_vi y)))[0]? = some w := by
  rw [List.getElem?_set, if_neg (by omega), l0]
theorem cp_ld {iv : Instr} {v : Nat} {x y : Int} {m : gm_M} (hiv : gm_load iv = some (0, v) ∧ gm_len iv = 1) (lv : L[v]? = some (some (gm_vi x))) (h : gm_at mi pc = some iv) : gm_Sp X LX d mi pc (L.set v (some (gm_vi y))) st n K R m (pc + 1) (L.set v (some (gm_vi y))) (gm_vi y :: st) n K R m 0 0 := by
  have := gm_p_load (X := X) (LX := LX) (d := d) (st := st) (n := n) (K := K) (R := R) (M := m) h hiv.1 (cp_getv lv (y := y)) rfl
  rw [hiv.2] at this
  exact this
/-- from pc to pc' the number a + i is laid on the stack -/
noncomputable def cp_sg (X : Int → Int) (LX d bc bs mi n : Nat) (K : gm_K) (R : gm_R) (M : gm_M) (mo v : Nat) (L : gm_L) (pc pc' : Nat) (a : Int) : Prop := ∀ (i : Int) (m : gm_M) (st : List gm_V) (Q : gm_Q), (∀ j, m mo j = M mo j) → gm_Wp X LX d bc bs mi pc' (L.set v (some (gm_vi i))) (gm_vi (a + i) :: st) n K R m Q → gm_Wp X LX d bc bs mi pc (L.set v (some (gm_vi i))) st n K R m Q
theorem cp_sg_i {iv : Instr} {mo v : Nat} {x : Int} (lv : L[v]? = some (some (gm_vi x))) (hiv : gm_load iv = some (0, v) ∧ gm_len iv = 1) (h : gm_at mi pc = some iv) : cp_sg X LX d bc bs mi n K R M mo v L pc (pc + 1) 0 := by
  intro i m st Q _ k
  rw [Int.zero_add] at k
  exact gm_sz (cp_ld hiv lv h) k
theorem cp_sg_ci {iv : Instr} {mo v : Nat} {x c : Int} (lv : L[v]? = some (some (gm_vi x))) (hiv : gm_load iv = some (0, v) ∧ gm_len iv = 1) (hc : gm_ws c = c) (h1 : gm_at mi pc = some (.sipush c)) (h2 : gm_at mi (pc + 3) = some iv) (h3 : gm_at mi (pc + 4) = some .iadd) : cp_sg X LX d bc bs mi n K R M mo v L pc (pc + 5) c := by
  intro i m st Q _ k
  refine gm_sz (gm_p_const (i := .sipush c) (v := gm_vi (gm_ws c)) h1 rfl) ?_
  rw [hc]
  refine gm_sz (cp_ld hiv lv h2) ?_
  exact gm_sz (gm_p_bin (pc := pc + 4) (i := .iadd) (f := fun x y => x + y) h3 rfl) k
theorem cp_sg_ic {iv : Instr} {mo v : Nat} {x c : Int} (lv : L[v]? = some (some (gm_vi x))) (hiv : gm_load iv = some (0, v) ∧ gm_len iv = 1) (hc : gm_ws c = c) (h1 : gm_at mi pc = some iv) (h2 : gm_at mi (pc + 1) = some (.sipush c)) (h3 : gm_at mi (pc + 4) = some .iadd) : cp_sg X LX d bc bs mi n K R M mo v L pc (pc + 5) c := by
  intro i m st Q _ k
  refine gm_sz (cp_ld hiv lv h1) ?_
  refine gm_sz (gm_p_const (pc := pc + 1) (i := .sipush c) (v := gm_vi (gm_ws c)) h2 rfl) ?_
  rw [hc]
  refine gm_sz (gm_p_bin (pc := pc + 4) (i := .iadd) (f := fun x y => x + y) h3 rfl) ?_
  rw [Int.add_comm c i] at k
  exact k
theorem cp_sg_cr {iv : Instr} {mo v ix j : Nat} {x c : Int} (hv : 1 ≤ v) (l0 : L[0]? = some (some (gm_vr mo))) (lv : L[v]? = some (some (gm_vi x))) (hiv : gm_load iv = some (0, v) ∧ gm_len iv = 1) (hc : gm_ws c = c) (hmo : (1 ≤ mo ∧ mo ≤ n) ∧ (K mo).1 = 11 + 4) (hf : gm_fld (gm_ow mi) ix 11 = some j) (hr : gm_isr 11 j = false)
    (h1 : gm_at mi pc = some (.sipush c)) (h2 : gm_at mi (pc + 3) = some (.aload_n 0)) (h3 : gm_at mi (pc + 4) = some (.getfield ix)) (h4 : gm_at mi (pc + 7) = some .imul) (h5 : gm_at mi (pc + 8) = some iv) (h6 : gm_at mi (pc + 9) = some .iadd) : cp_sg X LX d bc bs mi n K R M mo v L pc (pc + 10) (c * M mo j) := by
  intro i m st Q hm k
  refine gm_sz (gm_p_const (i := .sipush c) (v := gm_vi (gm_ws c)) h1 rfl) ?_
  rw [hc]
  refine gm_sz (gm_p_load (pc := pc + 3) (i := .aload_n 0) (sr := 2) (j := 0) h2 rfl (cp_get0 hv l0) rfl) ?_
  refine gm_sz (gm_p_get (pc := pc + 4) h3 hmo.1 hmo.2 hf) ?_
  rw [if_neg (by rw [hr]; exact Bool.false_ne_true), hm]
  refine gm_sz (gm_p_bin (pc := pc + 7) (i := .imul) (f := fun x y => x * y) h4 rfl) ?_
  refine gm_sz (cp_ld hiv lv h5) ?_
  exact gm_sz (gm_p_bin (pc := pc + 9) (i := .iadd) (f := fun x y => x + y) h6 rfl) k
theorem cp_sg_cr1 {iv : Instr} {mo v ix j : Nat} {x c : Int} (hv : 1 ≤ v) (l0 : L[0]? = some (some (gm_vr mo))) (lv : L[v]? = some (some (gm_vi x))) (hiv : gm_load iv = some (0, v) ∧ gm_len iv = 1) (hc : gm_ws c = c) (hmo : (1 ≤ mo ∧ mo ≤ n) ∧ (K mo).1 = 11 + 4) (hf : gm_fld (gm_ow mi) ix 11 = some j) (hr : gm_isr 11 j = false)
    (h1 : gm_at mi pc = some (.sipush c)) (h2 : gm_at mi (pc + 3) = some (.aload_n 0)) (h3 : gm_at mi (pc + 4) = some (.getfield ix)) (h7 : gm_at mi (pc + 7) = some (.iconst 1)) (h8 : gm_at mi (pc + 8) = some .isub) (h4 : gm_at mi (pc + 9) = some .imul) (h5 : gm_at mi (pc + 10) = some iv) (h6 : gm_at mi (pc + 11) = some .iadd) : cp_sg X LX d bc bs mi n K R M mo v L pc (pc + 12) (c * (M mo j - 1)) := by
  intro i m st Q hm k
  refine gm_sz (gm_p_const (i := .sipush c) (v := gm_vi (gm_ws c)) h1 rfl) ?_
  rw [hc]
  refine gm_sz (gm_p_load (pc := pc + 3) (i := .aload_n 0) (sr := 2) (j := 0) h2 rfl (cp_get0 hv l0) rfl) ?_
  refine gm_sz (gm_p_get (pc := pc + 4) h3 hmo.1 hmo.2 hf) ?_
  rw [if_neg (by rw [hr]; exact Bool.false_ne_true), hm]
  refine gm_sz (gm_p_const (pc := pc + 7) (i := .iconst 1) (v := gm_vi 1) h7 rfl) ?_
  refine gm_sz (gm_p_bin (pc := pc + 8) (i := .isub) (f := fun x y => x - y) h8 rfl) ?_
  refine gm_sz (gm_p_bin (pc := pc + 9) (i := .imul) (f := fun x y => x * y) h4 rfl) ?_
  refine gm_sz (cp_ld hiv lv h5) ?_
  exact gm_sz (gm_p_bin (pc := pc + 11) (i := .iadd) (f := fun x y => x + y) h6 rfl) k
/-- THE LOOP -/
theorem cp_lp {iv : Instr} {v ixA ixB jA jB A B mo p qA qB : Nat} {N a b offe offb : Int} (hv : 1 ≤ v) (hmo : (1 ≤ mo ∧ mo ≤ n) ∧ (K mo).1 = 11 + 4) (hA : (1 ≤ A ∧ A ≤ n) ∧ (K A).1 = 0) (hB : (1 ≤ B ∧ B ≤ n) ∧ (K B).1 = 0) (rA : R mo jA = A) (rB : R mo jB = B) (fA : gm_fld (gm_ow mi) ixA 11 = some jA) (fB : gm_fld (gm_ow mi) ixB 11 = some jB) (sA : gm_isr 11 jA = true) (sB : gm_isr 11 jB = true)
    (bnd : (0 ≤ N ∧ N < 100000) ∧ (0 ≤ a ∧ a + N ≤ (K A).2) ∧ (0 ≤ b ∧ b + N ≤ (K B).2) ∧ (K A).2 < 100000 ∧ (K B).2 < 100000) (hab : A = B → a ≤ b) (hmA : ¬ mo = A) (hN : gm_ws N = N) (l0 : L[0]? = some (some (gm_vr mo))) (lv : L[v]? = some (some (gm_vi 0))) (hiv : gm_load iv = some (0, v) ∧ gm_len iv = 1) (lw : ∃ w, L[v - 1]? = some (some w) ∧ ¬ gm_sort w = 1)
    (c0 : gm_at mi p = some iv) (c1 : gm_at mi (p + 1) = some (.sipush N)) (c2 : gm_at mi (p + 4) = some (.if_icmp .ge offe)) (c3 : 0 ≤ ((p + 4 : Nat) : Int) + offe) (c4 : gm_at mi (p + 7) = some (.aload_n 0)) (c5 : gm_at mi (p + 8) = some (.getfield ixA)) (gA : cp_sg X LX d bc bs mi n K R M mo v L (p + 11) qA a) (c6 : gm_at mi qA = some (.aload_n 0)) (c7 : gm_at mi (qA + 1) = some (.getfield ixB)) (gB : cp_sg X LX d bc bs mi n K R M mo v L (qA + 4) qB b) (c8 : gm_at mi qB = some .iaload) (c9 : gm_at mi (qB + 1) = some .iastore) (c10 : gm_at mi (qB + 2) = some (.iinc v 1)) (c11 : gm_at mi (qB + 5) = some (.goto offb)) (c12 : 0 ≤ ((qB + 5 : Nat) : Int) + offb) (c13 : gm_tgt (qB + 5) offb = p)
    (hx : gm_Wp X LX d bc bs mi (gm_tgt (p + 4) offe) (L.set v (some (gm_vi N))) [] n K R (gm_cpy M A B a b N) Q) : gm_Wp X LX d bc bs mi p L [] n K R M Q := by
  obtain ⟨⟨n1, n2⟩, ⟨a1, a2⟩, ⟨b1, b2⟩, k1, k2⟩ := bnd
  have key : ∀ (k : Nat) (i : Int), 0 ≤ i → i ≤ N → N - i = (k : Int) → gm_Wp X LX d bc bs mi p (L.set v (some (gm_vi i))) [] n K R (gm_cpy M A B a b i) Q := by
    intro k
    induction k with
    | zero =>
      intro i h1 h2 h3
      have e : i = N := by omega
      subst e
      refine gm_sz (cp_ld hiv lv c0) ?_
      refine gm_sz (gm_p_const (pc := p + 1) (i := .sipush i) (v := gm_vi (gm_ws i)) c1 rfl) ?_
      rw [hN]
      exact gm_b_ic (pc := p + 4) c2 c3 (fun _ => hx) (fun hp => absurd (show gm_w i ≤ gm_w i from Int.le_refl _) hp)
    | succ k ih =>
      intro i h1 h2 h3
      have w1 : gm_w i = i := gm_w_id (by omega) (by omega)
      have w2 : gm_w N = N := gm_w_id (by omega) (by omega)
      have w3 : gm_w (a + i) = a + i := gm_w_id (by omega) (by omega)
      have w4 : gm_w (b + i) = b + i := gm_w_id (by omega) (by omega)
      have hm : ∀ j, gm_cpy M A B a b i mo j = M mo j := fun j => gm_cpy_ne hmA
      refine gm_sz (cp_ld hiv lv c0) ?_
      refine gm_sz (gm_p_const (pc := p + 1) (i := .sipush N) (v := gm_vi (gm_ws N)) c1 rfl) ?_
      rw [hN]
      refine gm_b_ic (pc := p + 4) c2 c3 (fun hp => ?_) (fun _ => ?_)
      · have hp : gm_w N ≤ gm_w i := hp
        omega
      refine gm_sz (gm_p_load (pc := p + 7) (i := .aload_n 0) (sr := 2) (j := 0) c4 rfl (cp_get0 hv l0) rfl) ?_
      refine gm_sz (gm_p_get (pc := p + 8) c5 hmo.1 hmo.2 fA) ?_
      rw [if_pos sA, rA]
      refine gA i _ _ _ hm ?_
      refine gm_sz (gm_p_load (pc := qA) (i := .aload_n 0) (sr := 2) (j := 0) c6 rfl (cp_get0 hv l0) rfl) ?_
      refine gm_sz (gm_p_get (pc := qA + 1) c7 hmo.1 hmo.2 fB) ?_
      rw [if_pos sB, rB]
      refine gB i _ _ _ hm ?_
      refine gm_sz (gm_p_iald (pc := qB) c8 hB.1 hB.2 (by rw [w4]; omega)) ?_
      rw [w4]
      refine gm_sz (gm_p_iast (pc := qB + 1) c9 hA.1 hA.2 (by rw [w3]; omega)) ?_
      rw [w3]
      refine gm_sz (gm_p_iinc (pc := qB + 2) c10 (cp_getv lv)) ?_
      refine gm_sz (gm_p_goto (pc := qB + 5) c11 c12) ?_
      rw [cp_lst hv lw, c13, gm_cpy_s hab h1]
      exact ih (i + 1) (by omega) (by omega) (by omega)
  have h := key N.toNat 0 (Int.le_refl _) n1 (by omega)
  rw [cp_set0 lv, gm_cpy_0] at h
  exact h
end CP
section CQ
variable {O : gm_Or} {X : Int → Int} {LX : Nat} {E : List (Nat × List ck_Sum)} {mi d n0 : Nat} {W : List (Nat × Int × Int) × List (Nat × Int)} {outs : List ck_Oc} {σ σ0 : Nat → Int} {K0 : gm_K} {R0 : gm_R} {M0 : gm_M} {n : Nat} {K : gm_K} {R : gm_R} {M : gm_M} {F : ck_F}
theorem gm_Fx_cpy {A B : Nat} {a b N : Int} (hF : gm_Fx O n K R M) (ht : ∀ r ∈ O.2.2.ty A, ∀ j, r.1 ≤ j → j ≤ r.2.1 → a ≤ j → j < a + N → (-2147483648 ≤ M B (j - a + b) ∧ M B (j - a + b) < 2147483648) ∧ r.2.2.1 ≤ M B (j - a + b) ∧ M B (j - a + b) ≤ r.2.2.2) (hJ : O.2.2.J K (gm_cpy M A B a b N)) : gm_Fx O n K R (gm_cpy M A B a b N) := by
  refine ⟨hF.1, hF.2.1, fun c r hr => ?_, hF.2.2.2.1, hJ⟩
  obtain ⟨g1, g2⟩ := hF.2.2.1 c r hr
  refine ⟨g1, fun j h1 h2 => ?_⟩
  unfold gm_cpy
  split
  · rename_i e
    obtain ⟨rfl, e1, e2⟩ := e
    exact ht r hr j h1 h2 e1 e2
  · exact g2 j h1 h2
/-- the types of what is copied are within the types of where it goes -/
noncomputable def cp_tc (O : gm_Or) (A B : Nat) (a b N : Int) : Bool := (O.2.2.ty A).all fun r => decide (r.2.1 < a) || (decide (a + N ≤ r.1) || (match gm_tyr O B ((if a ≤ r.1 then r.1 else a) - a + b) ((if r.2.1 < a + N then r.2.1 else a + N - 1) - a + b) with
  | some q => decide (r.2.2.1 ≤ q.1) && decide (q.2 ≤ r.2.2.2)
  | none => false))
theorem cp_tc_s {A B : Nat} {a b N : Int} (hF : gm_Fx O n K R M) (h : cp_tc O A B a b N = true) : ∀ r ∈ O.2.2.ty A, ∀ j, r.1 ≤ j → j ≤ r.2.1 → a ≤ j → j < a + N → (-2147483648 ≤ M B (j - a + b) ∧ M B (j - a + b) < 2147483648) ∧ r.2.2.1 ≤ M B (j - a + b) ∧ M B (j - a + b) ≤ r.2.2.2 := by
  intro r hr j h1 h2 h3 h4
  have h5 := List.all_eq_true.mp h r hr
  rw [Bool.or_eq_true, Bool.or_eq_true, decide_eq_true_eq, decide_eq_true_eq] at h5
  rcases h5 with h5 | h5 | h5
  · omega
  · omega
  · split at h5
    · rename_i q hq
      rw [Bool.and_eq_true, decide_eq_true_eq, decide_eq_true_eq] at h5
      obtain ⟨-, h6⟩ := gm_tyr_s hF hq
      have h7 := h6 (j - a + b) (by split <;> omega) (by split <;> omega)
      exact ⟨h7.1, Int.le_trans h5.1 h7.2.1, Int.le_trans h7.2.2 h5.2⟩
    · cases h5
theorem ck_fr_cpy {A B : Nat} {a b N wa wb : Int} (h : ck_fr W n0 K0 R0 M0 n K R M) (hw : ck_okW W.1 n0 A wa wb = true) (h1 : wa ≤ a) (h2 : a + N ≤ wb + 1) : ck_fr W n0 K0 R0 M0 n K R (gm_cpy M A B a b N) := by
  refine ⟨h.1, h.2.1, fun k j hk hb => ?_, h.2.2.2⟩
  rw [← h.2.2.1 k j hk hb]
  unfold gm_cpy
  rw [if_neg]
  rintro ⟨rfl, e1, e2⟩
  rw [ck_okW_def] at hw
  simp only [Bool.or_eq_true, decide_eq_true_eq, List.any_eq_true, Bool.and_eq_true, beq_iff_eq] at hw
  rcases hw with hw | ⟨w, hw1, hw2, hw3, hw4⟩
  · omega
  · exact hb w hw1 ⟨hw2, by omega, by omega⟩
theorem ck_gf_cpy {A B : Nat} {a b N wa wb : Int} (h : ck_gf σ F n K R M) (h1 : wa ≤ a) (h2 : a + N ≤ wb + 1) : ck_gf σ (F.1, F.2.1, ck_cws [(A, wa, wb)] F.2.2) n K R (gm_cpy M A B a b N) := by
  refine ⟨h.1, h.2.1, fun q hq => ?_⟩
  obtain ⟨p, hp, e1, e2, e3⟩ := ck_cws_s (ws := [(A, wa, wb)]) (l := F.2.2) hq
  have h3 := h.2.2 p hp
  refine ⟨by rw [e1]; exact h3.1, fun j h4 h5 => ?_⟩
  obtain ⟨h6, h7⟩ := e3 j h4 h5
  have h8 := h7 (A, wa, wb) List.mem_cons_self
  have h9 : gm_cpy M A B a b N q.1 j = M p.1 j := by
    rw [e1]
    unfold gm_cpy
    rw [if_neg]
    rintro ⟨e4, e5, e6⟩
    exact h8 ⟨e4.symm, by dsimp only; omega, by dsimp only; omega⟩
  rw [h9, e2]
  exact h3.2 j h6.1 h6.2
theorem ck_gl_set {AL : ck_AL} {L : gm_L} {v : Nat} {N : Int} (hN : gm_ir N) (h : ck_gl σ AL L) : ck_gl σ (AL.set v (some (.inl (ck_one N)))) (L.set v (some (gm_vi N))) := ck_set h ⟨N, rfl, hN, ck_one_s N⟩
/-- A COPY on the way: what is known behind it -/
theorem ck_cpH {p pc' v A B f : Nat} {N wa wb : Int} {c : ck_C} {bc0 bs0 : Nat} {ch : List ck_H} {cuts : List (Nat × ck_C)} (hcu : ck_cu cuts = true) (hE : ck_nmu O ∧ ck_OkE O X LX E) (hσ : ∀ s, s < 100 → σ s = σ0 s) (hN : gm_ir N) (hw : ck_okW W.1 n0 A wa wb = true)
    (hl : ∀ (bc bs : Nat) (L : gm_L) (K : gm_K) (R : gm_R) (M : gm_M), ck_St O σ W n0 K0 R0 M0 c.1 [] c.2.1 L [] n K R M → ∃ a b : Int, (wa ≤ a ∧ a + N ≤ wb + 1) ∧ gm_Fx O n K R (gm_cpy M A B a b N) ∧ ∀ Q, gm_Wp X LX d bc bs mi pc' (L.set v (some (gm_vi N))) [] n K R (gm_cpy M A B a b N) Q → gm_Wp X LX d bc bs mi p L [] n K R M Q)
    (hgo : ck_go O none [] E mi d n0 W outs cuts f false ch bc0 bs0 pc' (c.1.set v (some (.inl (ck_one N)))) [] n (c.2.1.1, c.2.1.2.1, ck_cws [(A, wa, wb)] c.2.1.2.2) = true)
    (hch : ∀ h ∈ ch, (h.1, h.2.1) ∈ cuts ∧ ck_Hy O X LX mi d W n0 K0 R0 M0 (ck_Q O σ0 W n0 K0 R0 M0 outs) σ h) : ck_Hy O X LX mi d W n0 K0 R0 M0 (ck_Q O σ0 W n0 K0 R0 M0 outs) σ (p, c, bc0, bs0, n) := by
  intro x _ bc bs L K R M hb1 hb2 hS _
  obtain ⟨a, b, ⟨h1, h2⟩, h3, h4⟩ := hl bc bs L K R M hS
  obtain ⟨f1, f2, f3, f4, f5⟩ := hS
  refine h4 _ (gm_Wp_wk (Nat.le_refl _) hb1 hb2 (ck_go_s (σ0 := σ0) hcu hE ck_X0 ck_l0 f false ch _ _ _ _ [] _ _ σ _ [] K R _ hσ hch ⟨h3, ck_gl_set hN f2, rfl, ck_gf_cpy f4 h1 h2, ck_fr_cpy f5 hw h1 h2⟩ hgo))
end CQ
end
/-! 43.jj -/
section
/-! COPIES between the world, the image, what was ahead and what is remembered: what is said of memory stays. -/
theorem gm_cpy_f {M : gm_M} {A B c : Nat} {a b i : Int} (h : ¬ c = A) : gm_cpy M A B a b i c = M c := funext fun _ => gm_cpy_ne h
theorem gm_cpy_at {M : gm_M} {A B : Nat} {a b i j x : Int} (h : a ≤ j ∧ j < a + i) (e : j - a + b = x) : gm_cpy M A B a b i A j = M B x := by
  rw [gm_cpy_in h, e]
section JJ
variable {t : List (Int × Int × Int × Int)} {K : gm_K} {M : gm_M}
theorem jj_image (h : j_J t K M) : j_J t K (gm_cpy M 228 227 0 0 1244) := by
  unfold j_J at h ⊢
  rw [gm_cpy_f (by decide : ¬ 227 = 228), gm_cpy_f (by decide : ¬ 229 = 228), gm_cpy_f (by decide : ¬ 230 = 228)]
  exact j_image h fun j h1 h2 => gm_cpy_at ⟨h1, by omega⟩ (by omega)
theorem jj_before (h : j_J t K M) : j_J t K (gm_cpy M 229 227 0 0 1244) := by
  unfold j_J at h ⊢
  rw [gm_cpy_f (by decide : ¬ 227 = 229), gm_cpy_f (by decide : ¬ 228 = 229), gm_cpy_f (by decide : ¬ 230 = 229)]
  exact j_before h fun j h1 h2 => gm_cpy_at ⟨h1, by omega⟩ (by omega)
theorem jj_back (h : j_J t K M) : j_J t K (gm_cpy M 227 228 0 0 1244) := by
  unfold j_J at h ⊢
  rw [gm_cpy_f (by decide : ¬ 228 = 227), gm_cpy_f (by decide : ¬ 229 = 227), gm_cpy_f (by decide : ¬ 230 = 227)]
  exact j_back h fun j h1 h2 => gm_cpy_at ⟨h1, by omega⟩ (by omega)
theorem jj_again (h : j_J t K M) : j_J t K (gm_cpy M 227 229 0 0 1244) := by
  unfold j_J at h ⊢
  rw [gm_cpy_f (by decide : ¬ 228 = 227), gm_cpy_f (by decide : ¬ 229 = 227), gm_cpy_f (by decide : ¬ 230 = 227)]
  exact j_again h fun j h1 h2 => gm_cpy_at ⟨h1, by omega⟩ (by omega)
theorem jj_undo {y : Int} (h : j_J t K M) (hy : 0 ≤ y ∧ y < 12) : j_J t K (gm_cpy M 227 230 0 (395 * y) 395) := by
  unfold j_J at h ⊢
  rw [gm_cpy_f (by decide : ¬ 228 = 227), gm_cpy_f (by decide : ¬ 229 = 227), gm_cpy_f (by decide : ¬ 230 = 227)]
  exact j_undo h hy (fun j h1 h2 => gm_cpy_at ⟨h1, by omega⟩ (by omega)) fun j h1 h2 => gm_cpy_out (by omega)
theorem jj_shift (h : j_J t K M) : j_J t K (gm_cpy M 230 230 0 395 4345) := by
  unfold j_J at h ⊢
  rw [gm_cpy_f (by decide : ¬ 227 = 230), gm_cpy_f (by decide : ¬ 228 = 230), gm_cpy_f (by decide : ¬ 229 = 230)]
  exact j_shift h (fun j h1 h2 => gm_cpy_at ⟨h1, by omega⟩ (by omega)) fun j h1 h2 => gm_cpy_out (by omega)
theorem jj_store {y : Int} (h : j_J t K M) (hy : 0 ≤ y) (ht : ∀ r ∈ t, ∀ j, r.1 ≤ j → j ≤ r.2.1 → 0 ≤ j → j < 395 → (-2147483648 ≤ M 227 j ∧ M 227 j < 2147483648) ∧ r.2.2.1 ≤ M 227 j ∧ M 227 j ≤ r.2.2.2) : j_J t K (gm_cpy M 230 227 (395 * y) 0 395) := by
  unfold j_J at h ⊢
  rw [gm_cpy_f (by decide : ¬ 227 = 230), gm_cpy_f (by decide : ¬ 228 = 230), gm_cpy_f (by decide : ¬ 229 = 230)]
  exact j_store (y0 := y) h ht (fun j h1 h2 => gm_cpy_at (a := 395 * y) (b := 0) (i := 395) (j := 395 * y + j) (x := j) ⟨by omega, by omega⟩ (by omega)) fun j h1 => gm_cpy_out (by omega)
end JJ
/-! the reference's own rows -/
theorem md_o : (p2_O.1 226 = some (15, 0) ∧ p2_O.1 227 = some (0, 2093)) ∧ (p2_O.1 228 = some (0, 1244) ∧ p2_O.1 229 = some (0, 1244)) ∧ p2_O.1 230 = some (0, 4740) := by decide +kernel
theorem md_r : (p2_O.2.1 226 ((1 : Nat) : Int) = some 227 ∧ p2_O.2.1 226 ((2 : Nat) : Int) = some 228) ∧ (p2_O.2.1 226 ((3 : Nat) : Int) = some 229 ∧ p2_O.2.1 226 ((4 : Nat) : Int) = some 230) := by decide +kernel
theorem md_tk : (p2_O.2.2.ty 227).take 295 = p2_ty := by decide +kernel
theorem md_td : ((p2_O.2.2.ty 227).drop 295).all (fun r => decide (395 ≤ r.1)) = true := by decide +kernel
theorem md_t1 : (p2_O.2.2.ty 227).all (fun r => decide (395 ≤ r.1) || decide (r ∈ p2_ty)) = true := List.all_eq_true.mpr fun r hr => by
  have h2 : r ∈ (p2_O.2.2.ty 227).take 295 ++ (p2_O.2.2.ty 227).drop 295 := by rw [List.take_append_drop]; exact hr
  show (decide (395 ≤ r.1) || decide (r ∈ p2_ty)) = true
  rcases List.mem_append.mp h2 with h | h
  · rw [md_tk] at h
    rw [decide_eq_true h, Bool.or_true]
  · have h3 : decide (395 ≤ r.1) = true := List.all_eq_true.mp md_td r h
    rw [h3, Bool.true_or]
theorem md_t2 : p2_ty.all (fun r => decide (r ∈ p2_O.2.2.ty 227)) = true := List.all_eq_true.mpr fun r hr => decide_eq_true (List.mem_of_mem_take (show r ∈ (p2_O.2.2.ty 227).take 295 by rw [md_tk]; exact hr))
section MD
variable {n : Nat} {K : gm_K} {R : gm_R} {M : gm_M}
theorem md_mo (hF : gm_Fx p2_O n K R M) : (1 ≤ 226 ∧ 226 ≤ n) ∧ (K 226).1 = 11 + 4 := by
  obtain ⟨h1, h2, h3⟩ := hF.1 226 _ md_o.1.1
  exact ⟨⟨h1, h2⟩, by rw [h3]⟩
theorem md_kd {k len : Nat} (hF : gm_Fx p2_O n K R M) (h : p2_O.1 k = some (0, len)) : ((1 ≤ k ∧ k ≤ n) ∧ (K k).1 = 0) ∧ (K k).2 = len := by
  obtain ⟨h1, h2, h3⟩ := hF.1 k _ h
  exact ⟨⟨⟨h1, h2⟩, by rw [h3]⟩, by rw [h3]⟩
theorem md_rf {k : Nat} {j : Nat} (hF : gm_Fx p2_O n K R M) (h : p2_O.2.1 226 (j : Int) = some k) : R 226 (j : Int) = k := (hF.2.1 226 _ _ h).2
theorem md_ty (hF : gm_Fx p2_O n K R M) : ∀ r ∈ p2_ty, ∀ j, r.1 ≤ j → j ≤ r.2.1 → 0 ≤ j → j < 395 → (-2147483648 ≤ M 227 j ∧ M 227 j < 2147483648) ∧ r.2.2.1 ≤ M 227 j ∧ M 227 j ≤ r.2.2.2 := by
  intro r hr j h1 h2 _ _
  exact (hF.2.2.1 227 r (of_decide_eq_true (List.all_eq_true.mp md_t2 r hr))).2 j h1 h2
/-- what comes back from what is remembered keeps the types -/
theorem md_un {y : Int} (hF : gm_Fx p2_O n K R M) (hy : 0 ≤ y ∧ y < 12) : ∀ r ∈ p2_O.2.2.ty 227, ∀ j, r.1 ≤ j → j ≤ r.2.1 → 0 ≤ j → j < 0 + 395 → (-2147483648 ≤ M 230 (j - 0 + 395 * y) ∧ M 230 (j - 0 + 395 * y) < 2147483648) ∧ r.2.2.1 ≤ M 230 (j - 0 + 395 * y) ∧ M 230 (j - 0 + 395 * y) ≤ r.2.2.2 := by
  intro r hr j h1 h2 h3 h4
  have h5 := List.all_eq_true.mp md_t1 r hr
  rw [Bool.or_eq_true, decide_eq_true_eq, decide_eq_true_eq] at h5
  rcases h5 with h5 | h5
  · omega
  · rw [show j - 0 + 395 * y = 395 * y + j by omega]
    have hJ : j_J p2_ty K M := hF.2.2.2.2
    exact hJ.2.1 y hy.1 hy.2 r h5 j h1 h2 h3 (by omega)
end MD
end
/-! 44.hs -/
section
/-! LETTERS by hand: what is thrown in, what is opened. -/
section HS
variable {X : Int → Int} {LX d bc bs mi pc : Nat} {L : gm_L} {st : List gm_V} {n : Nat} {K : gm_K} {R : gm_R} {M : gm_M} {Q : gm_Q}
noncomputable def md_set (M : gm_M) (l k x : Int) : gm_M := gm_uM M 227 (119 + 7 * l + k) x
theorem md_set_ne {c : Nat} {j l k x : Int} (h : ¬ (c = 227 ∧ j = 119 + 7 * l + k)) : md_set M l k x c j = M c j := by
  unfold md_set gm_uM
  rw [if_neg h]
theorem md_set_lo {c : Nat} {j l k x : Int} (hl : 0 ≤ l ∧ 0 ≤ k) (h : j < 119) : md_set M l k x c j = M c j := md_set_ne (by omega)
theorem w2 {x : Int} (h : 0 ≤ x ∧ x < 3000) : gm_w x = x := gm_w_id (by omega) (by omega)
theorem uM_at {k : Nat} {j v : Int} : gm_uM M k j v k j = v := by
  unfold gm_uM
  rw [if_pos ⟨rfl, rfl⟩]
theorem uM_ne {k c : Nat} {j i v : Int} (h : ¬ (c = k ∧ i = j)) : gm_uM M k j v c i = M c i := by
  unfold gm_uM
  rw [if_neg h]
theorem uM_f {k c : Nat} {j v : Int} (h : ¬ c = k) : gm_uM M k j v c = M c := funext fun _ => uM_ne fun e => h e.1
theorem w272 {l k x : Int} (hmo : (1 ≤ 226 ∧ 226 ≤ n) ∧ (K 226).1 = 11 + 4) (h7 : ((1 ≤ 227 ∧ 227 ≤ n) ∧ (K 227).1 = 0) ∧ (K 227).2 = 2093) (r7 : R 226 ((1 : Nat) : Int) = 227) (hl : (0 ≤ l ∧ l < 24) ∧ 0 ≤ k ∧ k < 7) (hq : Q (.inl none) n K R (md_set M l k x)) : gm_Wp X LX d bc bs 272 0 (gm_ent 272 [gm_vr 226, gm_vi l, gm_vi k, gm_vi x]) [] n K R M Q := by
  have e1 : gm_w (119 + 7 * l + k) = 119 + 7 * l + k := w2 (by omega)
  refine gm_sz (gm_p_load (pc := 0) (i := .aload_n 0) (sr := 2) (j := 0) (by decide +kernel) rfl rfl rfl) ?_
  refine gm_sz (gm_p_get (pc := 1) (ix := 13) (ci := 11) (j := 1) (by decide +kernel) hmo.1 hmo.2 (by decide +kernel)) ?_
  rw [if_pos (show gm_isr 11 1 = true by decide +kernel), r7]
  refine gm_sz (gm_p_const (pc := 4) (i := .bipush 119) (v := gm_vi 119) (by decide +kernel) (by decide +kernel)) ?_
  refine gm_sz (gm_p_const (pc := 6) (i := .bipush 7) (v := gm_vi 7) (by decide +kernel) (by decide +kernel)) ?_
  refine gm_sz (gm_p_load (pc := 8) (i := .iload_n 1) (sr := 0) (j := 1) (by decide +kernel) rfl rfl rfl) ?_
  refine gm_sz (gm_p_bin (pc := 9) (i := .imul) (f := fun x y => x * y) (by decide +kernel) rfl) ?_
  refine gm_sz (gm_p_bin (pc := 10) (i := .iadd) (f := fun x y => x + y) (by decide +kernel) rfl) ?_
  refine gm_sz (gm_p_load (pc := 11) (i := .iload_n 2) (sr := 0) (j := 2) (by decide +kernel) rfl rfl rfl) ?_
  refine gm_sz (gm_p_bin (pc := 12) (i := .iadd) (f := fun x y => x + y) (by decide +kernel) rfl) ?_
  refine gm_sz (gm_p_load (pc := 13) (i := .iload_n 3) (sr := 0) (j := 3) (by decide +kernel) rfl rfl rfl) ?_
  refine gm_sz (gm_p_iast (pc := 14) (by decide +kernel) h7.1.1 h7.1.2 (by rw [e1, h7.2]; omega)) ?_
  rw [e1]
  exact gm_r_void (pc := 15) (by decide +kernel) (by decide +kernel) hq
theorem w254 (hmo : (1 ≤ 226 ∧ 226 ≤ n) ∧ (K 226).1 = 11 + 4) (h7 : ((1 ≤ 227 ∧ 227 ≤ n) ∧ (K 227).1 = 0) ∧ (K 227).2 = 2093) (r7 : R 226 ((1 : Nat) : Int) = 227) (hq : Q (.inl (some (gm_vi (M 227 4)))) n K R M) : gm_Wp X LX d bc bs 254 0 (gm_ent 254 [gm_vr 226]) [] n K R M Q := by
  have e1 : gm_w 4 = 4 := by decide
  refine gm_sz (gm_p_load (pc := 0) (i := .aload_n 0) (sr := 2) (j := 0) (by decide +kernel) rfl rfl rfl) ?_
  refine gm_sz (gm_p_get (pc := 1) (ix := 13) (ci := 11) (j := 1) (by decide +kernel) hmo.1 hmo.2 (by decide +kernel)) ?_
  rw [if_pos (show gm_isr 11 1 = true by decide +kernel), r7]
  refine gm_sz (gm_p_const (pc := 4) (i := .iconst 4) (v := gm_vi 4) (by decide +kernel) (by decide +kernel)) ?_
  refine gm_sz (gm_p_iald (pc := 5) (by decide +kernel) h7.1.1 h7.1.2 (by rw [e1, h7.2]; omega)) ?_
  rw [e1]
  exact gm_r_int (pc := 6) (by decide +kernel) (Or.inl (by decide +kernel)) hq
theorem w266 (hmo : (1 ≤ 226 ∧ 226 ≤ n) ∧ (K 226).1 = 11 + 4) (h7 : ((1 ≤ 227 ∧ 227 ≤ n) ∧ (K 227).1 = 0) ∧ (K 227).2 = 2093) (r7 : R 226 ((1 : Nat) : Int) = 227) (hq : Q (.inl (some (gm_vi (M 227 9)))) n K R M) : gm_Wp X LX d bc bs 266 0 (gm_ent 266 [gm_vr 226]) [] n K R M Q := by
  have e1 : gm_w 9 = 9 := by decide
  refine gm_sz (gm_p_load (pc := 0) (i := .aload_n 0) (sr := 2) (j := 0) (by decide +kernel) rfl rfl rfl) ?_
  refine gm_sz (gm_p_get (pc := 1) (ix := 13) (ci := 11) (j := 1) (by decide +kernel) hmo.1 hmo.2 (by decide +kernel)) ?_
  rw [if_pos (show gm_isr 11 1 = true by decide +kernel), r7]
  refine gm_sz (gm_p_const (pc := 4) (i := .bipush 9) (v := gm_vi 9) (by decide +kernel) (by decide +kernel)) ?_
  refine gm_sz (gm_p_iald (pc := 6) (by decide +kernel) h7.1.1 h7.1.2 (by rw [e1, h7.2]; omega)) ?_
  rw [e1]
  exact gm_r_int (pc := 7) (by decide +kernel) (Or.inl (by decide +kernel)) hq
theorem c272 {ix : Nat} {l k0 x : Int} (hmo : (1 ≤ 226 ∧ 226 ≤ n) ∧ (K 226).1 = 11 + 4) (h7 : ((1 ≤ 227 ∧ 227 ≤ n) ∧ (K 227).1 = 0) ∧ (K 227).2 = 2093) (r7 : R 226 ((1 : Nat) : Int) = 227) (hl : (0 ≤ l ∧ l < 24) ∧ 0 ≤ k0 ∧ k0 < 7) (h : gm_at mi pc = some (.invokevirtual ix)) (hc : gm_cal (gm_ow mi) ix = some (0, 272)) (hh : gm_hh mi = []) (hst : (st.map gm_cat).sum ≤ 8) (hd : 1 ≤ d) (k : gm_Wp X LX d bc bs mi (pc + 3) L (st) n K R (md_set M l k0 x) Q) : gm_Wp X LX d bc bs mi pc L (gm_vi x :: gm_vi k0 :: gm_vi l :: gm_vr 226 :: st) n K R M Q := gm_c_virt (k := 226) (ci := 11) (as := [gm_vi l, gm_vi k0, gm_vi x]) (st := st) (d' := 0) (bc' := 0) (bs' := 0) h hc (by decide +kernel) hh hmo.1 hmo.2 (by decide) (by decide +kernel) (show 3 = gm_na 272 by decide +kernel) (fun v hv => by
    rcases List.mem_cons.mp hv with rfl | hv
    · simp [gm_sort]
    rcases List.mem_cons.mp hv with rfl | hv
    · simp [gm_sort]
    rcases List.mem_cons.mp hv with rfl | hv
    · simp [gm_sort]
    cases hv) (show 3 + 1 ≤ gm_ml 272 by decide +kernel) hst hd (Nat.zero_le _) (Nat.zero_le _) (w272 hmo h7 r7 hl k)
theorem c254 {ix : Nat} (hmo : (1 ≤ 226 ∧ 226 ≤ n) ∧ (K 226).1 = 11 + 4) (h7 : ((1 ≤ 227 ∧ 227 ≤ n) ∧ (K 227).1 = 0) ∧ (K 227).2 = 2093) (r7 : R 226 ((1 : Nat) : Int) = 227) (h : gm_at mi pc = some (.invokevirtual ix)) (hc : gm_cal (gm_ow mi) ix = some (0, 254)) (hh : gm_hh mi = []) (hst : (st.map gm_cat).sum ≤ 8) (hd : 1 ≤ d) (k : gm_Wp X LX d bc bs mi (pc + 3) L (gm_vi (M 227 4) :: st) n K R M Q) : gm_Wp X LX d bc bs mi pc L (gm_vr 226 :: st) n K R M Q := gm_c_virt (k := 226) (ci := 11) (as := []) (st := st) (d' := 0) (bc' := 0) (bs' := 0) h hc (by decide +kernel) hh hmo.1 hmo.2 (by decide) (by decide +kernel) (show 0 = gm_na 254 by decide +kernel) (fun v hv => by
    cases hv) (show 0 + 1 ≤ gm_ml 254 by decide +kernel) hst hd (Nat.zero_le _) (Nat.zero_le _) (w254 hmo h7 r7 k)
theorem c266 {ix : Nat} (hmo : (1 ≤ 226 ∧ 226 ≤ n) ∧ (K 226).1 = 11 + 4) (h7 : ((1 ≤ 227 ∧ 227 ≤ n) ∧ (K 227).1 = 0) ∧ (K 227).2 = 2093) (r7 : R 226 ((1 : Nat) : Int) = 227) (h : gm_at mi pc = some (.invokevirtual ix)) (hc : gm_cal (gm_ow mi) ix = some (0, 266)) (hh : gm_hh mi = []) (hst : (st.map gm_cat).sum ≤ 8) (hd : 1 ≤ d) (k : gm_Wp X LX d bc bs mi (pc + 3) L (gm_vi (M 227 9) :: st) n K R M Q) : gm_Wp X LX d bc bs mi pc L (gm_vr 226 :: st) n K R M Q := gm_c_virt (k := 226) (ci := 11) (as := []) (st := st) (d' := 0) (bc' := 0) (bs' := 0) h hc (by decide +kernel) hh hmo.1 hmo.2 (by decide) (by decide +kernel) (show 0 = gm_na 266 by decide +kernel) (fun v hv => by
    cases hv) (show 0 + 1 ≤ gm_ml 266 by decide +kernel) hst hd (Nat.zero_le _) (Nat.zero_le _) (w266 hmo h7 r7 k)
/-- what is thrown in as number l0 -/
noncomputable def md_thr (M : gm_M) (l0 f t la ro : Int) : gm_M := gm_uM (md_set (md_set (md_set (md_set (md_set (md_set (md_set M l0 0 f) l0 1 t) l0 2 la) l0 3 (M 227 9)) l0 4 ro) l0 5 (-1)) l0 6 (-1)) 227 4 (l0 + 1)
theorem w271 {f t la ro : Int} (hmo : (1 ≤ 226 ∧ 226 ≤ n) ∧ (K 226).1 = 11 + 4) (h7 : ((1 ≤ 227 ∧ 227 ≤ n) ∧ (K 227).1 = 0) ∧ (K 227).2 = 2093) (r7 : R 226 ((1 : Nat) : Int) = 227) (hd : 1 ≤ d) (hlc : 0 ≤ M 227 4 ∧ M 227 4 < 24) (hq : Q (.inl none) n K R (md_thr M (M 227 4) f t la ro)) : gm_Wp X LX d bc bs 271 0 (gm_ent 271 [gm_vr 226, gm_vi f, gm_vi t, gm_vi la, gm_vi ro]) [] n K R M Q := by
  refine gm_sz (gm_p_load (pc := 0) (i := .aload_n 0) (sr := 2) (j := 0) (by decide +kernel) rfl rfl rfl) ?_
  refine c254 (pc := 1) (ix := 100) hmo h7 r7 (by decide +kernel) (by decide +kernel) (by decide +kernel) (Nat.le_of_ble_eq_true rfl) hd ?_
  refine gm_sz (gm_p_stor (pc := 4) (i := .istore 5) (sr := 0) (j := 5) (by decide +kernel) rfl (show 5 + 0 < 6 by decide) rfl) ?_
  change gm_Wp X LX d bc bs 271 6 [some (gm_vr 226), some (gm_vi f), some (gm_vi t), some (gm_vi la), some (gm_vi ro), some (gm_vi (M 227 4))] [] n K R M Q
  generalize hl0 : M 227 4 = l0 at *
  refine gm_sz (gm_p_load (pc := 6) (i := .aload_n 0) (sr := 2) (j := 0) (by decide +kernel) rfl rfl rfl) ?_
  refine gm_sz (gm_p_load (pc := 7) (i := .iload 5) (sr := 0) (j := 5) (by decide +kernel) rfl rfl rfl) ?_
  refine gm_sz (gm_p_const (pc := 9) (i := .iconst 0) (v := gm_vi 0) (by decide +kernel) (by decide +kernel)) ?_
  refine gm_sz (gm_p_load (pc := 10) (i := .iload_n 1) (sr := 0) (j := 1) (by decide +kernel) rfl rfl rfl) ?_
  refine c272 (pc := 11) (ix := 173) hmo h7 r7 (by omega) (by decide +kernel) (by decide +kernel) (by decide +kernel) (Nat.le_of_ble_eq_true rfl) hd ?_
  refine gm_sz (gm_p_load (pc := 14) (i := .aload_n 0) (sr := 2) (j := 0) (by decide +kernel) rfl rfl rfl) ?_
  refine gm_sz (gm_p_load (pc := 15) (i := .iload 5) (sr := 0) (j := 5) (by decide +kernel) rfl rfl rfl) ?_
  refine gm_sz (gm_p_const (pc := 17) (i := .iconst 1) (v := gm_vi 1) (by decide +kernel) (by decide +kernel)) ?_
  refine gm_sz (gm_p_load (pc := 18) (i := .iload_n 2) (sr := 0) (j := 2) (by decide +kernel) rfl rfl rfl) ?_
  refine c272 (pc := 19) (ix := 173) hmo h7 r7 (by omega) (by decide +kernel) (by decide +kernel) (by decide +kernel) (Nat.le_of_ble_eq_true rfl) hd ?_
  refine gm_sz (gm_p_load (pc := 22) (i := .aload_n 0) (sr := 2) (j := 0) (by decide +kernel) rfl rfl rfl) ?_
  refine gm_sz (gm_p_load (pc := 23) (i := .iload 5) (sr := 0) (j := 5) (by decide +kernel) rfl rfl rfl) ?_
  refine gm_sz (gm_p_const (pc := 25) (i := .iconst 2) (v := gm_vi 2) (by decide +kernel) (by decide +kernel)) ?_
  refine gm_sz (gm_p_load (pc := 26) (i := .iload_n 3) (sr := 0) (j := 3) (by decide +kernel) rfl rfl rfl) ?_
  refine c272 (pc := 27) (ix := 173) hmo h7 r7 (by omega) (by decide +kernel) (by decide +kernel) (by decide +kernel) (Nat.le_of_ble_eq_true rfl) hd ?_
  refine gm_sz (gm_p_load (pc := 30) (i := .aload_n 0) (sr := 2) (j := 0) (by decide +kernel) rfl rfl rfl) ?_
  refine gm_sz (gm_p_load (pc := 31) (i := .iload 5) (sr := 0) (j := 5) (by decide +kernel) rfl rfl rfl) ?_
  refine gm_sz (gm_p_const (pc := 33) (i := .iconst 3) (v := gm_vi 3) (by decide +kernel) (by decide +kernel)) ?_
  refine gm_sz (gm_p_load (pc := 34) (i := .aload_n 0) (sr := 2) (j := 0) (by decide +kernel) rfl rfl rfl) ?_
  refine c266 (pc := 35) (ix := 162) hmo h7 r7 (by decide +kernel) (by decide +kernel) (by decide +kernel) (Nat.le_of_ble_eq_true rfl) hd ?_
  rw [show md_set (md_set (md_set M l0 0 f) l0 1 t) l0 2 la 227 9 = M 227 9 by rw [md_set_lo (by omega) (by decide), md_set_lo (by omega) (by decide), md_set_lo (by omega) (by decide)]]
  refine c272 (pc := 38) (ix := 173) hmo h7 r7 (by omega) (by decide +kernel) (by decide +kernel) (by decide +kernel) (Nat.le_of_ble_eq_true rfl) hd ?_
  refine gm_sz (gm_p_load (pc := 41) (i := .aload_n 0) (sr := 2) (j := 0) (by decide +kernel) rfl rfl rfl) ?_
  refine gm_sz (gm_p_load (pc := 42) (i := .iload 5) (sr := 0) (j := 5) (by decide +kernel) rfl rfl rfl) ?_
  refine gm_sz (gm_p_const (pc := 44) (i := .iconst 4) (v := gm_vi 4) (by decide +kernel) (by decide +kernel)) ?_
  refine gm_sz (gm_p_load (pc := 45) (i := .iload 4) (sr := 0) (j := 4) (by decide +kernel) rfl rfl rfl) ?_
  refine c272 (pc := 47) (ix := 173) hmo h7 r7 (by omega) (by decide +kernel) (by decide +kernel) (by decide +kernel) (Nat.le_of_ble_eq_true rfl) hd ?_
  refine gm_sz (gm_p_load (pc := 50) (i := .aload_n 0) (sr := 2) (j := 0) (by decide +kernel) rfl rfl rfl) ?_
  refine gm_sz (gm_p_load (pc := 51) (i := .iload 5) (sr := 0) (j := 5) (by decide +kernel) rfl rfl rfl) ?_
  refine gm_sz (gm_p_const (pc := 53) (i := .iconst 5) (v := gm_vi 5) (by decide +kernel) (by decide +kernel)) ?_
  refine gm_sz (gm_p_const (pc := 54) (i := .iconst (-1)) (v := gm_vi (-1)) (by decide +kernel) (by decide +kernel)) ?_
  refine c272 (pc := 55) (ix := 173) hmo h7 r7 (by omega) (by decide +kernel) (by decide +kernel) (by decide +kernel) (Nat.le_of_ble_eq_true rfl) hd ?_
  refine gm_sz (gm_p_load (pc := 58) (i := .aload_n 0) (sr := 2) (j := 0) (by decide +kernel) rfl rfl rfl) ?_
  refine gm_sz (gm_p_load (pc := 59) (i := .iload 5) (sr := 0) (j := 5) (by decide +kernel) rfl rfl rfl) ?_
  refine gm_sz (gm_p_const (pc := 61) (i := .bipush 6) (v := gm_vi 6) (by decide +kernel) (by decide +kernel)) ?_
  refine gm_sz (gm_p_const (pc := 63) (i := .iconst (-1)) (v := gm_vi (-1)) (by decide +kernel) (by decide +kernel)) ?_
  refine c272 (pc := 64) (ix := 173) hmo h7 r7 (by omega) (by decide +kernel) (by decide +kernel) (by decide +kernel) (Nat.le_of_ble_eq_true rfl) hd ?_
  refine gm_sz (gm_p_load (pc := 67) (i := .aload_n 0) (sr := 2) (j := 0) (by decide +kernel) rfl rfl rfl) ?_
  refine gm_sz (gm_p_get (pc := 68) (ix := 13) (ci := 11) (j := 1) (by decide +kernel) hmo.1 hmo.2 (by decide +kernel)) ?_
  rw [if_pos (show gm_isr 11 1 = true by decide +kernel), r7]
  refine gm_sz (gm_p_const (pc := 71) (i := .iconst 4) (v := gm_vi 4) (by decide +kernel) (by decide +kernel)) ?_
  refine gm_sz (gm_p_dup2 (pc := 72) (by decide +kernel) (by simp [gm_sort]) (by simp [gm_sort])) ?_
  have e4 : gm_w 4 = 4 := by decide
  refine gm_sz (gm_p_iald (pc := 73) (by decide +kernel) h7.1.1 h7.1.2 (by rw [e4, h7.2]; omega)) ?_
  rw [e4]
  rw [show md_set (md_set (md_set (md_set (md_set (md_set (md_set M l0 0 f) l0 1 t) l0 2 la) l0 3 (M 227 9)) l0 4 ro) l0 5 (-1)) l0 6 (-1) 227 4 = l0 by rw [md_set_lo (by omega) (by decide), md_set_lo (by omega) (by decide), md_set_lo (by omega) (by decide), md_set_lo (by omega) (by decide), md_set_lo (by omega) (by decide), md_set_lo (by omega) (by decide), md_set_lo (by omega) (by decide), hl0]]
  refine gm_sz (gm_p_const (pc := 74) (i := .iconst 1) (v := gm_vi 1) (by decide +kernel) (by decide +kernel)) ?_
  refine gm_sz (gm_p_bin (pc := 75) (i := .iadd) (f := fun x y => x + y) (by decide +kernel) rfl) ?_
  refine gm_sz (gm_p_iast (pc := 76) (by decide +kernel) h7.1.1 h7.1.2 (by rw [e4, h7.2]; omega)) ?_
  rw [e4]
  exact gm_r_void (pc := 77) (by decide +kernel) (by decide +kernel) hq
/-- letter l is opened by p as the o-th -/
noncomputable def md_opn (M : gm_M) (o l p : Int) : gm_M := gm_uM (gm_uM (gm_uM (gm_uM (md_set (md_set M l 5 p) l 6 (M 227 9)) 227 (323 + 3 * o) (M 227 9)) 227 (323 + 3 * o + 1) l) 227 (323 + 3 * o + 2) p) 227 14 (o + 1)
theorem w319 {l p : Int} (hmo : (1 ≤ 226 ∧ 226 ≤ n) ∧ (K 226).1 = 11 + 4) (h7 : ((1 ≤ 227 ∧ 227 ≤ n) ∧ (K 227).1 = 0) ∧ (K 227).2 = 2093) (r7 : R 226 ((1 : Nat) : Int) = 227) (hd : 1 ≤ d) (hl : 0 ≤ l ∧ l < 24) (hlo : 0 ≤ M 227 14 ∧ M 227 14 < 24) (hq : Q (.inl none) n K R (md_opn M (M 227 14) l p)) : gm_Wp X LX d bc bs 319 0 (gm_ent 319 [gm_vr 226, gm_vi l, gm_vi p]) [] n K R M Q := by
  have e14 : gm_w 14 = 14 := by decide
  refine gm_sz (gm_p_load (pc := 0) (i := .aload_n 0) (sr := 2) (j := 0) (by decide +kernel) rfl rfl rfl) ?_
  refine gm_sz (gm_p_load (pc := 1) (i := .iload_n 1) (sr := 0) (j := 1) (by decide +kernel) rfl rfl rfl) ?_
  refine gm_sz (gm_p_const (pc := 2) (i := .iconst 5) (v := gm_vi 5) (by decide +kernel) (by decide +kernel)) ?_
  refine gm_sz (gm_p_load (pc := 3) (i := .iload_n 2) (sr := 0) (j := 2) (by decide +kernel) rfl rfl rfl) ?_
  refine c272 (pc := 4) (ix := 173) hmo h7 r7 (by omega) (by decide +kernel) (by decide +kernel) (by decide +kernel) (Nat.le_of_ble_eq_true rfl) hd ?_
  refine gm_sz (gm_p_load (pc := 7) (i := .aload_n 0) (sr := 2) (j := 0) (by decide +kernel) rfl rfl rfl) ?_
  refine gm_sz (gm_p_load (pc := 8) (i := .iload_n 1) (sr := 0) (j := 1) (by decide +kernel) rfl rfl rfl) ?_
  refine gm_sz (gm_p_const (pc := 9) (i := .bipush 6) (v := gm_vi 6) (by decide +kernel) (by decide +kernel)) ?_
  refine gm_sz (gm_p_load (pc := 11) (i := .aload_n 0) (sr := 2) (j := 0) (by decide +kernel) rfl rfl rfl) ?_
  refine c266 (pc := 12) (ix := 162) hmo h7 r7 (by decide +kernel) (by decide +kernel) (by decide +kernel) (Nat.le_of_ble_eq_true rfl) hd ?_
  rw [show md_set M l 5 p 227 9 = M 227 9 from md_set_lo (by omega) (by decide)]
  refine c272 (pc := 15) (ix := 173) hmo h7 r7 (by omega) (by decide +kernel) (by decide +kernel) (by decide +kernel) (Nat.le_of_ble_eq_true rfl) hd ?_
  generalize hM2 : md_set (md_set M l 5 p) l 6 (M 227 9) = M2
  have h9 : M2 227 9 = M 227 9 := by rw [← hM2, md_set_lo (by omega) (by decide), md_set_lo (by omega) (by decide)]
  have h14 : M2 227 14 = M 227 14 := by rw [← hM2, md_set_lo (by omega) (by decide), md_set_lo (by omega) (by decide)]
  refine gm_sz (gm_p_const (pc := 18) (i := .sipush 323) (v := gm_vi 323) (by decide +kernel) (by decide +kernel)) ?_
  refine gm_sz (gm_p_const (pc := 21) (i := .iconst 3) (v := gm_vi 3) (by decide +kernel) (by decide +kernel)) ?_
  refine gm_sz (gm_p_load (pc := 22) (i := .aload_n 0) (sr := 2) (j := 0) (by decide +kernel) rfl rfl rfl) ?_
  refine gm_sz (gm_p_get (pc := 23) (ix := 13) (ci := 11) (j := 1) (by decide +kernel) hmo.1 hmo.2 (by decide +kernel)) ?_
  rw [if_pos (show gm_isr 11 1 = true by decide +kernel), r7]
  refine gm_sz (gm_p_const (pc := 26) (i := .bipush 14) (v := gm_vi 14) (by decide +kernel) (by decide +kernel)) ?_
  refine gm_sz (gm_p_iald (pc := 28) (by decide +kernel) h7.1.1 h7.1.2 (by rw [e14, h7.2]; omega)) ?_
  rw [e14]
  rw [h14]
  refine gm_sz (gm_p_bin (pc := 29) (i := .imul) (f := fun x y => x * y) (by decide +kernel) rfl) ?_
  refine gm_sz (gm_p_bin (pc := 30) (i := .iadd) (f := fun x y => x + y) (by decide +kernel) rfl) ?_
  refine gm_sz (gm_p_stor (pc := 31) (i := .istore_n 3) (sr := 0) (j := 3) (by decide +kernel) rfl (show 3 + 0 < 4 by decide) rfl) ?_
  change gm_Wp X LX d bc bs 319 32 [some (gm_vr 226), some (gm_vi l), some (gm_vi p), some (gm_vi (323 + 3 * M 227 14))] [] n K R M2 Q
  generalize ho : M 227 14 = o at *
  have w0 : gm_w (323 + 3 * o) = 323 + 3 * o := w2 (by omega)
  have w1 : gm_w (323 + 3 * o + 1) = 323 + 3 * o + 1 := w2 (by omega)
  have w3 : gm_w (323 + 3 * o + 2) = 323 + 3 * o + 2 := w2 (by omega)
  refine gm_sz (gm_p_load (pc := 32) (i := .aload_n 0) (sr := 2) (j := 0) (by decide +kernel) rfl rfl rfl) ?_
  refine gm_sz (gm_p_get (pc := 33) (ix := 13) (ci := 11) (j := 1) (by decide +kernel) hmo.1 hmo.2 (by decide +kernel)) ?_
  rw [if_pos (show gm_isr 11 1 = true by decide +kernel), r7]
  refine gm_sz (gm_p_load (pc := 36) (i := .iload_n 3) (sr := 0) (j := 3) (by decide +kernel) rfl rfl rfl) ?_
  refine gm_sz (gm_p_load (pc := 37) (i := .aload_n 0) (sr := 2) (j := 0) (by decide +kernel) rfl rfl rfl) ?_
  refine c266 (pc := 38) (ix := 162) hmo h7 r7 (by decide +kernel) (by decide +kernel) (by decide +kernel) (Nat.le_of_ble_eq_true rfl) hd ?_
  rw [h9]
  refine gm_sz (gm_p_iast (pc := 41) (by decide +kernel) h7.1.1 h7.1.2 (by rw [w0, h7.2]; omega)) ?_
  rw [w0]
  refine gm_sz (gm_p_load (pc := 42) (i := .aload_n 0) (sr := 2) (j := 0) (by decide +kernel) rfl rfl rfl) ?_
  refine gm_sz (gm_p_get (pc := 43) (ix := 13) (ci := 11) (j := 1) (by decide +kernel) hmo.1 hmo.2 (by decide +kernel)) ?_
  rw [if_pos (show gm_isr 11 1 = true by decide +kernel), r7]
  refine gm_sz (gm_p_load (pc := 46) (i := .iload_n 3) (sr := 0) (j := 3) (by decide +kernel) rfl rfl rfl) ?_
  refine gm_sz (gm_p_const (pc := 47) (i := .iconst 1) (v := gm_vi 1) (by decide +kernel) (by decide +kernel)) ?_
  refine gm_sz (gm_p_bin (pc := 48) (i := .iadd) (f := fun x y => x + y) (by decide +kernel) rfl) ?_
  refine gm_sz (gm_p_load (pc := 49) (i := .iload_n 1) (sr := 0) (j := 1) (by decide +kernel) rfl rfl rfl) ?_
  refine gm_sz (gm_p_iast (pc := 50) (by decide +kernel) h7.1.1 h7.1.2 (by rw [w1, h7.2]; omega)) ?_
  rw [w1]
  refine gm_sz (gm_p_load (pc := 51) (i := .aload_n 0) (sr := 2) (j := 0) (by decide +kernel) rfl rfl rfl) ?_
  refine gm_sz (gm_p_get (pc := 52) (ix := 13) (ci := 11) (j := 1) (by decide +kernel) hmo.1 hmo.2 (by decide +kernel)) ?_
  rw [if_pos (show gm_isr 11 1 = true by decide +kernel), r7]
  refine gm_sz (gm_p_load (pc := 55) (i := .iload_n 3) (sr := 0) (j := 3) (by decide +kernel) rfl rfl rfl) ?_
  refine gm_sz (gm_p_const (pc := 56) (i := .iconst 2) (v := gm_vi 2) (by decide +kernel) (by decide +kernel)) ?_
  refine gm_sz (gm_p_bin (pc := 57) (i := .iadd) (f := fun x y => x + y) (by decide +kernel) rfl) ?_
  refine gm_sz (gm_p_load (pc := 58) (i := .iload_n 2) (sr := 0) (j := 2) (by decide +kernel) rfl rfl rfl) ?_
  refine gm_sz (gm_p_iast (pc := 59) (by decide +kernel) h7.1.1 h7.1.2 (by rw [w3, h7.2]; omega)) ?_
  rw [w3]
  refine gm_sz (gm_p_load (pc := 60) (i := .aload_n 0) (sr := 2) (j := 0) (by decide +kernel) rfl rfl rfl) ?_
  refine gm_sz (gm_p_get (pc := 61) (ix := 13) (ci := 11) (j := 1) (by decide +kernel) hmo.1 hmo.2 (by decide +kernel)) ?_
  rw [if_pos (show gm_isr 11 1 = true by decide +kernel), r7]
  refine gm_sz (gm_p_const (pc := 64) (i := .bipush 14) (v := gm_vi 14) (by decide +kernel) (by decide +kernel)) ?_
  refine gm_sz (gm_p_dup2 (pc := 66) (by decide +kernel) (by simp [gm_sort]) (by simp [gm_sort])) ?_
  refine gm_sz (gm_p_iald (pc := 67) (by decide +kernel) h7.1.1 h7.1.2 (by rw [e14, h7.2]; omega)) ?_
  rw [e14]
  rw [show gm_uM (gm_uM (gm_uM M2 227 (323 + 3 * o) (M 227 9)) 227 (323 + 3 * o + 1) l) 227 (323 + 3 * o + 2) p 227 14 = o by rw [uM_ne (by omega), uM_ne (by omega), uM_ne (by omega), h14]]
  refine gm_sz (gm_p_const (pc := 68) (i := .iconst 1) (v := gm_vi 1) (by decide +kernel) (by decide +kernel)) ?_
  refine gm_sz (gm_p_bin (pc := 69) (i := .iadd) (f := fun x y => x + y) (by decide +kernel) rfl) ?_
  refine gm_sz (gm_p_iast (pc := 70) (by decide +kernel) h7.1.1 h7.1.2 (by rw [e14, h7.2]; omega)) ?_
  rw [e14]
  subst hM2
  exact gm_r_void (pc := 71) (by decide +kernel) (by decide +kernel) hq
end HS
end
/-! 46.op -/
section
/-! WHAT IS THROWN IN, WHAT IS OPENED: what is said of these two. -/
noncomputable def gm_Ft (O : gm_Or) (n : Nat) (M : gm_M) : Prop := ∀ k r, r ∈ O.2.2.ty k → k ≤ n ∧ ∀ j, r.1 ≤ j → j ≤ r.2.1 → (-2147483648 ≤ M k j ∧ M k j < 2147483648) ∧ r.2.2.1 ≤ M k j ∧ M k j ≤ r.2.2.2
theorem gm_Ft_M {O : gm_Or} {n : Nat} {M : gm_M} {k : Nat} {j v a b : Int} (hF : gm_Ft O n M) (h : gm_tyv O k j j a b = true) (h3 : a ≤ v) (h4 : v ≤ b) : gm_Ft O n (gm_uM M k j v) := by
  intro c r hr
  obtain ⟨g1, g2⟩ := hF c r hr
  refine ⟨g1, fun i h5 h6 => ?_⟩
  unfold gm_uM
  split
  · rename_i e
    obtain ⟨rfl, rfl⟩ := e
    have h7 := List.all_eq_true.mp (gm_tyv_def.symm.trans h) r hr
    simp only [Bool.or_eq_true, Bool.and_eq_true, decide_eq_true_eq] at h7
    rcases h7 with h7 | h7 | ⟨h7, h8, h9, h10⟩
    · omega
    · omega
    · exact ⟨⟨by omega, by omega⟩, by omega, by omega⟩
  · exact g2 i h5 h6
section OP
variable {X : Int → Int} {LX : Nat} {n : Nat} {K : gm_K} {R : gm_R} {M : gm_M}
theorem op_t4 : gm_tyr p2_O 227 4 4 = some (0, 24) := by decide +kernel
theorem op_t9 : gm_tyr p2_O 227 9 9 = some (0, 299) := by decide +kernel
theorem op_t14 : gm_tyr p2_O 227 14 14 = some (0, 24) := by decide +kernel
theorem md_thr_f {l f t la ro : Int} {c : Nat} (h : ¬ c = 227) : md_thr M l f t la ro c = M c := by
  unfold md_thr md_set
  rw [uM_f h, uM_f h, uM_f h, uM_f h, uM_f h, uM_f h, uM_f h, uM_f h]
theorem md_thr_ne {l f t la ro j : Int} (h4 : ¬ j = 4) (h : ¬ (119 + 7 * l ≤ j ∧ j ≤ 125 + 7 * l)) : md_thr M l f t la ro 227 j = M 227 j := by
  unfold md_thr md_set
  rw [uM_ne (by omega), uM_ne (by omega), uM_ne (by omega), uM_ne (by omega), uM_ne (by omega), uM_ne (by omega), uM_ne (by omega), uM_ne (by omega)]
theorem md_thr_4 {l f t la ro : Int} : md_thr M l f t la ro 227 4 = l + 1 := by
  unfold md_thr
  rw [uM_at]
theorem md_thr_0 {l f t la ro : Int} (hl : 0 ≤ l) : md_thr M l f t la ro 227 (119 + 7 * l) = f := by
  unfold md_thr md_set
  rw [uM_ne (by omega), uM_ne (by omega), uM_ne (by omega), uM_ne (by omega), uM_ne (by omega), uM_ne (by omega), uM_ne (by omega)]
  unfold gm_uM
  rw [if_pos ⟨rfl, by omega⟩]
theorem md_thr_1 {l f t la ro : Int} (hl : 0 ≤ l) : md_thr M l f t la ro 227 (120 + 7 * l) = t := by
  unfold md_thr md_set
  rw [uM_ne (by omega), uM_ne (by omega), uM_ne (by omega), uM_ne (by omega), uM_ne (by omega), uM_ne (by omega)]
  unfold gm_uM
  rw [if_pos ⟨rfl, by omega⟩]
noncomputable def op_ck (f0 f1 t0 t1 a0 a1 r0 r1 : Int) : Bool := ((List.range 24).all fun (l : Nat) => gm_tyv p2_O 227 (119 + 7 * (l : Int) + 0) (119 + 7 * (l : Int) + 0) f0 f1 && (gm_tyv p2_O 227 (119 + 7 * (l : Int) + 1) (119 + 7 * (l : Int) + 1) t0 t1 && (gm_tyv p2_O 227 (119 + 7 * (l : Int) + 2) (119 + 7 * (l : Int) + 2) a0 a1 && (gm_tyv p2_O 227 (119 + 7 * (l : Int) + 3) (119 + 7 * (l : Int) + 3) 0 299 && (gm_tyv p2_O 227 (119 + 7 * (l : Int) + 4) (119 + 7 * (l : Int) + 4) r0 r1 && (gm_tyv p2_O 227 (119 + 7 * (l : Int) + 5) (119 + 7 * (l : Int) + 5) (-1) (-1) && gm_tyv p2_O 227 (119 + 7 * (l : Int) + 6) (119 + 7 * (l : Int) + 6) (-1) (-1))))))) && gm_tyv p2_O 227 4 4 1 24
noncomputable def op_ts (f0 f1 t0 t1 a0 a1 r0 r1 : Int) : ck_Sum := ((1, 0, 0), 245, [.inr (.inr (.inl 226)), .inl (f0, f1, []), .inl (t0, t1, []), .inl (a0, a1, []), .inl (r0, r1, [])], ([], [], [(227, 4, 4, (0, 23, [(22, 0)])), (227, 9, 9, (0, 299, [(11, 0)]))]), ([(227, 4, 4), (227, 119, 286)], []), [(.inr none, 245, ([], [], [(227, 4, 4, (1, 24, [(22, 1)]))]))])
theorem op_throw {f0 f1 t0 t1 a0 a1 r0 r1 : Int} (hc : op_ck f0 f1 t0 t1 a0 a1 r0 r1 = true) (hb : 0 ≤ t0 ∨ f1 < 0) : ck_Ok p2_O X LX 271 (op_ts f0 f1 t0 t1 a0 a1 r0 r1) := by
  intro d σ vs n K R M hd hn hvs hnm hF hf
  obtain ⟨_, _, rfl, rfl, _, _, rfl, ⟨f, rfl, -, u1, u2, -⟩, _, _, rfl, ⟨t, rfl, -, u3, u4, -⟩, _, _, rfl, ⟨la, rfl, -, u5, u6, -⟩, _, _, rfl, ⟨ro, rfl, -, u7, u8, -⟩, rfl⟩ := hvs
  have u1 : f0 ≤ f := u1
  have u2 : f ≤ f1 := u2
  have u3 : t0 ≤ t := u3
  have u4 : t ≤ t1 := u4
  have u5 : a0 ≤ la := u5
  have u6 : la ≤ a1 := u6
  have u7 : r0 ≤ ro := u7
  have u8 : ro ≤ r1 := u8
  have hn : n = 245 := hn
  subst hn
  have h4 := (hf.2.2 (227, 4, 4, (0, 23, [(22, 0)])) List.mem_cons_self).2 4 (Int.le_refl _) (Int.le_refl _)
  have h41 : (0 : Int) ≤ M 227 4 := h4.2.1
  have h42 : M 227 4 ≤ (23 : Int) := h4.2.2.1
  have h9 := ((gm_tyr_s hF op_t9).2 9 (Int.le_refl _) (Int.le_refl _)).2
  have h91 : (0 : Int) ≤ M 227 9 := h9.1
  have h92 : M 227 9 ≤ (299 : Int) := h9.2
  have h22 : σ 22 = M 227 4 := hnm (22, 227, 4) (by decide +kernel)
  refine w271 (md_mo hF) (md_kd hF md_o.1.2) (md_rf hF md_r.1.1) hd ⟨h41, by omega⟩ ?_
  obtain ⟨l0, hl0⟩ : ∃ l0 : Nat, M 227 4 = (l0 : Int) := ⟨(M 227 4).toNat, by omega⟩
  rw [hl0]
  rw [hl0] at h41 h42 h22
  unfold op_ck at hc
  rw [Bool.and_eq_true] at hc
  have hl := List.all_eq_true.mp hc.1 l0 (List.mem_range.mpr (by omega))
  simp only [Bool.and_eq_true] at hl
  obtain ⟨c0, c1, c2, c3, c4, c5, c6⟩ := hl
  have w0 : ck_okW ([(227, 4, 4), (227, 119, 286)] : List (Nat × Int × Int)) 245 227 119 286 = true := by decide
  have w4 : ck_okW ([(227, 4, 4), (227, 119, 286)] : List (Nat × Int × Int)) 245 227 4 4 = true := by decide
  refine ⟨⟨hF.1, hF.2.1, ?_, hF.2.2.2.1, ?_⟩, ?_, _, List.mem_cons_self, trivial, rfl, ⟨(fun _ h => nomatch h), (fun _ h => nomatch h), fun q hq => ?_⟩⟩
  · exact gm_Ft_M (gm_Ft_M (gm_Ft_M (gm_Ft_M (gm_Ft_M (gm_Ft_M (gm_Ft_M (gm_Ft_M hF.2.2.1 c0 u1 u2) c1 u3 u4) c2 u5 u6) c3 h91 h92) c4 u7 u8) c5 (Int.le_refl _) (Int.le_refl _)) c6 (Int.le_refl _) (Int.le_refl _)) hc.2 (by omega) (by omega)
  · have hJ : j_J p2_ty K M := hF.2.2.2.2
    obtain ⟨⟨o7, o8, o9, oA⟩, tA, t7, t8, t9⟩ := hJ
    show j_J p2_ty K _
    unfold j_J
    rw [md_thr_f (by decide : ¬ 228 = 227), md_thr_f (by decide : ¬ 229 = 227), md_thr_f (by decide : ¬ 230 = 227)]
    refine ⟨⟨jO_throw (l0 := l0) o7 (by rw [md_thr_4, hl0]) (md_thr_ne (by omega) (by omega)) (fun l hl hne => ⟨md_thr_ne (by omega) (by omega), md_thr_ne (by omega) (by omega), md_thr_ne (by omega) (by omega)⟩) (fun h => ?_), o8, o9, oA⟩, tA, jT_cg (fun j j1 j2 => md_thr_ne (by omega) (by omega)) t7, t8, t9⟩
    rw [md_thr_0 (by omega)] at h
    rw [md_thr_1 (by omega)]
    omega
  · exact ck_fr_M (ck_fr_M (ck_fr_M (ck_fr_M (ck_fr_M (ck_fr_M (ck_fr_M (ck_fr_M ck_fr_0 w0 (by omega) (by omega)) w0 (by omega) (by omega)) w0 (by omega) (by omega)) w0 (by omega) (by omega)) w0 (by omega) (by omega)) w0 (by omega) (by omega)) w0 (by omega) (by omega)) w4 (by omega) (by omega)
  · rw [List.mem_singleton.mp hq]
    refine ⟨by decide, fun j j1 j2 => ?_⟩
    have j1 : (4 : Int) ≤ j := j1
    have j2 : j ≤ (4 : Int) := j2
    have j3 : j = 4 := by omega
    subst j3
    show gm_ir (md_thr M l0 f t la ro 227 4) ∧ ck_gi σ (1, 24, [(22, 1)]) (md_thr M l0 f t la ro 227 4)
    rw [md_thr_4]
    refine ⟨⟨by omega, by omega⟩, by show (1 : Int) ≤ _; omega, by show _ ≤ (24 : Int); omega, fun q hq => ?_⟩
    rw [List.mem_singleton.mp hq]
    exact ⟨fun _ => by rw [h22], fun h => absurd h (by decide)⟩
theorem md_opn_f {o l p : Int} {c : Nat} (h : ¬ c = 227) : md_opn M o l p c = M c := by
  unfold md_opn md_set
  rw [uM_f h, uM_f h, uM_f h, uM_f h, uM_f h, uM_f h]
theorem md_opn_ne {o l p j : Int} (h4 : ¬ j = 14) (h : ¬ (124 + 7 * l ≤ j ∧ j ≤ 125 + 7 * l)) (h5 : ¬ (323 + 3 * o ≤ j ∧ j ≤ 325 + 3 * o)) : md_opn M o l p 227 j = M 227 j := by
  unfold md_opn md_set
  rw [uM_ne (by omega), uM_ne (by omega), uM_ne (by omega), uM_ne (by omega), uM_ne (by omega), uM_ne (by omega)]
theorem md_opn_14 {o l p : Int} : md_opn M o l p 227 14 = o + 1 := by
  unfold md_opn
  rw [uM_at]
theorem md_opn_5 {o l p : Int} (hl : 0 ≤ l ∧ l < 24) (ho : 0 ≤ o) : md_opn M o l p 227 (124 + 7 * l) = p := by
  unfold md_opn md_set
  rw [uM_ne (by omega), uM_ne (by omega), uM_ne (by omega), uM_ne (by omega), uM_ne (by omega)]
  unfold gm_uM
  rw [if_pos ⟨rfl, by omega⟩]
noncomputable def op_ck2 (l : Nat) (p0 p1 : Int) : Bool := (gm_tyv p2_O 227 (119 + 7 * (l : Int) + 5) (119 + 7 * (l : Int) + 5) p0 p1 && (gm_tyv p2_O 227 (119 + 7 * (l : Int) + 6) (119 + 7 * (l : Int) + 6) 0 299 && gm_tyv p2_O 227 14 14 1 24)) && ((List.range 24).all fun (o : Nat) => gm_tyv p2_O 227 (323 + 3 * (o : Int)) (323 + 3 * (o : Int)) 0 299 && (gm_tyv p2_O 227 (323 + 3 * (o : Int) + 1) (323 + 3 * (o : Int) + 1) l l && gm_tyv p2_O 227 (323 + 3 * (o : Int) + 2) (323 + 3 * (o : Int) + 2) p0 p1))
noncomputable def op_os (l : Nat) (p0 p1 : Int) : ck_Sum := ((3, 0, 0), 245, [.inr (.inr (.inl 226)), .inl (ck_one l), .inl (p0, p1, [])], ([], [], [(227, 124 + 7 * (l : Int), 124 + 7 * (l : Int), ck_one (-1))]), ([(227, 14, 14), (227, 124 + 7 * (l : Int), 125 + 7 * (l : Int)), (227, 323, 394)], []), [(.inr none, 245, ([], [], [(227, 124 + 7 * (l : Int), 124 + 7 * (l : Int), (p0, p1, []))]))])
theorem op_open {l : Nat} {p0 p1 : Int} (hl : l < 24) (hp : 0 ≤ p0) (hc : op_ck2 l p0 p1 = true) : ck_Ok p2_O X LX 319 (op_os l p0 p1) := by
  intro d σ vs n K R M hd hn hvs hnm hF hf
  obtain ⟨_, _, rfl, rfl, _, _, rfl, ⟨f, rfl, -, u1, u2, -⟩, _, _, rfl, ⟨p, rfl, u9, u3, u4, -⟩, rfl⟩ := hvs
  have u1 : (l : Int) ≤ f := u1
  have u2 : f ≤ (l : Int) := u2
  have u3 : p0 ≤ p := u3
  have u4 : p ≤ p1 := u4
  have u5 : f = (l : Int) := by omega
  subst u5
  have hn : n = 245 := hn
  subst hn
  have hd : 3 ≤ d := hd
  have h5 := (hf.2.2 (227, 124 + 7 * (l : Int), 124 + 7 * (l : Int), ck_one (-1)) List.mem_cons_self).2 (124 + 7 * (l : Int)) (Int.le_refl _) (Int.le_refl _)
  have h51 : (-1 : Int) ≤ M 227 (124 + 7 * (l : Int)) := h5.2.1
  have h52 : M 227 (124 + 7 * (l : Int)) ≤ (-1 : Int) := h5.2.2.1
  have h9 := ((gm_tyr_s hF op_t9).2 9 (Int.le_refl _) (Int.le_refl _)).2
  have h91 : (0 : Int) ≤ M 227 9 := h9.1
  have h92 : M 227 9 ≤ (299 : Int) := h9.2
  have h4 := ((gm_tyr_s hF op_t4).2 4 (Int.le_refl _) (Int.le_refl _)).2
  have h42 : M 227 4 ≤ (24 : Int) := h4.2
  have h14 := ((gm_tyr_s hF op_t14).2 14 (Int.le_refl _) (Int.le_refl _)).2
  have h141 : (0 : Int) ≤ M 227 14 := h14.1
  have hJ : j_J p2_ty K M := hF.2.2.2.2
  obtain ⟨⟨o7, o8, o9, oA⟩, tA, t7, t8, t9⟩ := hJ
  have hlt := jO_lt (f := M 227) hl o7 (by omega)
  refine w319 (md_mo hF) (md_kd hF md_o.1.2) (md_rf hF md_r.1.1) (by omega) ⟨by omega, by omega⟩ ⟨h141, by omega⟩ ?_
  obtain ⟨o, ho⟩ : ∃ o : Nat, M 227 14 = (o : Int) := ⟨(M 227 14).toNat, by omega⟩
  rw [ho]
  rw [ho] at h141 hlt
  unfold op_ck2 at hc
  simp only [Bool.and_eq_true] at hc
  obtain ⟨⟨c5, c6, c14⟩, hc⟩ := hc
  have hol := List.all_eq_true.mp hc o (List.mem_range.mpr (by omega))
  simp only [Bool.and_eq_true] at hol
  obtain ⟨c0, c1, c2⟩ := hol
  have w0 : ck_okW ([(227, 14, 14), (227, 124 + 7 * (l : Int), 125 + 7 * (l : Int)), (227, 323, 394)] : List (Nat × Int × Int)) 245 227 (124 + 7 * (l : Int)) (125 + 7 * (l : Int)) = true := by simp [ck_okW_def]
  have w3 : ck_okW ([(227, 14, 14), (227, 124 + 7 * (l : Int), 125 + 7 * (l : Int)), (227, 323, 394)] : List (Nat × Int × Int)) 245 227 323 394 = true := by simp [ck_okW_def]
  have w4 : ck_okW ([(227, 14, 14), (227, 124 + 7 * (l : Int), 125 + 7 * (l : Int)), (227, 323, 394)] : List (Nat × Int × Int)) 245 227 14 14 = true := by simp [ck_okW_def]
  refine ⟨⟨hF.1, hF.2.1, ?_, hF.2.2.2.1, ?_⟩, ?_, _, List.mem_cons_self, trivial, rfl, ⟨(fun _ h => nomatch h), (fun _ h => nomatch h), fun q hq => ?_⟩⟩
  · exact gm_Ft_M (gm_Ft_M (gm_Ft_M (gm_Ft_M (gm_Ft_M (gm_Ft_M hF.2.2.1 c5 u3 u4) c6 h91 h92) c0 h91 h92) c1 (Int.le_refl _) (Int.le_refl _)) c2 u3 u4) c14 (by omega) (by omega)
  · show j_J p2_ty K _
    unfold j_J
    rw [md_opn_f (by decide : ¬ 228 = 227), md_opn_f (by decide : ¬ 229 = 227), md_opn_f (by decide : ¬ 230 = 227)]
    refine ⟨⟨jO_open (l0 := l) hl o7 (md_opn_ne (by omega) (by omega) (by omega)) (by rw [md_opn_14, ho]) (by omega) (by rw [md_opn_5 ⟨by omega, by omega⟩ h141]; omega) (fun l2 hl2 => ⟨md_opn_ne (by omega) (by omega) (by omega), md_opn_ne (by omega) (by omega) (by omega), fun hne => md_opn_ne (by omega) (by omega) (by omega)⟩), o8, o9, oA⟩, tA, jT_cg (fun j j1 j2 => md_opn_ne (by omega) (by omega) (by omega)) t7, t8, t9⟩
  · exact ck_fr_M (ck_fr_M (ck_fr_M (ck_fr_M (ck_fr_M (ck_fr_M ck_fr_0 w0 (by omega) (by omega)) w0 (by omega) (by omega)) w3 (by omega) (by omega)) w3 (by omega) (by omega)) w3 (by omega) (by omega)) w4 (by omega) (by omega)
  · rw [List.mem_singleton.mp hq]
    refine ⟨by show (227 : Nat) ≤ 245; decide, fun j j1 j2 => ?_⟩
    have j1 : 124 + 7 * (l : Int) ≤ j := j1
    have j2 : j ≤ 124 + 7 * (l : Int) := j2
    have j3 : j = 124 + 7 * (l : Int) := by omega
    subst j3
    show gm_ir (md_opn M o l p 227 (124 + 7 * (l : Int))) ∧ ck_gi σ (p0, p1, []) (md_opn M o l p 227 (124 + 7 * (l : Int)))
    rw [md_opn_5 ⟨by omega, by omega⟩ h141]
    exact ⟨u9, u3, u4, fun _ h => nomatch h⟩
noncomputable def op_os0 (l : Nat) (p : ck_A) (f0 f1 t0 t1 : Int) : ck_Sum := ((3, 0, 0), 245, [.inr (.inr (.inl 226)), .inl (ck_one l), p], ([], [], [(227, 119 + 7 * (l : Int), 119 + 7 * (l : Int), (f0, f1, [])), (227, 120 + 7 * (l : Int), 120 + 7 * (l : Int), (t0, t1, []))]), ([], []), [])
theorem op_none {l : Nat} {p : ck_A} {f0 f1 t0 t1 : Int} (hl : l < 24) (hf0 : 0 ≤ f0) (ht : t1 < 0) : ck_Ok p2_O X LX 319 (op_os0 l p f0 f1 t0 t1) := by
  intro d σ vs n K R M hd hn hvs hnm hF hf
  have h0 := (hf.2.2 (227, 119 + 7 * (l : Int), 119 + 7 * (l : Int), (f0, f1, [])) List.mem_cons_self).2 (119 + 7 * (l : Int)) (Int.le_refl _) (Int.le_refl _)
  have h1 := (hf.2.2 (227, 120 + 7 * (l : Int), 120 + 7 * (l : Int), (t0, t1, [])) (List.mem_cons_of_mem _ List.mem_cons_self)).2 (120 + 7 * (l : Int)) (Int.le_refl _) (Int.le_refl _)
  have h01 : f0 ≤ M 227 (119 + 7 * (l : Int)) := h0.2.1
  have h11 : M 227 (120 + 7 * (l : Int)) ≤ t1 := h1.2.2.1
  have hJ : j_J p2_ty K M := hF.2.2.2.2
  have := hJ.1.1.2 l hl (by omega)
  omega
end OP
end
/-! 47.sl -/
section
/-! LINES OF THE LAW that hold, by hand: a line's steps are reckoned on a row of numbers. -/
set_option maxRecDepth 100000 in
/-- GlacierMailModel.lanes -/
noncomputable def p2_fo0 : ck_Sum := (((0 : Nat), (0 : Nat), (0 : Nat)), (245 : Nat), [.inr (.inr (.inl (226 : Nat)))], ([], [], []), ([], []), [(.inr (some (.inl ((0 : Int), (6 : Int), []))), (245 : Nat), ([], [], []))])
set_option maxRecDepth 100000 in
theorem p2_fo0_s {X : Int → Int} {LX : Nat} : ck_Ok p2_O X LX 261 p2_fo0 := ck_okq (cuts := []) (f := 80) ⟨p2_nmu, ck_E0⟩ (by decide +kernel)
set_option maxRecDepth 100000 in
/-- GlacierMailModel.factOf -/
noncomputable def p2_fo1 : ck_Sum := (((1 : Nat), (0 : Nat), (0 : Nat)), (245 : Nat), [.inr (.inr (.inl (226 : Nat))), .inl ((-1 : Int), (10 : Int), []), .inl ((-2147483648 : Int), (2147483647 : Int), [])], ([], [], []), ([], []), [(.inr (some (.inl ((-2147483648 : Int), (2147483647 : Int), []))), (245 : Nat), ([], [], [])), (.inr (some (.inl ((0 : Int), (299 : Int), []))), (245 : Nat), ([], [], []))])
set_option maxRecDepth 100000 in
theorem p2_fo1_s {X : Int → Int} {LX : Nat} : ck_Ok p2_O X LX 296 p2_fo1 := ck_okq (cuts := []) (f := 100) ⟨p2_nmu, ck_E1 (ck_S1 p2_fo0_s ck_S0) ck_E0⟩ (by decide +kernel)
noncomputable def sl_W : List (Nat × Int × Int) × List (Nat × Int) := ([((233 : Nat), (0 : Int), (399 : Int))], [])
noncomputable def sl_o : List ck_Oc := [(.inr (some (.inl ((0 : Int), (1 : Int), []))), (245 : Nat), ([], [], []))]
noncomputable def sl_E : List (Nat × List ck_Sum) := [((296 : Nat), [p2_fo1])]
noncomputable def sl_C (δ : Int) : ck_C := ([some (.inr (.inr (.inl 226))), none, some (.inl (0, 400, [(50, δ)])), some (.inl (396, 440, [(52, 0)])), some (.inl (0, 400, [(51, 1)])), none, none, none, none], ([], [], []), 0, .inl 2, true)
noncomputable def sl_A (lo hi a b : Int) : ck_AL := [some (.inr (.inr (.inl 226))), none, some (.inl (lo, hi, [(50, 0)])), some (.inl (396, 440, [(52, 0)])), some (.inl (0, 399, [(51, 0)])), some (.inl (a, b, [])), none, none, none]
theorem sl_g1 : ck_go p2_O none [] sl_E 295 2 245 sl_W sl_o [(20, sl_C 1)] 300 true [(20, sl_C 1, 0, 0, 245)] 0 0 48 (sl_A 0 399 (-1) 10) [] 245 ([], [], []) = true := by decide +kernel
theorem sl_g2 : ck_go p2_O none [] sl_E 295 2 245 sl_W sl_o [(20, sl_C 0)] 300 true [(20, sl_C 0, 0, 0, 245)] 0 0 48 (sl_A 1 400 14 14) [] 245 ([], [], []) = true := by decide +kernel
theorem sl_g3 : ck_go p2_O none [] sl_E 295 2 245 sl_W sl_o [(20, sl_C (-1))] 300 true [(20, sl_C (-1), 0, 0, 245)] 0 0 48 (sl_A 2 400 11 13) [] 245 ([], [], []) = true := by decide +kernel
theorem sl_g4 : ck_go p2_O none [] sl_E 295 2 245 sl_W sl_o [(20, sl_C (-1))] 300 true [(20, sl_C (-1), 0, 0, 245)] 0 0 48 (sl_A 2 400 15 999) [] 245 ([], [], []) = true := by decide +kernel
theorem sl_g0 : ck_go p2_O none [] [] 295 2 245 sl_W sl_o [] 100 true [] 0 0 259 [some (.inr (.inr (.inl 226))), none, some (.inl (0, 400, [])), none, none, none, none, none, none] [] 245 ([], [], []) = true := by decide +kernel
theorem sl_t : gm_tyr p2_O 227 395 395 = some (0, 12) := by decide +kernel
theorem sl_t2 : gm_tyr p2_O 227 444 1243 = some (-1, 999) := by decide +kernel
section SL
variable {X : Int → Int} {LX : Nat}
theorem sl_hE : ck_nmu p2_O ∧ ck_OkE p2_O X LX sl_E := ⟨p2_nmu, ck_E1 (ck_S1 p2_fo1_s ck_S0) ck_E0⟩
theorem sl_Qm {W : List (Nat × Int × Int) × List (Nat × Int)} {σ σ' : Nat → Int} {n0 n : Nat} {K0 K : gm_K} {R0 R : gm_R} {M0 M : gm_M} {o : gm_O} (h : ck_Q p2_O σ W n0 K0 R0 M0 sl_o o n K R M) : ck_Q p2_O σ' W n0 K0 R0 M0 sl_o o n K R M := by
  obtain ⟨h1, h2, oc, h3, h4, h5, h6⟩ := h
  rw [List.mem_singleton.mp h3] at h4 h5
  refine ⟨h1, h2, _, List.mem_cons_self, ?_, h5, ⟨(fun _ h => nomatch h), (fun _ h => nomatch h), (fun _ h => nomatch h)⟩⟩
  rcases o with u | x
  · rcases u with _ | v
    · exact h4
    · obtain ⟨x, rfl, h7, h8, h9, -⟩ := h4
      exact ⟨x, rfl, h7, h8, h9, fun _ h => nomatch h⟩
  · exact h4
noncomputable def sl_σ (σ : Nat → Int) (a b c : Int) : Nat → Int := fun s => if s = 50 then a else if s = 51 then b else if s = 52 then c else σ s
theorem sl_go {bc bs : Nat} {σ : Nat → Int} {K0 : gm_K} {R0 : gm_R} {M0 : gm_M} {K : gm_K} {R : gm_R} {M : gm_M} {L : gm_L} {lo hi a b δ i top k step : Int} (hcu : ck_cu [(20, sl_C δ)] = true) (hg : ck_go p2_O none [] sl_E 295 2 245 sl_W sl_o [(20, sl_C δ)] 300 true [(20, sl_C δ, 0, 0, 245)] 0 0 48 (sl_A lo hi a b) [] 245 ([], [], []) = true)
    (hF : gm_Fx p2_O 245 K R M) (hfr : ck_fr sl_W 245 K0 R0 M0 245 K R M) (hL : L.length = 9) (l0 : L[0]? = some (some (gm_vr 226))) (l2 : L[2]? = some (some (gm_vi top))) (l3 : L[3]? = some (some (gm_vi k))) (l4 : L[4]? = some (some (gm_vi i))) (l5 : L[5]? = some (some (gm_vi step))) (htop : (lo ≤ top ∧ top ≤ hi) ∧ 0 ≤ top ∧ top ≤ 400) (hk : 396 ≤ k ∧ k ≤ 440) (hii : 0 ≤ i ∧ i ≤ 399) (hs : (a ≤ step ∧ step ≤ b) ∧ -1 ≤ step ∧ step ≤ 999)
    (hx : ∀ (bc bs : Nat) (L : gm_L) (K : gm_K) (R : gm_R) (M : gm_M), gm_Fx p2_O 245 K R M → ck_fr sl_W 245 K0 R0 M0 245 K R M → L.length = 9 → L[0]? = some (some (gm_vr 226)) → L[2]? = some (some (gm_vi (top + δ))) → L[3]? = some (some (gm_vi k)) → L[4]? = some (some (gm_vi (i + 1))) → gm_Wp X LX 2 bc bs 295 20 L [] 245 K R M (ck_Q p2_O σ sl_W 245 K0 R0 M0 sl_o)) : gm_Wp X LX 2 bc bs 295 48 L [] 245 K R M (ck_Q p2_O σ sl_W 245 K0 R0 M0 sl_o) := by
  refine gm_Wp_mono (fun o n K R M h => sl_Qm (σ := sl_σ σ top i k) h) ?_
  refine gm_Wp_wk (Nat.le_refl _) (Nat.zero_le _) (Nat.zero_le _) (ck_go_s (σ0 := sl_σ σ top i k) (cuts := [((20 : Nat), sl_C δ)]) hcu sl_hE ck_X0 ck_l0 300 true [(20, sl_C δ, 0, 0, 245)] 0 0 48 (sl_A lo hi a b) [] 245 ([], [], []) (sl_σ σ top i k) L [] K R M (fun _ _ => rfl) (fun z hz => ?_) ⟨hF, ⟨by rw [hL]; rfl, fun j b hb => ?_⟩, rfl, ⟨(fun _ h => nomatch h), (fun _ h => nomatch h), (fun _ h => nomatch h)⟩, hfr⟩ hg)
  · rw [List.mem_singleton.mp hz]
    refine ⟨List.mem_cons_self, fun v _ bc bs L K R M _ _ hS _ => ?_⟩
    obtain ⟨hF, hl, -, -, hfr⟩ := hS
    obtain ⟨u0, e0, g0⟩ := hl.2 0 (.inr (.inr (.inl 226))) rfl
    cases g0
    obtain ⟨u2, e2, x2, rfl, -, -, -, t2⟩ := hl.2 2 (.inl (0, 400, [(50, δ)])) rfl
    obtain ⟨u3, e3, x3, rfl, -, -, -, t3⟩ := hl.2 3 (.inl (396, 440, [(52, 0)])) rfl
    obtain ⟨u4, e4, x4, rfl, -, -, -, t4⟩ := hl.2 4 (.inl (0, 400, [(51, 1)])) rfl
    have y2 : x2 = top + δ := (t2 (50, δ) List.mem_cons_self).1 (show 50 < 1000000 by decide)
    have y3 : x3 = k + 0 := (t3 (52, 0) List.mem_cons_self).1 (show 52 < 1000000 by decide)
    have y4 : x4 = i + 1 := (t4 (51, 1) List.mem_cons_self).1 (show 51 < 1000000 by decide)
    rw [Int.add_zero] at y3
    subst y2 y3 y4
    exact gm_Wp_mono (fun o n K R M h => sl_Qm h) (hx bc bs L K R M hF hfr hl.1.symm e0 e2 e3 e4)
  · rcases j with _ | _ | _ | _ | _ | _ | j
    · cases hb; exact ⟨_, l0, rfl⟩
    · cases hb
    · cases hb; exact ⟨_, l2, top, rfl, ⟨by omega, by omega⟩, htop.1.1, htop.1.2, fun q hq => by rw [List.mem_singleton.mp hq]; exact ⟨fun _ => by show top = top + 0; omega, fun h => absurd h (by decide)⟩⟩
    · cases hb; exact ⟨_, l3, k, rfl, ⟨by omega, by omega⟩, hk.1, hk.2, fun q hq => by rw [List.mem_singleton.mp hq]; exact ⟨fun _ => by show k = k + 0; omega, fun h => absurd h (by decide)⟩⟩
    · cases hb; exact ⟨_, l4, i, rfl, ⟨by omega, by omega⟩, hii.1, hii.2, fun q hq => by rw [List.mem_singleton.mp hq]; exact ⟨fun _ => by show i = i + 0; omega, fun h => absurd h (by decide)⟩⟩
    · cases hb; exact ⟨_, l5, step, rfl, ⟨by omega, by omega⟩, hs.1.1, hs.1.2, fun _ h => nomatch h⟩
    · rcases j with _ | _ | _ | j <;> cases hb
theorem sl_hold {bc bs : Nat} {σ : Nat → Int} {K0 : gm_K} {R0 : gm_R} {M0 : gm_M} {line : Int} (hF0 : gm_Fx p2_O 245 K0 R0 M0) (hl : 0 ≤ line ∧ line < 12) (hc : line < M0 227 395) : gm_Wp X LX 2 bc bs 295 0 (gm_ent 295 [gm_vr 226, gm_vi line]) [] 245 K0 R0 M0 (ck_Q p2_O σ sl_W 245 K0 R0 M0 sl_o) := by
  have hJ : j_J p2_ty K0 M0 := hF0.2.2.2.2
  obtain ⟨-, -, t7, -, -⟩ := hJ
  obtain ⟨⟨a1, a2, a3⟩, G, g0, gs⟩ := t7 line hl.1 hl.2 hc
  have e1 : (395 : Int) + (3 + 4 * line) = 396 + 4 * line + 2 := by omega
  have e2 : (395 : Int) + (4 + 4 * line) = 396 + 4 * line + 3 := by omega
  dsimp only at a1 a2 a3 g0 gs
  rw [e1] at a1 a2 g0 gs
  rw [e2] at a2 a3 gs
  generalize hk : 396 + 4 * line = k at *
  generalize hfi : M0 227 (k + 2) = first at *
  generalize hla : M0 227 (k + 3) = last at *
  have key : ∀ (m : Nat) (i top : Int) (bc bs : Nat) (L : gm_L) (K : gm_K) (R : gm_R) (M : gm_M), last - i = (m : Int) → first ≤ i → i ≤ last → G i = top → 0 ≤ top → top ≤ i - first → gm_Fx p2_O 245 K R M → ck_fr sl_W 245 K0 R0 M0 245 K R M → L.length = 9 → L[0]? = some (some (gm_vr 226)) → L[2]? = some (some (gm_vi top)) → L[3]? = some (some (gm_vi k)) → L[4]? = some (some (gm_vi i)) → gm_Wp X LX 2 bc bs 295 20 L [] 245 K R M (ck_Q p2_O σ sl_W 245 K0 R0 M0 sl_o) := by
    intro m
    induction m with
    | zero =>
      intro i top bc bs L K R M hm h1 h2 hG h3 h4 hF hfr hL l0 l2 l3 l4
      have hM : ∀ j, M 227 j = M0 227 j := fun j => hfr.2.2.1 227 j (by decide) (fun w hw e => by rw [List.mem_singleton.mp hw] at e; exact absurd e.1 (by decide))
      have w1 : gm_w (k + 3) = k + 3 := gm_w_id (by omega) (by omega)
      refine gm_sz (gm_p_load (pc := 20) (i := .iload 4) (sr := 0) (j := 4) (by decide +kernel) rfl l4 rfl) ?_
      refine gm_sz (gm_p_load (pc := 22) (i := .aload_n 0) (sr := 2) (j := 0) (by decide +kernel) rfl l0 rfl) ?_
      refine gm_sz (gm_p_get (pc := 23) (ix := 13) (ci := 11) (j := 1) (by decide +kernel) (md_mo hF).1 (md_mo hF).2 (by decide +kernel)) ?_
      rw [if_pos (show gm_isr 11 1 = true by decide +kernel), md_rf hF md_r.1.1]
      refine gm_sz (gm_p_load (pc := 26) (i := .iload_n 3) (sr := 0) (j := 3) (by decide +kernel) rfl l3 rfl) ?_
      refine gm_sz (gm_p_const (pc := 27) (i := .iconst 3) (v := gm_vi 3) (by decide +kernel) (by decide +kernel)) ?_
      refine gm_sz (gm_p_bin (pc := 28) (i := .iadd) (f := fun x y => x + y) (by decide +kernel) rfl) ?_
      refine gm_sz (gm_p_iald (pc := 29) (by decide +kernel) (md_kd hF md_o.1.2).1.1 (md_kd hF md_o.1.2).1.2 (by rw [w1, (md_kd hF md_o.1.2).2]; omega)) ?_
      rw [w1]
      rw [hM, hla]
      refine gm_b_ic (cc := .ge) (pc := 30) (off := 229) (by decide +kernel) (by decide) (fun _ => ?_) (fun hp => ?_)
      · refine gm_Wp_wk (Nat.le_refl _) (Nat.zero_le _) (Nat.zero_le _) (ck_go_s (σ0 := σ) (cuts := []) (by decide) ⟨p2_nmu, ck_E0⟩ ck_X0 ck_l0 100 true [] 0 0 259 [some (.inr (.inr (.inl 226))), none, some (.inl (0, 400, [])), none, none, none, none, none, none] [] 245 ([], [], []) σ L [] K R M (fun _ _ => rfl) (fun z hz => nomatch hz) ⟨hF, ⟨by rw [hL]; rfl, fun j b hb => ?_⟩, rfl, ⟨(fun _ h => nomatch h), (fun _ h => nomatch h), (fun _ h => nomatch h)⟩, hfr⟩ sl_g0)
        rcases j with _ | _ | _ | j
        · cases hb; exact ⟨_, l0, rfl⟩
        · cases hb
        · cases hb; exact ⟨_, l2, top, rfl, ⟨by omega, by omega⟩, by show (0 : Int) ≤ top; omega, by show top ≤ (400 : Int); omega, fun _ h => nomatch h⟩
        · rcases j with _ | _ | _ | _ | _ | _ | j <;> cases hb
      · rw [gm_cm_w ⟨by omega, by omega⟩ ⟨by omega, by omega⟩] at hp
        have hp : ¬ last ≤ i := hp
        omega
    | succ m ih =>
      intro i top bc bs L K R M hm h1 h2 hG h3 h4 hF hfr hL l0 l2 l3 l4
      have hM : ∀ j, M 227 j = M0 227 j := fun j => hfr.2.2.1 227 j (by decide) (fun w hw e => by rw [List.mem_singleton.mp hw] at e; exact absurd e.1 (by decide))
      have w1 : gm_w (k + 3) = k + 3 := gm_w_id (by omega) (by omega)
      have w2' : gm_w (444 + 2 * i) = 444 + 2 * i := gm_w_id (by omega) (by omega)
      refine gm_sz (gm_p_load (pc := 20) (i := .iload 4) (sr := 0) (j := 4) (by decide +kernel) rfl l4 rfl) ?_
      refine gm_sz (gm_p_load (pc := 22) (i := .aload_n 0) (sr := 2) (j := 0) (by decide +kernel) rfl l0 rfl) ?_
      refine gm_sz (gm_p_get (pc := 23) (ix := 13) (ci := 11) (j := 1) (by decide +kernel) (md_mo hF).1 (md_mo hF).2 (by decide +kernel)) ?_
      rw [if_pos (show gm_isr 11 1 = true by decide +kernel), md_rf hF md_r.1.1]
      refine gm_sz (gm_p_load (pc := 26) (i := .iload_n 3) (sr := 0) (j := 3) (by decide +kernel) rfl l3 rfl) ?_
      refine gm_sz (gm_p_const (pc := 27) (i := .iconst 3) (v := gm_vi 3) (by decide +kernel) (by decide +kernel)) ?_
      refine gm_sz (gm_p_bin (pc := 28) (i := .iadd) (f := fun x y => x + y) (by decide +kernel) rfl) ?_
      refine gm_sz (gm_p_iald (pc := 29) (by decide +kernel) (md_kd hF md_o.1.2).1.1 (md_kd hF md_o.1.2).1.2 (by rw [w1, (md_kd hF md_o.1.2).2]; omega)) ?_
      rw [w1]
      rw [hM, hla]
      refine gm_b_ic (cc := .ge) (pc := 30) (off := 229) (by decide +kernel) (by decide) (fun hp => ?_) (fun _ => ?_)
      · rw [gm_cm_w ⟨by omega, by omega⟩ ⟨by omega, by omega⟩] at hp
        have hp : last ≤ i := hp
        omega
      refine gm_sz (gm_p_load (pc := 33) (i := .aload_n 0) (sr := 2) (j := 0) (by decide +kernel) rfl l0 rfl) ?_
      refine gm_sz (gm_p_get (pc := 34) (ix := 13) (ci := 11) (j := 1) (by decide +kernel) (md_mo hF).1 (md_mo hF).2 (by decide +kernel)) ?_
      rw [if_pos (show gm_isr 11 1 = true by decide +kernel), md_rf hF md_r.1.1]
      refine gm_sz (gm_p_const (pc := 37) (i := .sipush 444) (v := gm_vi 444) (by decide +kernel) (by decide +kernel)) ?_
      refine gm_sz (gm_p_const (pc := 40) (i := .iconst 2) (v := gm_vi 2) (by decide +kernel) (by decide +kernel)) ?_
      refine gm_sz (gm_p_load (pc := 41) (i := .iload 4) (sr := 0) (j := 4) (by decide +kernel) rfl l4 rfl) ?_
      refine gm_sz (gm_p_bin (pc := 43) (i := .imul) (f := fun x y => x * y) (by decide +kernel) rfl) ?_
      refine gm_sz (gm_p_bin (pc := 44) (i := .iadd) (f := fun x y => x + y) (by decide +kernel) rfl) ?_
      refine gm_sz (gm_p_iald (pc := 45) (by decide +kernel) (md_kd hF md_o.1.2).1.1 (md_kd hF md_o.1.2).1.2 (by rw [w2', (md_kd hF md_o.1.2).2]; omega)) ?_
      rw [w2']
      refine gm_sz (gm_p_stor (pc := 46) (i := .istore 5) (sr := 0) (j := 5) (by decide +kernel) rfl (show 5 + 0 < L.length by omega) rfl) ?_
      have hst := ((gm_tyr_s hF sl_t2).2 (444 + 2 * i) (by omega) (by omega)).2
      have hs1 : (-1 : Int) ≤ M 227 (444 + 2 * i) := hst.1
      have hs2 : M 227 (444 + 2 * i) ≤ (999 : Int) := hst.2
      have hj := gs i h1 (by omega)
      rw [show (395 : Int) + (49 + 2 * i) = 444 + 2 * i by omega, ← hM] at hj
      generalize hstep : M 227 (444 + 2 * i) = step at *
      rw [show gm_lst L 5 (gm_vi step) = L.set 5 (some (gm_vi step)) by
        have e : gm_lc L 5 = L := by
          show (match L[4]? with
            | some (some (.inr (.inl _))) => L.set 4 none
            | _ => L) = L
          rw [l4]
        show (gm_lc L 5).set 5 (some (gm_vi step)) = _
        rw [e]]
      have q0 : (L.set 5 (some (gm_vi step)))[0]? = some (some (gm_vr 226)) := by rw [List.getElem?_set, if_neg (by decide), l0]
      have q2 : (L.set 5 (some (gm_vi step)))[2]? = some (some (gm_vi top)) := by rw [List.getElem?_set, if_neg (by decide), l2]
      have q3 : (L.set 5 (some (gm_vi step)))[3]? = some (some (gm_vi k)) := by rw [List.getElem?_set, if_neg (by decide), l3]
      have q4 : (L.set 5 (some (gm_vi step)))[4]? = some (some (gm_vi i)) := by rw [List.getElem?_set, if_neg (by decide), l4]
      have q5 : (L.set 5 (some (gm_vi step)))[5]? = some (some (gm_vi step)) := by rw [List.getElem?_set, if_pos rfl, if_pos (by omega)]
      have qL : (L.set 5 (some (gm_vi step))).length = 9 := by rw [List.length_set, hL]
      by_cases c1 : step ≤ 10
      · obtain ⟨r1, r2⟩ := hj.1 c1
        refine sl_go (δ := 1) (by decide +kernel) sl_g1 hF hfr qL q0 q2 q3 q4 q5 ⟨⟨by omega, by omega⟩, by omega, by omega⟩ ⟨by omega, by omega⟩ ⟨by omega, by omega⟩ ⟨⟨by omega, by omega⟩, by omega, by omega⟩ (fun bc bs L K R M z1 z2 z3 z4 z5 z6 z7 => ih (i + 1) (top + 1) bc bs L K R M (by omega) (by omega) (by omega) (by omega) (by omega) (by omega) z1 z2 z3 z4 z5 z6 z7)
      · by_cases c2 : step = 14
        · obtain ⟨r1, r2⟩ := hj.2.1 c2
          refine sl_go (δ := 0) (by decide +kernel) sl_g2 hF hfr qL q0 q2 q3 q4 q5 ⟨⟨by omega, by omega⟩, by omega, by omega⟩ ⟨by omega, by omega⟩ ⟨by omega, by omega⟩ ⟨⟨by omega, by omega⟩, by omega, by omega⟩ (fun bc bs L K R M z1 z2 z3 z4 z5 z6 z7 => ih (i + 1) (top + 0) bc bs L K R M (by omega) (by omega) (by omega) (by omega) (by omega) (by omega) z1 z2 z3 z4 z5 z6 z7)
        · obtain ⟨r1, r2⟩ := hj.2.2 (by omega) c2
          by_cases c3 : step ≤ 13
          · refine sl_go (δ := -1) (by decide +kernel) sl_g3 hF hfr qL q0 q2 q3 q4 q5 ⟨⟨by omega, by omega⟩, by omega, by omega⟩ ⟨by omega, by omega⟩ ⟨by omega, by omega⟩ ⟨⟨by omega, by omega⟩, by omega, by omega⟩ (fun bc bs L K R M z1 z2 z3 z4 z5 z6 z7 => ih (i + 1) (top + -1) bc bs L K R M (by omega) (by omega) (by omega) (by omega) (by omega) (by omega) z1 z2 z3 z4 z5 z6 z7)
          · refine sl_go (δ := -1) (by decide +kernel) sl_g4 hF hfr qL q0 q2 q3 q4 q5 ⟨⟨by omega, by omega⟩, by omega, by omega⟩ ⟨by omega, by omega⟩ ⟨by omega, by omega⟩ ⟨⟨by omega, by omega⟩, by omega, by omega⟩ (fun bc bs L K R M z1 z2 z3 z4 z5 z6 z7 => ih (i + 1) (top + -1) bc bs L K R M (by omega) (by omega) (by omega) (by omega) (by omega) (by omega) z1 z2 z3 z4 z5 z6 z7)
  have w1 : gm_w (k + 2) = k + 2 := gm_w_id (by omega) (by omega)
  refine gm_sz (gm_p_const (pc := 0) (i := .iconst 0) (v := gm_vi 0) (by decide +kernel) (by decide +kernel)) ?_
  refine gm_sz (gm_p_stor (pc := 1) (i := .istore_n 2) (sr := 0) (j := 2) (by decide +kernel) rfl (show 2 + 0 < 9 by decide) rfl) ?_
  refine gm_sz (gm_p_const (pc := 2) (i := .sipush 396) (v := gm_vi 396) (by decide +kernel) (by decide +kernel)) ?_
  refine gm_sz (gm_p_const (pc := 5) (i := .iconst 4) (v := gm_vi 4) (by decide +kernel) (by decide +kernel)) ?_
  refine gm_sz (gm_p_load (pc := 6) (i := .iload_n 1) (sr := 0) (j := 1) (by decide +kernel) rfl rfl rfl) ?_
  refine gm_sz (gm_p_bin (pc := 7) (i := .imul) (f := fun x y => x * y) (by decide +kernel) rfl) ?_
  refine gm_sz (gm_p_bin (pc := 8) (i := .iadd) (f := fun x y => x + y) (by decide +kernel) rfl) ?_
  rw [hk]
  refine gm_sz (gm_p_stor (pc := 9) (i := .istore_n 3) (sr := 0) (j := 3) (by decide +kernel) rfl (show 3 + 0 < 9 by decide) rfl) ?_
  refine gm_sz (gm_p_load (pc := 10) (i := .aload_n 0) (sr := 2) (j := 0) (by decide +kernel) rfl rfl rfl) ?_
  refine gm_sz (gm_p_get (pc := 11) (ix := 13) (ci := 11) (j := 1) (by decide +kernel) (md_mo hF0).1 (md_mo hF0).2 (by decide +kernel)) ?_
  rw [if_pos (show gm_isr 11 1 = true by decide +kernel), md_rf hF0 md_r.1.1]
  refine gm_sz (gm_p_load (pc := 14) (i := .iload_n 3) (sr := 0) (j := 3) (by decide +kernel) rfl rfl rfl) ?_
  refine gm_sz (gm_p_const (pc := 15) (i := .iconst 2) (v := gm_vi 2) (by decide +kernel) (by decide +kernel)) ?_
  refine gm_sz (gm_p_bin (pc := 16) (i := .iadd) (f := fun x y => x + y) (by decide +kernel) rfl) ?_
  refine gm_sz (gm_p_iald (pc := 17) (by decide +kernel) (md_kd hF0 md_o.1.2).1.1 (md_kd hF0 md_o.1.2).1.2 (by rw [w1, (md_kd hF0 md_o.1.2).2]; omega)) ?_
  rw [w1]
  rw [hfi]
  refine gm_sz (gm_p_stor (pc := 18) (i := .istore 4) (sr := 0) (j := 4) (by decide +kernel) rfl (show 4 + 0 < 9 by decide) rfl) ?_
  exact key (last - first).toNat first 0 bc bs _ K0 R0 M0 (by omega) (by omega) a2 g0 (by omega) (by omega) hF0 ck_fr_0 rfl rfl rfl rfl rfl
noncomputable def sl_so : List ck_Oc := [(.inr (some (.inl ck_top)), (245 : Nat), ([], [], []))]
/-- GlacierMailModel.sumOf -/
noncomputable def sl_S : ck_Sum := (((3 : Nat), (0 : Nat), (0 : Nat)), (245 : Nat), [.inr (.inr (.inl (226 : Nat))), .inl ((0 : Int), (2 : Int), [])], ([], [], []), sl_W, sl_so)
theorem sl_S_s : ck_Ok p2_O X LX 294 sl_S := by
  intro d σ vs n K0 R0 M0 hd hn hvs _ hF0 _
  obtain ⟨_, _, rfl, rfl, _, _, rfl, ⟨kind, rfl, kk, -, -, -⟩, rfl⟩ := hvs
  have hn : n = 245 := hn
  subst hn
  refine gm_Wp_wk (d' := 3) (bc' := 0) (bs' := 0) hd (Nat.le_refl _) (Nat.le_refl _) ?_
  have w8 : gm_w 8 = 8 := by decide
  have w395 : gm_w 395 = 395 := by decide
  have ex : ∀ (sum nn : Int) (K : gm_K) (R : gm_R) (M : gm_M), gm_Fx p2_O 245 K R M → ck_fr sl_W 245 K0 R0 M0 245 K R M → gm_Wp X LX 3 0 0 294 78 [some (gm_vr 226), some (gm_vi kind), some (gm_vi sum), some (gm_vi nn)] [] 245 K R M (ck_Q p2_O σ sl_W 245 K0 R0 M0 sl_so) := by
    intro sum nn K R M hF hfr
    refine gm_sz (gm_p_load (pc := 78) (i := .iload_n 2) (sr := 0) (j := 2) (by decide +kernel) rfl rfl rfl) ?_
    refine ck_nv ?_
    exact gm_r_int (pc := 79) (by decide +kernel) (Or.inl (by decide +kernel)) ⟨hF, hfr, _, List.mem_cons_self, ⟨_, rfl, ck_w_ir _, ck_top_s _⟩, rfl, ⟨(fun _ h => nomatch h), (fun _ h => nomatch h), (fun _ h => nomatch h)⟩⟩
  have key : ∀ (m : Nat) (nn sum : Int) (K : gm_K) (R : gm_R) (M : gm_M), 12 - nn = (m : Int) → 0 ≤ nn → gm_Fx p2_O 245 K R M → ck_fr sl_W 245 K0 R0 M0 245 K R M → gm_Wp X LX 3 0 0 294 4 [some (gm_vr 226), some (gm_vi kind), some (gm_vi sum), some (gm_vi nn)] [] 245 K R M (ck_Q p2_O σ sl_W 245 K0 R0 M0 sl_so) := by
    intro m
    induction m with
    | zero =>
      intro nn sum K R M hm h0 hF hfr
      have ht := ((gm_tyr_s hF sl_t).2 395 (Int.le_refl _) (Int.le_refl _)).2
      have ht1 : (0 : Int) ≤ M 227 395 := ht.1
      have ht2 : M 227 395 ≤ (12 : Int) := ht.2
      refine gm_sz (gm_p_load (pc := 4) (i := .aload_n 0) (sr := 2) (j := 0) (by decide +kernel) rfl rfl rfl) ?_
      refine gm_sz (gm_p_get (pc := 5) (ix := 13) (ci := 11) (j := 1) (by decide +kernel) (md_mo hF).1 (md_mo hF).2 (by decide +kernel)) ?_
      rw [if_pos (show gm_isr 11 1 = true by decide +kernel), md_rf hF md_r.1.1]
      refine gm_sz (gm_p_const (pc := 8) (i := .bipush 8) (v := gm_vi 8) (by decide +kernel) (by decide +kernel)) ?_
      refine gm_sz (gm_p_iald (pc := 10) (by decide +kernel) (md_kd hF md_o.1.2).1.1 (md_kd hF md_o.1.2).1.2 (by rw [w8, (md_kd hF md_o.1.2).2]; omega)) ?_
      rw [w8]
      refine gm_sz (gm_p_const (pc := 11) (i := .iconst 1) (v := gm_vi 1) (by decide +kernel) (by decide +kernel)) ?_
      refine gm_b_ic (cc := .ne) (pc := 12) (off := 66) (by decide +kernel) (by decide) (fun _ => ex sum nn K R M hF hfr) (fun _ => ?_)
      refine gm_sz (gm_p_load (pc := 15) (i := .iload_n 3) (sr := 0) (j := 3) (by decide +kernel) rfl rfl rfl) ?_
      refine gm_sz (gm_p_load (pc := 16) (i := .aload_n 0) (sr := 2) (j := 0) (by decide +kernel) rfl rfl rfl) ?_
      refine gm_sz (gm_p_get (pc := 17) (ix := 13) (ci := 11) (j := 1) (by decide +kernel) (md_mo hF).1 (md_mo hF).2 (by decide +kernel)) ?_
      rw [if_pos (show gm_isr 11 1 = true by decide +kernel), md_rf hF md_r.1.1]
      refine gm_sz (gm_p_const (pc := 20) (i := .sipush 395) (v := gm_vi 395) (by decide +kernel) (by decide +kernel)) ?_
      refine gm_sz (gm_p_iald (pc := 23) (by decide +kernel) (md_kd hF md_o.1.2).1.1 (md_kd hF md_o.1.2).1.2 (by rw [w395, (md_kd hF md_o.1.2).2]; omega)) ?_
      rw [w395]
      refine gm_b_ic (cc := .ge) (pc := 24) (off := 54) (by decide +kernel) (by decide) (fun _ => ex sum nn K R M hF hfr) (fun hp => ?_)
      rw [gm_cm_w ⟨by omega, by omega⟩ ⟨by omega, by omega⟩] at hp
      have hp : ¬ M 227 395 ≤ nn := hp
      omega
    | succ m ih =>
      intro nn sum K R M hm h0 hF hfr
      have ht := ((gm_tyr_s hF sl_t).2 395 (Int.le_refl _) (Int.le_refl _)).2
      have ht1 : (0 : Int) ≤ M 227 395 := ht.1
      have ht2 : M 227 395 ≤ (12 : Int) := ht.2
      have wk : gm_w (396 + 4 * nn) = 396 + 4 * nn := gm_w_id (by omega) (by omega)
      have wk1 : gm_w (396 + 4 * nn + 1) = 396 + 4 * nn + 1 := gm_w_id (by omega) (by omega)
      have tail : ∀ (x : Int) (K : gm_K) (R : gm_R) (M : gm_M), gm_Fx p2_O 245 K R M → ck_fr sl_W 245 K0 R0 M0 245 K R M → gm_Wp X LX 3 0 0 294 70 [some (gm_vr 226), some (gm_vi kind), some (gm_vi sum), some (gm_vi nn)] [gm_vi x, gm_vi sum] 245 K R M (ck_Q p2_O σ sl_W 245 K0 R0 M0 sl_so) := by
        intro x K R M hF hfr
        refine gm_sz (gm_p_bin (pc := 70) (i := .iadd) (f := fun x y => x + y) (by decide +kernel) rfl) ?_
        refine gm_sz (gm_p_stor (pc := 71) (i := .istore_n 2) (sr := 0) (j := 2) (by decide +kernel) rfl (show 2 + 0 < 4 by decide) rfl) ?_
        refine gm_sz (gm_p_iinc (pc := 72) (j := 3) (z := 1) (x := nn) (by decide +kernel) rfl) ?_
        refine gm_sz (gm_p_goto (pc := 75) (off := -71) (by decide +kernel) (by decide)) ?_
        exact ih (nn + 1) (sum + x) K R M (by omega) (by omega) hF hfr
      have t69 : ∀ (K : gm_K) (R : gm_R) (M : gm_M), gm_Fx p2_O 245 K R M → ck_fr sl_W 245 K0 R0 M0 245 K R M → gm_Wp X LX 3 0 0 294 69 [some (gm_vr 226), some (gm_vi kind), some (gm_vi sum), some (gm_vi nn)] [gm_vi sum] 245 K R M (ck_Q p2_O σ sl_W 245 K0 R0 M0 sl_so) := by
        intro K R M hF hfr
        refine gm_sz (gm_p_const (pc := 69) (i := .iconst 0) (v := gm_vi 0) (by decide +kernel) (by decide +kernel)) ?_
        exact tail 0 K R M hF hfr
      refine gm_sz (gm_p_load (pc := 4) (i := .aload_n 0) (sr := 2) (j := 0) (by decide +kernel) rfl rfl rfl) ?_
      refine gm_sz (gm_p_get (pc := 5) (ix := 13) (ci := 11) (j := 1) (by decide +kernel) (md_mo hF).1 (md_mo hF).2 (by decide +kernel)) ?_
      rw [if_pos (show gm_isr 11 1 = true by decide +kernel), md_rf hF md_r.1.1]
      refine gm_sz (gm_p_const (pc := 8) (i := .bipush 8) (v := gm_vi 8) (by decide +kernel) (by decide +kernel)) ?_
      refine gm_sz (gm_p_iald (pc := 10) (by decide +kernel) (md_kd hF md_o.1.2).1.1 (md_kd hF md_o.1.2).1.2 (by rw [w8, (md_kd hF md_o.1.2).2]; omega)) ?_
      rw [w8]
      refine gm_sz (gm_p_const (pc := 11) (i := .iconst 1) (v := gm_vi 1) (by decide +kernel) (by decide +kernel)) ?_
      refine gm_b_ic (cc := .ne) (pc := 12) (off := 66) (by decide +kernel) (by decide) (fun _ => ex sum nn K R M hF hfr) (fun _ => ?_)
      refine gm_sz (gm_p_load (pc := 15) (i := .iload_n 3) (sr := 0) (j := 3) (by decide +kernel) rfl rfl rfl) ?_
      refine gm_sz (gm_p_load (pc := 16) (i := .aload_n 0) (sr := 2) (j := 0) (by decide +kernel) rfl rfl rfl) ?_
      refine gm_sz (gm_p_get (pc := 17) (ix := 13) (ci := 11) (j := 1) (by decide +kernel) (md_mo hF).1 (md_mo hF).2 (by decide +kernel)) ?_
      rw [if_pos (show gm_isr 11 1 = true by decide +kernel), md_rf hF md_r.1.1]
      refine gm_sz (gm_p_const (pc := 20) (i := .sipush 395) (v := gm_vi 395) (by decide +kernel) (by decide +kernel)) ?_
      refine gm_sz (gm_p_iald (pc := 23) (by decide +kernel) (md_kd hF md_o.1.2).1.1 (md_kd hF md_o.1.2).1.2 (by rw [w395, (md_kd hF md_o.1.2).2]; omega)) ?_
      rw [w395]
      refine gm_b_ic (cc := .ge) (pc := 24) (off := 54) (by decide +kernel) (by decide) (fun _ => ex sum nn K R M hF hfr) (fun hp => ?_)
      rw [gm_cm_w ⟨by omega, by omega⟩ ⟨by omega, by omega⟩] at hp
      have hp : ¬ M 227 395 ≤ nn := hp
      refine gm_sz (gm_p_load (pc := 27) (i := .iload_n 2) (sr := 0) (j := 2) (by decide +kernel) rfl rfl rfl) ?_
      refine gm_sz (gm_p_load (pc := 28) (i := .aload_n 0) (sr := 2) (j := 0) (by decide +kernel) rfl rfl rfl) ?_
      refine gm_sz (gm_p_get (pc := 29) (ix := 13) (ci := 11) (j := 1) (by decide +kernel) (md_mo hF).1 (md_mo hF).2 (by decide +kernel)) ?_
      rw [if_pos (show gm_isr 11 1 = true by decide +kernel), md_rf hF md_r.1.1]
      refine gm_sz (gm_p_const (pc := 32) (i := .sipush 396) (v := gm_vi 396) (by decide +kernel) (by decide +kernel)) ?_
      refine gm_sz (gm_p_const (pc := 35) (i := .iconst 4) (v := gm_vi 4) (by decide +kernel) (by decide +kernel)) ?_
      refine gm_sz (gm_p_load (pc := 36) (i := .iload_n 3) (sr := 0) (j := 3) (by decide +kernel) rfl rfl rfl) ?_
      refine gm_sz (gm_p_bin (pc := 37) (i := .imul) (f := fun x y => x * y) (by decide +kernel) rfl) ?_
      refine gm_sz (gm_p_bin (pc := 38) (i := .iadd) (f := fun x y => x + y) (by decide +kernel) rfl) ?_
      refine gm_sz (gm_p_iald (pc := 39) (by decide +kernel) (md_kd hF md_o.1.2).1.1 (md_kd hF md_o.1.2).1.2 (by rw [wk, (md_kd hF md_o.1.2).2]; omega)) ?_
      rw [wk]
      refine gm_sz (gm_p_load (pc := 40) (i := .iload_n 1) (sr := 0) (j := 1) (by decide +kernel) rfl rfl rfl) ?_
      refine gm_b_ic (cc := .ne) (pc := 41) (off := 28) (by decide +kernel) (by decide) (fun _ => t69 K R M hF hfr) (fun _ => ?_)
      refine gm_sz (gm_p_load (pc := 44) (i := .aload_n 0) (sr := 2) (j := 0) (by decide +kernel) rfl rfl rfl) ?_
      refine gm_sz (gm_p_load (pc := 45) (i := .iload_n 3) (sr := 0) (j := 3) (by decide +kernel) rfl rfl rfl) ?_
      refine gm_c_virt (k := 226) (ci := 11) (mj := 295) (ix := 327) (pc := 46) (as := [gm_vi nn]) (st := [gm_vi sum]) (d' := 2) (bc' := 0) (bs' := 0) (by decide +kernel) (by decide +kernel) (by decide +kernel) (by decide +kernel) (md_mo hF).1 (md_mo hF).2 (by decide) (by decide +kernel) (show 1 = gm_na 295 by decide +kernel) (fun v hv => by rw [List.mem_singleton.mp hv]; simp [gm_sort]) (show 1 + 1 ≤ gm_ml 295 by decide +kernel) (Nat.le_of_ble_eq_true rfl) (by decide) (Nat.zero_le _) (Nat.zero_le _) ?_
      refine gm_Wp_mono (fun o n K1 R1 M1 h => ?_) (sl_hold (σ := σ) hF ⟨h0, by omega⟩ (by omega))
      obtain ⟨f1, f2, oc, f3, f4, f5, -⟩ := h
      rw [List.mem_singleton.mp f3] at f4 f5
      have f5 : n = 245 := f5
      subst f5
      have f6 := ck_fr_tr hfr f2 (by decide) (by decide)
      rcases o with (_ | v) | x
      · exact absurd f4 id
      · obtain ⟨b, rfl, -, -, -, -⟩ := f4
        show gm_Wp X LX 3 0 0 294 49 [some (gm_vr 226), some (gm_vi kind), some (gm_vi sum), some (gm_vi nn)] [gm_vi b, gm_vi sum] 245 K1 R1 M1 (ck_Q p2_O σ sl_W 245 K0 R0 M0 sl_so)
        refine gm_b_if (cc := .eq) (pc := 49) (off := 20) (by decide +kernel) (by decide) (fun _ => t69 K1 R1 M1 f1 f6) (fun _ => ?_)
        refine gm_sz (gm_p_load (pc := 52) (i := .aload_n 0) (sr := 2) (j := 0) (by decide +kernel) rfl rfl rfl) ?_
        refine gm_sz (gm_p_get (pc := 53) (ix := 13) (ci := 11) (j := 1) (by decide +kernel) (md_mo f1).1 (md_mo f1).2 (by decide +kernel)) ?_
        rw [if_pos (show gm_isr 11 1 = true by decide +kernel), md_rf f1 md_r.1.1]
        refine gm_sz (gm_p_const (pc := 56) (i := .sipush 396) (v := gm_vi 396) (by decide +kernel) (by decide +kernel)) ?_
        refine gm_sz (gm_p_const (pc := 59) (i := .iconst 4) (v := gm_vi 4) (by decide +kernel) (by decide +kernel)) ?_
        refine gm_sz (gm_p_load (pc := 60) (i := .iload_n 3) (sr := 0) (j := 3) (by decide +kernel) rfl rfl rfl) ?_
        refine gm_sz (gm_p_bin (pc := 61) (i := .imul) (f := fun x y => x * y) (by decide +kernel) rfl) ?_
        refine gm_sz (gm_p_bin (pc := 62) (i := .iadd) (f := fun x y => x + y) (by decide +kernel) rfl) ?_
        refine gm_sz (gm_p_const (pc := 63) (i := .iconst 1) (v := gm_vi 1) (by decide +kernel) (by decide +kernel)) ?_
        refine gm_sz (gm_p_bin (pc := 64) (i := .iadd) (f := fun x y => x + y) (by decide +kernel) rfl) ?_
        refine gm_sz (gm_p_iald (pc := 65) (by decide +kernel) (md_kd f1 md_o.1.2).1.1 (md_kd f1 md_o.1.2).1.2 (by rw [wk1, (md_kd f1 md_o.1.2).2]; omega)) ?_
        rw [wk1]
        refine gm_sz (gm_p_goto (pc := 66) (off := 4) (by decide +kernel) (by decide)) ?_
        exact tail _ K1 R1 M1 f1 f6
      · exact absurd f4 id
  refine gm_sz (gm_p_const (pc := 0) (i := .iconst 0) (v := gm_vi 0) (by decide +kernel) (by decide +kernel)) ?_
  refine gm_sz (gm_p_stor (pc := 1) (i := .istore_n 2) (sr := 0) (j := 2) (by decide +kernel) rfl (show 2 + 0 < 4 by decide) rfl) ?_
  refine gm_sz (gm_p_const (pc := 2) (i := .iconst 0) (v := gm_vi 0) (by decide +kernel) (by decide +kernel)) ?_
  refine gm_sz (gm_p_stor (pc := 3) (i := .istore_n 3) (sr := 0) (j := 3) (by decide +kernel) rfl (show 3 + 0 < 4 by decide) rfl) ?_
  exact key 12 0 0 K0 R0 M0 (by decide) (by decide) hF0 ck_fr_0
end SL
end
/-! 48.gy -/
section
/-! YEARS of the class: how many there may be is looked at as a difference, by hand. -/
section GY
variable {X : Int → Int} {LX : Nat}
end GY
end
/-! 70.jg -/
section
/-! THE REFERENCE'S law(): what is laid down of a text, counted. -/
/-- steps from a to b, reckoned, leave h numbers -/
noncomputable def jD (f : Int → Int) (a b h : Int) : Prop := ∃ G : Int → Int, G a = 0 ∧ G b = h ∧ ∀ i, a ≤ i → i < b → jS (f (49 + 2 * i)) (G i) (G (i + 1))
/-- the first c lines are whole, up to step e -/
noncomputable def jL (f : Int → Int) (c e : Int) : Prop := ∀ n : Int, 0 ≤ n → n < c → n < 12 → (0 ≤ f (3 + 4 * n) ∧ f (3 + 4 * n) ≤ f (4 + 4 * n) ∧ f (4 + 4 * n) ≤ e) ∧ ∃ G : Int → Int, G (f (3 + 4 * n)) = 0 ∧ ∀ i, f (3 + 4 * n) ≤ i → i < f (4 + 4 * n) → jS (f (49 + 2 * i)) (G i) (G (i + 1))
theorem jD_cg {f g : Int → Int} {a b h : Int} (h1 : ∀ i, a ≤ i → i < b → g (49 + 2 * i) = f (49 + 2 * i)) (hf : jD f a b h) : jD g a b h := by
  obtain ⟨G, g1, g2, g3⟩ := hf
  refine ⟨G, g1, g2, fun i h2 h3 => ?_⟩
  rw [h1 i h2 h3]
  exact g3 i h2 h3
theorem jL_cg {f g : Int → Int} {c e : Int} (h1 : ∀ i, 0 ≤ i → i < e → g (49 + 2 * i) = f (49 + 2 * i)) (h2 : ∀ n : Int, 0 ≤ n → n < c → n < 12 → g (3 + 4 * n) = f (3 + 4 * n) ∧ g (4 + 4 * n) = f (4 + 4 * n)) (hf : jL f c e) : jL g c e := by
  intro n n1 n2 n3
  obtain ⟨e1, e2⟩ := h2 n n1 n2 n3
  obtain ⟨⟨a1, a2, a3⟩, G, g1, g2⟩ := hf n n1 n2 n3
  rw [e1, e2]
  refine ⟨⟨a1, a2, a3⟩, G, g1, fun i i1 i2 => ?_⟩
  rw [h1 i (by omega) (by omega)]
  exact g2 i i1 i2
theorem jL_e {f : Int → Int} {c e e' : Int} (h : e ≤ e') (hf : jL f c e) : jL f c e' := by
  intro n n1 n2 n3
  obtain ⟨⟨a1, a2, a3⟩, G⟩ := hf n n1 n2 n3
  exact ⟨⟨a1, a2, by omega⟩, G⟩
theorem jL_0 {f : Int → Int} {e : Int} : jL f 0 e := fun n n1 n2 _ => by omega
theorem jD_0 {f : Int → Int} {a : Int} : jD f a a 0 := ⟨fun _ => 0, rfl, rfl, fun i h1 h2 => by omega⟩
/-- a step more -/
theorem jD_s {f g : Int → Int} {a b h s h' : Int} (hab : a ≤ b) (hf : jD f a b h) (hs : jS s h h') (h1 : ∀ i, a ≤ i → i < b → g (49 + 2 * i) = f (49 + 2 * i)) (h2 : g (49 + 2 * b) = s) : jD g a (b + 1) h' := by
  obtain ⟨G, g1, g2, g3⟩ := hf
  refine ⟨fun i => if i = b + 1 then h' else G i, ?_, ?_, fun i i1 i2 => ?_⟩
  · show (if a = b + 1 then h' else G a) = 0
    rw [if_neg (by omega)]
    exact g1
  · show (if b + 1 = b + 1 then h' else G (b + 1)) = h'
    rw [if_pos rfl]
  · show jS (g (49 + 2 * i)) (if i = b + 1 then h' else G i) (if i + 1 = b + 1 then h' else G (i + 1))
    rw [if_neg (by omega)]
    by_cases e : i = b
    · rw [if_pos (by omega), e, h2, g2]
      exact hs
    · rw [if_neg (by omega), h1 i i1 (by omega)]
      exact g3 i i1 (by omega)
/-- no more numbers than steps -/
theorem jD_le {f : Int → Int} {a b h : Int} (hab : a ≤ b) (hf : jD f a b h) : h ≤ b - a := by
  obtain ⟨G, g1, g2, g3⟩ := hf
  have key : ∀ (m : Nat) (i : Int), i - a = (m : Int) → i ≤ b → G i ≤ i - a := by
    intro m
    induction m with
    | zero =>
      intro i h1 _
      have : i = a := by omega
      subst this
      omega
    | succ m ih =>
      intro i h1 h2
      have h3 := ih (i - 1) (by omega) (by omega)
      obtain ⟨s1, s2, s3⟩ := g3 (i - 1) (by omega) (by omega)
      rw [show i - 1 + 1 = i by omega] at s1 s2 s3
      generalize hk : f (49 + 2 * (i - 1)) = k at *
      by_cases c1 : k ≤ 10
      · have := s1 c1; omega
      · by_cases c2 : k = 14
        · have := s2 c2; omega
        · have := s3 (by omega) c2; omega
  rw [← g2]
  exact key (b - a).toNat b (by omega) (by omega)
/-- lines and steps: a text -/
theorem jT_of {f : Int → Int} {c e : Int} (he : e ≤ 400) (h0 : f 0 ≤ c) (hf : jL f c e) : jT f := by
  intro n n1 n2 n3
  obtain ⟨⟨a1, a2, a3⟩, G⟩ := hf n n1 (by omega) n2
  exact ⟨⟨a1, a2, by omega⟩, G⟩
/-- the line that was begun at a is whole -/
theorem jL_s {f g : Int → Int} {c a b h : Int} (hc : 0 ≤ c) (ha : 0 ≤ a) (hab : a ≤ b) (hb : b ≤ 400) (hf : jL f c a) (hd : jD f a b h) (h3 : f (3 + 4 * c) = a) (h4 : g (4 + 4 * c) = b) (hg : ∀ j, ¬ j = 4 + 4 * c → g j = f j) (h12 : c < 12) : jL g (c + 1) b := by
  intro n n1 n2 n3
  have hst : ∀ i : Int, 0 ≤ i → g (49 + 2 * i) = f (49 + 2 * i) := fun i hi => hg _ (by omega)
  by_cases e : n = c
  · subst e
    rw [h4, hg _ (by omega), h3]
    obtain ⟨G, g1, g2, g3⟩ := hd
    refine ⟨⟨ha, hab, by omega⟩, G, g1, fun i i1 i2 => ?_⟩
    rw [hst i (by omega)]
    exact g3 i i1 i2
  · obtain ⟨⟨a1, a2, a3⟩, G, g1, g2⟩ := hf n n1 (by omega) n3
    rw [hg _ (by omega), hg _ (by omega)]
    refine ⟨⟨a1, a2, by omega⟩, G, g1, fun i i1 i2 => ?_⟩
    rw [hst i (by omega)]
    exact g2 i i1 i2
noncomputable def jX (M : gm_M) : Prop := ((M 0 4 = M 226 9 - M 226 11 ∧ M 0 5 = M 0 3 + M 0 4 ∧ M 0 3 = M 226 11 - M 226 15) ∧ (0 ≤ M 0 1 ∧ M 0 1 ≤ M 226 15 ∧ M 226 15 ≤ 400) ∧ (M 0 6 = 1 → (0 ≤ M 0 2 ∧ M 0 2 < 12) ∧ M 227 (1244 + (3 + 4 * M 0 2)) = M 0 1)) ∧ jD (fun j => M 227 (1244 + j)) (M 0 1) (M 226 15) (M 0 0) ∧ jL (fun j => M 227 (1244 + j)) (M 0 2) (M 0 1)
noncomputable def jG (t : List (Int × Int × Int × Int)) (K : gm_K) (M : gm_M) : Prop := j_J t K M ∧ jX M
noncomputable def jg_e (k : Nat) : List (Int × Int) := if k = 0 then [(0, 6)] else if k = 226 then [(9, 9), (11, 11), (15, 15)] else if k = 227 then [(1247, 1248), (1251, 1252), (1255, 1256), (1259, 1260), (1263, 1264), (1267, 1268), (1271, 1272), (1275, 1276), (1279, 1280), (1283, 1284), (1287, 1288), (1291, 1292), (1293, 2092)] else []
noncomputable def jg_fp (k : Nat) : List (Int × Int) := j_fp k ++ jg_e k
theorem jg_l : (List.range 12).all (fun (n : Nat) => decide ((1247 + 4 * (n : Int), 1248 + 4 * (n : Int)) ∈ jg_e 227)) = true := by decide +kernel
theorem jX_cg {M M' : gm_M} (h : ∀ k r, r ∈ jg_e k → ∀ j, r.1 ≤ j → j ≤ r.2 → M' k j = M k j) (hX : jX M) : jX M' := by
  have h0 : ∀ j, 0 ≤ j → j ≤ 6 → M' 0 j = M 0 j := fun j h1 h2 => h 0 (0, 6) (by decide) j h1 h2
  have h9 : M' 226 9 = M 226 9 := h 226 (9, 9) (by decide) 9 (by decide) (by decide)
  have h11 : M' 226 11 = M 226 11 := h 226 (11, 11) (by decide) 11 (by decide) (by decide)
  have h15 : M' 226 15 = M 226 15 := h 226 (15, 15) (by decide) 15 (by decide) (by decide)
  have hs : ∀ j, 49 ≤ j → j ≤ 848 → M' 227 (1244 + j) = M 227 (1244 + j) := fun j h1 h2 => h 227 (1293, 2092) (by decide +kernel) _ (by dsimp only; omega) (by dsimp only; omega)
  have hl : ∀ n : Int, 0 ≤ n → n < 12 → M' 227 (1244 + (3 + 4 * n)) = M 227 (1244 + (3 + 4 * n)) ∧ M' 227 (1244 + (4 + 4 * n)) = M 227 (1244 + (4 + 4 * n)) := by
    intro n n1 n2
    obtain ⟨m, rfl⟩ : ∃ m : Nat, n = (m : Int) := ⟨n.toNat, by omega⟩
    have hm := of_decide_eq_true (List.all_eq_true.mp jg_l m (List.mem_range.mpr (by omega)))
    exact ⟨h 227 _ hm _ (by dsimp only; omega) (by dsimp only; omega), h 227 _ hm _ (by dsimp only; omega) (by dsimp only; omega)⟩
  obtain ⟨⟨⟨a1, a2, a3⟩, ⟨b1, b2, b3⟩, c1⟩, d1, e1⟩ := hX
  unfold jX
  rw [h0 0 (by decide) (by decide), h0 1 (by decide) (by decide), h0 2 (by decide) (by decide), h0 3 (by decide) (by decide), h0 4 (by decide) (by decide), h0 5 (by decide) (by decide), h0 6 (by decide) (by decide), h9, h11, h15]
  refine ⟨⟨⟨a1, a2, a3⟩, ⟨b1, b2, b3⟩, fun h6 => ?_⟩, jD_cg (fun i i1 i2 => hs _ (by omega) (by omega)) d1, jL_cg (fun i i1 i2 => hs _ (by omega) (by omega)) (fun n n1 _ n3 => hl n n1 n3) e1⟩
  obtain ⟨c2, c3⟩ := c1 h6
  exact ⟨c2, by rw [(hl _ c2.1 c2.2).1]; exact c3⟩
theorem jg_h {t : List (Int × Int × Int × Int)} : gm_hP jg_fp (jG t) (some (226, 9, 11)) := by
  refine ⟨fun K K' M M' hK h hJ => ⟨j_h K K' M M' (fun k r hr => hK k r (List.mem_append_left _ hr)) (fun k r hr => h k r (List.mem_append_left _ hr)) hJ.1, jX_cg (fun k r hr => h k r (List.mem_append_right _ hr)) hJ.2⟩, fun g hg => ?_⟩
  cases hg
  refine ⟨fun K M hJ => ?_, ⟨by decide, by decide⟩, fun K M M' hJ h e4 e5 e3 => ?_⟩
  · obtain ⟨-, ⟨⟨a1, a2, a3⟩, ⟨b1, b2, b3⟩, -⟩, -⟩ := hJ
    exact ⟨a1, a2, by show M 0 3 ≤ M 226 11; omega⟩
  · have hM : ∀ c, ¬ c = 226 → ¬ c = 0 → M' c = M c := fun c c1 c2 => funext fun j => h c j (fun e => c1 e.1) (fun e => c2 e.1)
    have h0 : ∀ j, ¬ (j = 3 ∨ j = 4 ∨ j = 5) → M' 0 j = M 0 j := fun j hj => h 0 j (fun e => absurd e.1 (by decide)) (fun e => hj e.2)
    have h15 : M' 226 15 = M 226 15 := h 226 15 (fun e => absurd e.2 (by decide)) (fun e => absurd e.1 (by decide))
    obtain ⟨hJ, ⟨⟨a1, a2, a3⟩, ⟨b1, b2, b3⟩, c1⟩, d1, e1⟩ := hJ
    have e4 : M' 0 4 = M' 226 9 - M' 226 11 := e4
    have e3 : M' 0 3 - M' 226 11 = M 0 3 - M 226 11 := e3
    refine ⟨?_, ?_⟩
    · unfold j_J at hJ ⊢
      rw [hM 227 (by decide) (by decide), hM 228 (by decide) (by decide), hM 229 (by decide) (by decide), hM 230 (by decide) (by decide)]
      exact hJ
    · unfold jX
      rw [h0 0 (by decide), h0 1 (by decide), h0 2 (by decide), h0 6 (by decide), h15, hM 227 (by decide) (by decide)]
      exact ⟨⟨⟨e4, e5, by omega⟩, ⟨b1, b2, b3⟩, c1⟩, d1, e1⟩
noncomputable def pg_nm : List (Nat × Nat × Int) := p2_nm ++ [(30, 0, 0), (31, 0, 3), (32, 0, 4), (33, 0, 5)]
noncomputable abbrev pg_O : gm_Or := ck_OG p2_T jg_fp (jG p2_ty) pg_nm (some (226, 9, 11)) jg_h
theorem pg_nmk : pg_nm.all (fun q => decide (pg_nm.find? (fun p => p.1 == q.1) = some q)) = true := by decide +kernel
theorem pg_nmu : ck_nmu pg_O := fun q hq => of_decide_eq_true (List.all_eq_true.mp pg_nmk q hq)
theorem pg_p2 {n : Nat} {K : gm_K} {R : gm_R} {M : gm_M} (h : gm_Fx pg_O n K R M) : gm_Fx p2_O n K R M := ⟨h.1, h.2.1, h.2.2.1, fun k r hr => h.2.2.2.1 k r (List.mem_append_left _ hr), h.2.2.2.2.1⟩
theorem p2_pg {n : Nat} {K : gm_K} {R : gm_R} {M : gm_M} (h : gm_Fx p2_O n K R M) (hX : jX M) : gm_Fx pg_O n K R M := by
  refine ⟨h.1, h.2.1, h.2.2.1, fun k r hr => ?_, h.2.2.2.2, hX⟩
  rcases List.mem_append.mp hr with hr | hr
  · exact h.2.2.2.1 k r hr
  · have h1 := (md_mo h).1.2
    have h2 := (md_kd h md_o.1.2).1.1.2
    unfold jg_e at hr
    split at hr
    · omega
    · split at hr
      · omega
      · split at hr
        · omega
        · cases hr
end
/-! 71.em -/
section
/-! THE REFERENCE'S law(): steps that are laid down, lines that begin and end, by hand. -/
theorem gm_Ft_W {O : gm_Or} {n : Nat} {M : gm_M} {k : Nat} {j v a b lo hi : Int} (hF : gm_Ft O n M) (h : gm_tyv O k lo hi a b = true) (h1 : lo ≤ j) (h2 : j ≤ hi) (h3 : a ≤ v) (h4 : v ≤ b) : gm_Ft O n (gm_uM M k j v) := by
  intro c r hr
  obtain ⟨g1, g2⟩ := hF c r hr
  refine ⟨g1, fun i h5 h6 => ?_⟩
  unfold gm_uM
  split
  · rename_i e
    obtain ⟨rfl, rfl⟩ := e
    have h7 := List.all_eq_true.mp (gm_tyv_def.symm.trans h) r hr
    simp only [Bool.or_eq_true, Bool.and_eq_true, decide_eq_true_eq] at h7
    rcases h7 with h7 | h7 | ⟨h7, h8, h9, h10⟩
    · omega
    · omega
    · exact ⟨⟨by omega, by omega⟩, by omega, by omega⟩
  · exact g2 i h5 h6
theorem ck_gf_cws {σ : Nat → Int} {F : ck_F} {n : Nat} {K : gm_K} {R : gm_R} {M M' : gm_M} {ws : List (Nat × Int × Int)} (h : ck_gf σ F n K R M) (hM : ∀ c j, (∀ w ∈ ws, ¬ (w.1 = c ∧ w.2.1 ≤ j ∧ j ≤ w.2.2)) → M' c j = M c j) : ∀ q ∈ ck_cws ws F.2.2, q.1 ≤ n ∧ ∀ j, q.2.1 ≤ j → j ≤ q.2.2.1 → gm_ir (M' q.1 j) ∧ ck_gi σ q.2.2.2 (M' q.1 j) := by
  intro q hq
  obtain ⟨p, hp, e1, e2, e3⟩ := ck_cws_s (ws := ws) (l := F.2.2) hq
  have h3 := h.2.2 p hp
  refine ⟨by rw [e1]; exact h3.1, fun j h4 h5 => ?_⟩
  obtain ⟨h6, h7⟩ := e3 j h4 h5
  rw [hM q.1 j (fun w hw => by rw [e1]; exact h7 w hw), e1, e2]
  exact h3.2 j h6.1 h6.2
theorem ck_f1 {σ : Nat → Int} {n : Nat} {M : gm_M} {k : Nat} {j : Int} {a : ck_I} (hk : k ≤ n) (hr : gm_ir (M k j)) (hv : ck_gi σ a (M k j)) : ((k, j, j, a) : Nat × Int × Int × ck_I).1 ≤ n ∧ ∀ i, ((k, j, j, a) : Nat × Int × Int × ck_I).2.1 ≤ i → i ≤ ((k, j, j, a) : Nat × Int × Int × ck_I).2.2.1 → gm_ir (M ((k, j, j, a) : Nat × Int × Int × ck_I).1 i) ∧ ck_gi σ ((k, j, j, a) : Nat × Int × Int × ck_I).2.2.2 (M ((k, j, j, a) : Nat × Int × Int × ck_I).1 i) := by
  refine ⟨hk, fun i h1 h2 => ?_⟩
  have h1 : j ≤ i := h1
  have h2 : i ≤ j := h2
  have h3 : i = j := by omega
  subst h3
  exact ⟨hr, hv⟩
theorem ck_gt1 {σ : Nat → Int} {s : Nat} {z x : Int} (hs : s < 1000000) (h : x = σ s + z) : ck_gt σ [(s, z)] x := fun q hq => by
  rw [List.mem_singleton.mp hq]
  exact ⟨fun _ => h, fun h => absurd hs (Nat.not_lt.mpr h)⟩
theorem jfp_b {k : Nat} {r : Int × Int} (h : r ∈ j_fp k) : 227 ≤ k ∧ (k = 227 → r.2 ≤ 1243) := by
  by_cases e : k = 227
  · subst e
    exact ⟨by decide, fun _ => of_decide_eq_true (List.all_eq_true.mp (show (j_fp 227).all (fun r => decide (r.2 ≤ 1243)) = true by decide +kernel) r h)⟩
  · refine ⟨?_, fun e2 => absurd e2 e⟩
    unfold j_fp at h
    split at h
    · omega
    · split at h
      · omega
      · split at h
        · omega
        · split at h
          · omega
          · cases h
theorem j_J_w {t : List (Int × Int × Int × Int)} {K : gm_K} {M M' : gm_M} (h : ∀ k j, 227 ≤ k → (k = 227 → j ≤ 1243) → M' k j = M k j) (hJ : j_J t K M) : j_J t K M' := j_h K K M M' (fun _ _ _ => rfl) (fun k r hr j _ j2 => h k j (jfp_b hr).1 (fun e => by have := (jfp_b hr).2 e; omega)) hJ
theorem pg_t0 {j a b : Int} : gm_tyv pg_O 0 j j a b = true := by
  rw [gm_tyv_def]
  rw [show pg_O.2.2.ty 0 = [] by decide +kernel]
  rfl
theorem pg_ts : gm_tyv pg_O 227 1293 2092 (-1) 999 = true := by decide +kernel
theorem pg_t15 : gm_tyv pg_O 226 15 15 0 400 = true := by decide +kernel
theorem pg_p9 : gm_tyr pg_O 226 9 9 = some (0, 400) := by decide +kernel
theorem pg_p11 : gm_tyr pg_O 226 11 11 = some (0, 400) := by decide +kernel
theorem pg_tl : (List.range 12).all (fun (n : Nat) => gm_tyv pg_O 227 (1247 + 4 * (n : Int)) (1247 + 4 * (n : Int)) 0 400 && gm_tyv pg_O 227 (1248 + 4 * (n : Int)) (1248 + 4 * (n : Int)) 0 400) = true := by decide +kernel
section EM
variable {X : Int → Int} {LX : Nat}
noncomputable def em_M (M : gm_M) (st s nn h : Int) : gm_M := gm_uM (gm_uM (gm_uM (gm_uM (gm_uM (gm_uM M 227 (1293 + 2 * st) s) 227 (1293 + 2 * st + 1) nn) 226 15 (st + 1)) 0 0 h) 0 3 (M 0 3 - 1)) 0 5 (M 0 5 - 1)
noncomputable def em_W : List (Nat × Int × Int) × List (Nat × Int) := ([((0 : Nat), (0 : Int), (0 : Int)), ((0 : Nat), (3 : Int), (3 : Int)), ((0 : Nat), (5 : Int), (5 : Int)), ((226 : Nat), (15 : Int), (15 : Int)), ((227 : Nat), (1293 : Int), (2092 : Int))], [])
noncomputable def em_S (lo hi h0 dh h1 h2 : Int) : ck_Sum := ((1, 0, 0), 245, [.inr (.inr (.inl 226)), .inl (lo, hi, []), .inl (-1, 999, [])], ([], [], [(0, 0, 0, (h0, 400, [(30, 0)])), (0, 3, 3, (-400, 400, [(31, 0)])), (0, 5, 5, (1, 400, [(33, 0)]))]), em_W, [(.inr none, 245, ([], [], [(0, 0, 0, (h1, h2, [(30, dh)])), (0, 3, 3, (-400, 399, [(31, -1)])), (0, 5, 5, (0, 399, [(33, -1)])), (226, 15, 15, (1, 400, [(2, 1)]))]))])
theorem em_s {lo hi h0 dh h1 h2 : Int} (hlo : -1 ≤ lo ∧ hi ≤ 999) (hk : ∀ s h, lo ≤ s → s ≤ hi → h0 ≤ h → jS s h (h + dh)) (hh1 : (0 ≤ h0 ∧ 0 ≤ h1) ∧ h1 ≤ h0 + dh) (hh2 : 400 ≤ h2 ∨ 400 + dh ≤ h2) : ck_Ok pg_O X LX 279 (em_S lo hi h0 dh h1 h2) := by
  intro d σ vs n K R M hd hn hvs hnm hF hf
  obtain ⟨_, _, rfl, rfl, _, _, rfl, ⟨s, rfl, -, u1, u2, -⟩, _, _, rfl, ⟨nn, rfl, -, u3, u4, -⟩, rfl⟩ := hvs
  have u1 : lo ≤ s := u1
  have u2 : s ≤ hi := u2
  have u3 : (-1 : Int) ≤ nn := u3
  have u4 : nn ≤ (999 : Int) := u4
  have hn : n = 245 := hn
  subst hn
  have hP := pg_p2 hF
  have f0 := (hf.2.2 (0, 0, 0, (h0, 400, [(30, 0)])) List.mem_cons_self).2 0 (Int.le_refl _) (Int.le_refl _)
  have f01 : h0 ≤ M 0 0 := f0.2.1
  have f02 : M 0 0 ≤ (400 : Int) := f0.2.2.1
  have f3 := (hf.2.2 (0, 3, 3, (-400, 400, [(31, 0)])) (List.mem_cons_of_mem _ List.mem_cons_self)).2 3 (Int.le_refl _) (Int.le_refl _)
  have f31 : (-400 : Int) ≤ M 0 3 := f3.2.1
  have f32 : M 0 3 ≤ (400 : Int) := f3.2.2.1
  have f5 := (hf.2.2 (0, 5, 5, (1, 400, [(33, 0)])) (List.mem_cons_of_mem _ (List.mem_cons_of_mem _ List.mem_cons_self))).2 5 (Int.le_refl _) (Int.le_refl _)
  have f51 : (1 : Int) ≤ M 0 5 := f5.2.1
  have f52 : M 0 5 ≤ (400 : Int) := f5.2.2.1
  have p9 := ((gm_tyr_s hF pg_p9).2 9 (Int.le_refl _) (Int.le_refl _)).2
  have p92 : M 226 9 ≤ (400 : Int) := p9.2
  have p11 := ((gm_tyr_s hF pg_p11).2 11 (Int.le_refl _) (Int.le_refl _)).2
  have p111 : (0 : Int) ≤ M 226 11 := p11.1
  have s30 : σ 30 = M 0 0 := hnm (30, 0, 0) (by decide +kernel)
  have s31 : σ 31 = M 0 3 := hnm (31, 0, 3) (by decide +kernel)
  have s33 : σ 33 = M 0 5 := hnm (33, 0, 5) (by decide +kernel)
  have s2 : σ 2 = M 226 15 := hnm (2, 226, 15) (by decide +kernel)
  obtain ⟨hJ, ⟨⟨a1, a2, a3⟩, ⟨b1, b2, b3⟩, c1⟩, d1, e1⟩ := hF.2.2.2.2
  generalize hst : M 226 15 = st at *
  have h399 : st ≤ 399 := by omega
  have w1 : gm_w (1293 + 2 * st) = 1293 + 2 * st := w2 (by omega)
  have w2q : gm_w (1293 + 2 * st + 1) = 1293 + 2 * st + 1 := w2 (by omega)
  refine gm_sz (gm_p_load (pc := 0) (i := .aload_n 0) (sr := 2) (j := 0) (by decide +kernel) rfl rfl rfl) ?_
  refine gm_sz (gm_p_get (pc := 1) (ix := 13) (ci := 11) (j := 1) (by decide +kernel) (md_mo hP).1 (md_mo hP).2 (by decide +kernel)) ?_
  rw [if_pos (show gm_isr 11 1 = true by decide +kernel), md_rf hP md_r.1.1]
  refine gm_sz (gm_p_const (pc := 4) (i := .sipush 1293) (v := gm_vi 1293) (by decide +kernel) (by decide +kernel)) ?_
  refine gm_sz (gm_p_const (pc := 7) (i := .iconst 2) (v := gm_vi 2) (by decide +kernel) (by decide +kernel)) ?_
  refine gm_sz (gm_p_load (pc := 8) (i := .aload_n 0) (sr := 2) (j := 0) (by decide +kernel) rfl rfl rfl) ?_
  refine gm_sz (gm_p_get (pc := 9) (ix := 224) (ci := 11) (j := 15) (by decide +kernel) (md_mo hP).1 (md_mo hP).2 (by decide +kernel)) ?_
  rw [if_neg (show ¬ gm_isr 11 15 = true by decide +kernel), show M 226 ((15 : Nat) : Int) = st from hst]
  refine gm_sz (gm_p_bin (pc := 12) (i := .imul) (f := fun x y => x * y) (by decide +kernel) rfl) ?_
  refine gm_sz (gm_p_bin (pc := 13) (i := .iadd) (f := fun x y => x + y) (by decide +kernel) rfl) ?_
  refine gm_sz (gm_p_load (pc := 14) (i := .iload_n 1) (sr := 0) (j := 1) (by decide +kernel) rfl rfl rfl) ?_
  refine gm_sz (gm_p_iast (pc := 15) (by decide +kernel) (md_kd hP md_o.1.2).1.1 (md_kd hP md_o.1.2).1.2 (by rw [w1, (md_kd hP md_o.1.2).2]; omega)) ?_
  rw [w1]
  refine gm_sz (gm_p_load (pc := 16) (i := .aload_n 0) (sr := 2) (j := 0) (by decide +kernel) rfl rfl rfl) ?_
  refine gm_sz (gm_p_get (pc := 17) (ix := 13) (ci := 11) (j := 1) (by decide +kernel) (md_mo hP).1 (md_mo hP).2 (by decide +kernel)) ?_
  rw [if_pos (show gm_isr 11 1 = true by decide +kernel), md_rf hP md_r.1.1]
  refine gm_sz (gm_p_const (pc := 20) (i := .sipush 1293) (v := gm_vi 1293) (by decide +kernel) (by decide +kernel)) ?_
  refine gm_sz (gm_p_const (pc := 23) (i := .iconst 2) (v := gm_vi 2) (by decide +kernel) (by decide +kernel)) ?_
  refine gm_sz (gm_p_load (pc := 24) (i := .aload_n 0) (sr := 2) (j := 0) (by decide +kernel) rfl rfl rfl) ?_
  refine gm_sz (gm_p_get (pc := 25) (ix := 224) (ci := 11) (j := 15) (by decide +kernel) (md_mo hP).1 (md_mo hP).2 (by decide +kernel)) ?_
  rw [if_neg (show ¬ gm_isr 11 15 = true by decide +kernel), show gm_uM M 227 (1293 + 2 * st) s 226 ((15 : Nat) : Int) = st from (uM_ne (by omega)).trans hst]
  refine gm_sz (gm_p_bin (pc := 28) (i := .imul) (f := fun x y => x * y) (by decide +kernel) rfl) ?_
  refine gm_sz (gm_p_bin (pc := 29) (i := .iadd) (f := fun x y => x + y) (by decide +kernel) rfl) ?_
  refine gm_sz (gm_p_const (pc := 30) (i := .iconst 1) (v := gm_vi 1) (by decide +kernel) (by decide +kernel)) ?_
  refine gm_sz (gm_p_bin (pc := 31) (i := .iadd) (f := fun x y => x + y) (by decide +kernel) rfl) ?_
  refine gm_sz (gm_p_load (pc := 32) (i := .iload_n 2) (sr := 0) (j := 2) (by decide +kernel) rfl rfl rfl) ?_
  refine gm_sz (gm_p_iast (pc := 33) (by decide +kernel) (md_kd hP md_o.1.2).1.1 (md_kd hP md_o.1.2).1.2 (by rw [w2q, (md_kd hP md_o.1.2).2]; omega)) ?_
  rw [w2q]
  refine gm_sz (gm_p_load (pc := 34) (i := .aload_n 0) (sr := 2) (j := 0) (by decide +kernel) rfl rfl rfl) ?_
  refine gm_sz (gm_p_dup (pc := 35) (by decide +kernel) (by simp [gm_sort])) ?_
  refine gm_sz (gm_p_get (pc := 36) (ix := 224) (ci := 11) (j := 15) (by decide +kernel) (md_mo hP).1 (md_mo hP).2 (by decide +kernel)) ?_
  rw [if_neg (show ¬ gm_isr 11 15 = true by decide +kernel), show gm_uM (gm_uM M 227 (1293 + 2 * st) s) 227 (1293 + 2 * st + 1) nn 226 ((15 : Nat) : Int) = st from (uM_ne (by omega)).trans ((uM_ne (by omega)).trans hst)]
  refine gm_sz (gm_p_const (pc := 39) (i := .iconst 1) (v := gm_vi 1) (by decide +kernel) (by decide +kernel)) ?_
  refine gm_sz (gm_p_bin (pc := 40) (i := .iadd) (f := fun x y => x + y) (by decide +kernel) rfl) ?_
  refine gm_sz (gm_p_puti (pc := 41) (ix := 224) (ci := 11) (j := 15) (by decide +kernel) (md_mo hP).1 (md_mo hP).2 (by decide +kernel) (by decide +kernel) (Or.inl (by decide +kernel))) ?_
  have hD := jD_s (f := fun j => M 227 (1244 + j)) (g := fun j => em_M M st s nn (M 0 0 + dh) 227 (1244 + j)) (s := s) (h' := M 0 0 + dh) b2 d1 (hk s (M 0 0) u1 u2 f01) (fun i i1 i2 => by
    show em_M M st s nn (M 0 0 + dh) 227 (1244 + (49 + 2 * i)) = M 227 (1244 + (49 + 2 * i))
    unfold em_M
    rw [uM_ne (by omega), uM_ne (by omega), uM_ne (by omega), uM_ne (by omega), uM_ne (by omega), uM_ne (by omega)]) (by
    show em_M M st s nn (M 0 0 + dh) 227 (1244 + (49 + 2 * st)) = s
    unfold em_M
    rw [uM_ne (by omega), uM_ne (by omega), uM_ne (by omega), uM_ne (by omega), uM_ne (by omega)]
    unfold gm_uM
    rw [if_pos ⟨rfl, by omega⟩])
  have hle := jD_le (by omega) hD
  refine gm_Wp_g (M' := em_M M st s nn (M 0 0 + dh)) (fun c i hc => ?_) ?_
  · unfold em_M
    rw [uM_ne (by omega), uM_ne (by omega), uM_ne (by omega)]
    rfl
  have v00 : em_M M st s nn (M 0 0 + dh) 0 0 = M 0 0 + dh := by unfold em_M; rw [uM_ne (by omega), uM_ne (by omega), uM_at]
  have v03 : em_M M st s nn (M 0 0 + dh) 0 3 = M 0 3 - 1 := by unfold em_M; rw [uM_ne (by omega), uM_at]
  have v05 : em_M M st s nn (M 0 0 + dh) 0 5 = M 0 5 - 1 := by unfold em_M; rw [uM_at]
  have v15 : em_M M st s nn (M 0 0 + dh) 226 15 = st + 1 := by unfold em_M; rw [uM_ne (by omega), uM_ne (by omega), uM_ne (by omega), uM_at]
  have vx : ∀ (c : Nat) (j : Int), ¬ (c = 0 ∧ (j = 0 ∨ j = 3 ∨ j = 5)) → ¬ (c = 226 ∧ j = 15) → ¬ (c = 227 ∧ 1293 ≤ j) → em_M M st s nn (M 0 0 + dh) c j = M c j := fun c j x1 x2 x3 => by
    unfold em_M
    rw [uM_ne (by omega), uM_ne (by omega), uM_ne (by omega), uM_ne (by omega), uM_ne (by omega), uM_ne (by omega)]
  refine gm_r_void (pc := 44) (by decide +kernel) (by decide +kernel) ⟨⟨hF.1, hF.2.1, ?_, hF.2.2.2.1, ?_⟩, ?_, _, List.mem_cons_self, trivial, rfl, ⟨(fun _ h => nomatch h), (fun _ h => nomatch h), fun q hq => ?_⟩⟩
  · exact gm_Ft_M (gm_Ft_M (gm_Ft_M (gm_Ft_M (gm_Ft_W (gm_Ft_W hF.2.2.1 pg_ts (by omega) (by omega) (by omega) (by omega)) pg_ts (by omega) (by omega) u3 u4) pg_t15 (by omega) (by omega)) pg_t0 (Int.le_refl _) (Int.le_refl _)) pg_t0 (Int.le_refl _) (Int.le_refl _)) pg_t0 (Int.le_refl _) (Int.le_refl _)
  · refine ⟨j_J_w (fun k j k1 k2 => vx k j (by omega) (by omega) (fun x => by have := k2 x.1; omega)) hJ, ?_⟩
    unfold jX
    rw [v00, v03, v05, v15, vx 0 1 (by omega) (by omega) (by omega), vx 0 2 (by omega) (by omega) (by omega), vx 0 4 (by omega) (by omega) (by omega), vx 0 6 (by omega) (by omega) (by omega), vx 226 9 (by omega) (by omega) (by omega), vx 226 11 (by omega) (by omega) (by omega)]
    refine ⟨⟨⟨a1, by omega, by omega⟩, ⟨b1, by omega, by omega⟩, fun h6 => ?_⟩, hD, jL_cg (fun i i1 i2 => ?_) (fun n n1 _ n3 => ⟨vx _ _ (by omega) (by omega) (by omega), vx _ _ (by omega) (by omega) (by omega)⟩) e1⟩
    · obtain ⟨c2, c3⟩ := c1 h6
      exact ⟨c2, by rw [vx _ _ (by omega) (by omega) (by omega)]; exact c3⟩
    · show em_M M st s nn (M 0 0 + dh) 227 (1244 + (49 + 2 * i)) = M 227 (1244 + (49 + 2 * i))
      unfold em_M
      rw [uM_ne (by omega), uM_ne (by omega), uM_ne (by omega), uM_ne (by omega), uM_ne (by omega), uM_ne (by omega)]
  · show ck_fr em_W 245 K R M 245 K R _
    exact ck_fr_M (lo := 5) (hi := 5) (ck_fr_M (lo := 3) (hi := 3) (ck_fr_M (lo := 0) (hi := 0) (ck_fr_M (lo := 15) (hi := 15) (ck_fr_M (lo := 1293) (hi := 2092) (ck_fr_M (lo := 1293) (hi := 2092) ck_fr_0 (by decide) (by omega) (by omega)) (by decide) (by omega) (by omega)) (by decide) (by omega) (by omega)) (by decide) (by omega) (by omega)) (by decide) (by omega) (by omega)) (by decide) (by omega) (by omega)
  · rcases List.mem_cons.mp hq with rfl | hq
    · exact ck_f1 (Nat.zero_le _) (by rw [v00]; exact ⟨by omega, by omega⟩) (by rw [v00]; exact ⟨by show h1 ≤ _; omega, by show _ ≤ h2; omega, ck_gt1 (by decide) (by rw [s30])⟩)
    rcases List.mem_cons.mp hq with rfl | hq
    · exact ck_f1 (Nat.zero_le _) (by rw [v03]; exact ⟨by omega, by omega⟩) (by rw [v03]; exact ⟨by show (-400 : Int) ≤ _; omega, by show _ ≤ (399 : Int); omega, ck_gt1 (by decide) (by rw [s31]; rfl)⟩)
    rcases List.mem_cons.mp hq with rfl | hq
    · exact ck_f1 (Nat.zero_le _) (by rw [v05]; exact ⟨by omega, by omega⟩) (by rw [v05]; exact ⟨by show (0 : Int) ≤ _; omega, by show _ ≤ (399 : Int); omega, ck_gt1 (by decide) (by rw [s33]; rfl)⟩)
    rw [List.mem_singleton.mp hq]
    exact ck_f1 (show (226 : Nat) ≤ 245 by decide) (by rw [v15]; exact ⟨by omega, by omega⟩) (by rw [v15]; exact ⟨by show (1 : Int) ≤ _; omega, by show _ ≤ (400 : Int); omega, ck_gt1 (by decide) (by rw [s2])⟩)
/-- GlacierMailModel.emits -/
noncomputable def pg_em0 : ck_Sum := em_S (-1) 10 0 1 1 400
noncomputable def pg_em1 : ck_Sum := em_S 11 13 2 (-1) 1 399
noncomputable def pg_em2 : ck_Sum := em_S 14 14 1 0 1 400
noncomputable def pg_em3 : ck_Sum := em_S 15 16 2 (-1) 1 399
theorem pg_em0_s : ck_Ok pg_O X LX 279 pg_em0 := em_s (by decide) (fun s h h1 h2 h3 => ⟨fun _ => ⟨h3, rfl⟩, fun e => by omega, fun e => by omega⟩) (by decide) (by decide)
theorem pg_em1_s : ck_Ok pg_O X LX 279 pg_em1 := em_s (by decide) (fun s h h1 h2 h3 => ⟨fun e => by omega, fun e => by omega, fun _ _ => ⟨h3, rfl⟩⟩) (by decide) (by decide)
theorem pg_em2_s : ck_Ok pg_O X LX 279 pg_em2 := em_s (by decide) (fun s h h1 h2 h3 => ⟨fun e => by omega, fun _ => ⟨h3, by omega⟩, fun _ e => absurd (by omega) e⟩) (by decide) (by decide)
theorem pg_em3_s : ck_Ok pg_O X LX 279 pg_em3 := em_s (by decide) (fun s h h1 h2 h3 => ⟨fun e => by omega, fun e => by omega, fun _ _ => ⟨h3, rfl⟩⟩) (by decide) (by decide)
end EM
end
/-! 72.rl -/
section
/-! A LINE OF THE LAW that begins, and one that ends, by hand: where its steps begin and end is written down. -/
section RL
variable {X : Int → Int} {LX : Nat} {E : List (Nat × List ck_Sum)} {d : Nat} {W : List (Nat × Int × Int) × List (Nat × Int)} {outs : List ck_Oc} {σ σ0 : Nat → Int} {K0 : gm_K} {R0 : gm_R} {M0 : gm_M}
noncomputable def rl_A (n : Int) : ck_AL := [some (.inr (.inr (.inl 226))), some (.inl (ck_one n)), some (.inl (ck_one (1245 + 4 * n)))]
noncomputable def rl_F1 (n : Int) (F : ck_F) : ck_F := (F.1, F.2.1, (0, 0, 0, ck_one 0) :: (0, 6, 6, ck_one 1) :: ck_cws [(227, 1247 + 4 * n, 1247 + 4 * n), (0, 0, 1), (0, 6, 6)] F.2.2)
noncomputable def rl_F2 (n : Int) (F : ck_F) : ck_F := (F.1, F.2.1, (0, 0, 0, ck_one 0) :: (0, 2, 2, ck_one (n + 1)) :: (0, 6, 6, ck_one 0) :: ck_cws [(227, 1248 + 4 * n, 1248 + 4 * n), (0, 0, 2), (0, 6, 6)] F.2.2)
noncomputable def rl_M1 (M : gm_M) (n st : Int) : gm_M := gm_uM (gm_uM (gm_uM (gm_uM M 227 (1247 + 4 * n) st) 0 1 st) 0 0 0) 0 6 1
noncomputable def rl_M2 (M : gm_M) (n st : Int) : gm_M := gm_uM (gm_uM (gm_uM (gm_uM (gm_uM M 227 (1248 + 4 * n) st) 0 1 st) 0 0 0) 0 2 (n + 1)) 0 6 0
theorem pg_tln {n : Int} (hn : 0 ≤ n ∧ n < 12) : gm_tyv pg_O 227 (1247 + 4 * n) (1247 + 4 * n) 0 400 = true ∧ gm_tyv pg_O 227 (1248 + 4 * n) (1248 + 4 * n) 0 400 = true := by
  obtain ⟨m, rfl⟩ : ∃ m : Nat, n = (m : Int) := ⟨n.toNat, by omega⟩
  have := List.all_eq_true.mp pg_tl m (List.mem_range.mpr (by omega))
  rwa [Bool.and_eq_true] at this
theorem rl_111 {n : Int} {F : ck_F} {f mc ms : Nat} {cuts : List (Nat × ck_C)} {ch : List ck_H} (hcu : ck_cu cuts = true) (hE : ck_nmu pg_O ∧ ck_OkE pg_O X LX E) (hσ : ∀ s, s < 100 → σ s = σ0 s) (hn : 0 ≤ n ∧ n < 12) (hf2 : ck_fi F 0 2 2 = some (ck_one n)) (hw : ck_okW W.1 245 227 (1247 + 4 * n) (1247 + 4 * n) = true ∧ ck_okW W.1 245 0 0 0 = true ∧ ck_okW W.1 245 0 1 1 = true ∧ ck_okW W.1 245 0 6 6 = true)
    (hgo : ck_go pg_O none [] E 274 d 245 W outs cuts f false ch mc ms 123 (rl_A n) [] 245 (rl_F1 n F) = true) (hch : ∀ h ∈ ch, (h.1, h.2.1) ∈ cuts ∧ ck_Hy pg_O X LX 274 d W 245 K0 R0 M0 (ck_Q pg_O σ0 W 245 K0 R0 M0 outs) σ h) : ck_Hy pg_O X LX 274 d W 245 K0 R0 M0 (ck_Q pg_O σ0 W 245 K0 R0 M0 outs) σ (111, (rl_A n, F, 0, .inl 2, true), mc, ms, 245) := by
  intro v _ bc bs L K R M hb1 hb2 hS _
  refine gm_Wp_wk (Nat.le_refl _) hb1 hb2 ?_
  obtain ⟨hF, hl, -, hf, hfr⟩ := hS
  have hf : ck_gf σ F 245 K R M := hf
  have hl : ck_gl σ (rl_A n) L := hl
  have hF : gm_Fx pg_O 245 K R M := hF
  have hfr : ck_fr W 245 K0 R0 M0 245 K R M := hfr
  have hP := pg_p2 hF
  obtain ⟨u0, l0, g0⟩ := hl.2 0 (.inr (.inr (.inl 226))) rfl
  cases g0
  obtain ⟨u2, l2, x, rfl, -, x1, x2, -⟩ := hl.2 2 (.inl (ck_one (1245 + 4 * n))) rfl
  have x1 : 1245 + 4 * n ≤ x := x1
  have x2 : x ≤ 1245 + 4 * n := x2
  have x3 : x = 1245 + 4 * n := by omega
  subst x3
  have q2 := ((ck_fi_s hf hf2).2 2 (Int.le_refl _) (Int.le_refl _)).2
  have q21 : n ≤ M 0 2 := q2.1
  have q22 : M 0 2 ≤ n := q2.2.1
  replace q2 : M 0 2 = n := by omega
  obtain ⟨hJ, ⟨⟨a1, a2, a3⟩, ⟨b1, b2, b3⟩, c1⟩, d1, e1⟩ := hF.2.2.2.2
  generalize hst : M 226 15 = st at *
  have w1 : gm_w (1245 + 4 * n + 2) = 1247 + 4 * n := (w2 (by omega)).trans (by omega)
  refine gm_sz (gm_p_load (pc := 111) (i := .aload_n 0) (sr := 2) (j := 0) (by decide +kernel) rfl l0 rfl) ?_
  refine gm_sz (gm_p_get (pc := 112) (ix := 13) (ci := 11) (j := 1) (by decide +kernel) (md_mo hP).1 (md_mo hP).2 (by decide +kernel)) ?_
  rw [if_pos (show gm_isr 11 1 = true by decide +kernel), md_rf hP md_r.1.1]
  refine gm_sz (gm_p_load (pc := 115) (i := .iload_n 2) (sr := 0) (j := 2) (by decide +kernel) rfl l2 rfl) ?_
  refine gm_sz (gm_p_const (pc := 116) (i := .iconst 2) (v := gm_vi 2) (by decide +kernel) (by decide +kernel)) ?_
  refine gm_sz (gm_p_bin (pc := 117) (i := .iadd) (f := fun x y => x + y) (by decide +kernel) rfl) ?_
  refine gm_sz (gm_p_load (pc := 118) (i := .aload_n 0) (sr := 2) (j := 0) (by decide +kernel) rfl l0 rfl) ?_
  refine gm_sz (gm_p_get (pc := 119) (ix := 224) (ci := 11) (j := 15) (by decide +kernel) (md_mo hP).1 (md_mo hP).2 (by decide +kernel)) ?_
  rw [if_neg (show ¬ gm_isr 11 15 = true by decide +kernel), show M 226 ((15 : Nat) : Int) = st from hst]
  refine gm_sz (gm_p_iast (pc := 122) (by decide +kernel) (md_kd hP md_o.1.2).1.1 (md_kd hP md_o.1.2).1.2 (by rw [w1, (md_kd hP md_o.1.2).2]; omega)) ?_
  rw [w1]
  have v1 : rl_M1 M n st 0 1 = st := by unfold rl_M1; rw [uM_ne (by omega), uM_ne (by omega), uM_at]
  have v0 : rl_M1 M n st 0 0 = 0 := by unfold rl_M1; rw [uM_ne (by omega), uM_at]
  have v6 : rl_M1 M n st 0 6 = 1 := by unfold rl_M1; rw [uM_at]
  have vx : ∀ (c : Nat) (j : Int), ¬ (c = 0 ∧ (j = 0 ∨ j = 1 ∨ j = 6)) → ¬ (c = 227 ∧ j = 1247 + 4 * n) → rl_M1 M n st c j = M c j := fun c j x1 x2 => by
    unfold rl_M1
    rw [uM_ne (by omega), uM_ne (by omega), uM_ne (by omega), uM_ne (by omega)]
  refine gm_Wp_g (M' := rl_M1 M n st) (fun c i hc => by unfold rl_M1; rw [uM_ne (by omega), uM_ne (by omega), uM_ne (by omega)]) ?_
  refine ck_go_s (σ0 := σ0) hcu hE ck_X0 ck_l0 f false ch mc ms 123 (rl_A n) [] 245 (rl_F1 n F) σ L [] K R _ hσ hch ⟨⟨hF.1, hF.2.1, ?_, hF.2.2.2.1, ?_⟩, hl, rfl, ⟨hf.1, hf.2.1, fun q hq => ?_⟩, ?_⟩ hgo
  · exact gm_Ft_M (gm_Ft_M (gm_Ft_M (gm_Ft_M hF.2.2.1 (pg_tln hn).1 (by omega) (by omega)) pg_t0 (Int.le_refl _) (Int.le_refl _)) pg_t0 (Int.le_refl _) (Int.le_refl _)) pg_t0 (Int.le_refl _) (Int.le_refl _)
  · refine ⟨j_J_w (fun k j k1 k2 => vx k j (by omega) (fun x => by have := k2 x.1; omega)) hJ, ?_⟩
    unfold jX
    rw [v0, v1, v6, vx 0 2 (by omega) (by omega), vx 0 3 (by omega) (by omega), vx 0 4 (by omega) (by omega), vx 0 5 (by omega) (by omega), vx 226 9 (by omega) (by omega), vx 226 11 (by omega) (by omega), vx 226 15 (by omega) (by omega), hst]
    refine ⟨⟨⟨a1, a2, a3⟩, ⟨by omega, Int.le_refl _, b3⟩, fun _ => ⟨by rw [q2]; exact hn, ?_⟩⟩, jD_0, jL_e b2 (jL_cg (fun i i1 i2 => vx _ _ (by omega) (by omega)) (fun m m1 m2 m3 => ⟨vx _ _ (by omega) (by omega), vx _ _ (by omega) (by omega)⟩) e1)⟩
    rw [q2, show (1244 : Int) + (3 + 4 * n) = 1247 + 4 * n by omega]
    unfold rl_M1
    rw [uM_ne (by omega), uM_ne (by omega), uM_ne (by omega), uM_at]
  · have hq : q ∈ (rl_F1 n F).2.2 := hq
    unfold rl_F1 at hq
    rcases List.mem_cons.mp hq with rfl | hq
    · exact ck_f1 (Nat.zero_le _) (by rw [v0]; exact ⟨by decide, by decide⟩) (by rw [v0]; exact ck_one_s 0)
    rcases List.mem_cons.mp hq with rfl | hq
    · exact ck_f1 (Nat.zero_le _) (by rw [v6]; exact ⟨by decide, by decide⟩) (by rw [v6]; exact ck_one_s 1)
    exact ck_gf_cws hf (fun c j hx => vx c j (fun e => by
      obtain ⟨rfl, e⟩ := e
      have z1 := hx (0, 0, 1) (by simp)
      have z2 := hx (0, 6, 6) (by simp)
      dsimp only at z1 z2
      omega) (fun e => hx (227, 1247 + 4 * n, 1247 + 4 * n) (by simp) ⟨e.1.symm, by dsimp only; omega, by dsimp only; omega⟩)) q hq
  · exact ck_fr_M (ck_fr_M (ck_fr_M (ck_fr_M hfr (hw.1) (Int.le_refl _) (Int.le_refl _)) (hw.2.2.1) (Int.le_refl _) (Int.le_refl _)) (hw.2.1) (Int.le_refl _) (Int.le_refl _)) (hw.2.2.2) (Int.le_refl _) (Int.le_refl _)
theorem rl_147 {n : Int} {F : ck_F} {f mc ms : Nat} {cuts : List (Nat × ck_C)} {ch : List ck_H} (hcu : ck_cu cuts = true) (hE : ck_nmu pg_O ∧ ck_OkE pg_O X LX E) (hσ : ∀ s, s < 100 → σ s = σ0 s) (hn : 0 ≤ n ∧ n < 12) (hf2 : ck_fi F 0 2 2 = some (ck_one n)) (hf6 : ck_fi F 0 6 6 = some (ck_one 1)) (hw : ck_okW W.1 245 227 (1248 + 4 * n) (1248 + 4 * n) = true ∧ ck_okW W.1 245 0 0 0 = true ∧ ck_okW W.1 245 0 1 1 = true ∧ ck_okW W.1 245 0 2 2 = true ∧ ck_okW W.1 245 0 6 6 = true)
    (hgo : ck_go pg_O none [] E 274 d 245 W outs cuts f false ch mc ms 159 (rl_A n) [] 245 (rl_F2 n F) = true) (hch : ∀ h ∈ ch, (h.1, h.2.1) ∈ cuts ∧ ck_Hy pg_O X LX 274 d W 245 K0 R0 M0 (ck_Q pg_O σ0 W 245 K0 R0 M0 outs) σ h) : ck_Hy pg_O X LX 274 d W 245 K0 R0 M0 (ck_Q pg_O σ0 W 245 K0 R0 M0 outs) σ (147, (rl_A n, F, 0, .inl 2, true), mc, ms, 245) := by
  intro v _ bc bs L K R M hb1 hb2 hS _
  refine gm_Wp_wk (Nat.le_refl _) hb1 hb2 ?_
  obtain ⟨hF, hl, -, hf, hfr⟩ := hS
  have hf : ck_gf σ F 245 K R M := hf
  have hl : ck_gl σ (rl_A n) L := hl
  have hF : gm_Fx pg_O 245 K R M := hF
  have hfr : ck_fr W 245 K0 R0 M0 245 K R M := hfr
  have hP := pg_p2 hF
  obtain ⟨u0, l0, g0⟩ := hl.2 0 (.inr (.inr (.inl 226))) rfl
  cases g0
  obtain ⟨u2, l2, x, rfl, -, x1, x2, -⟩ := hl.2 2 (.inl (ck_one (1245 + 4 * n))) rfl
  have x1 : 1245 + 4 * n ≤ x := x1
  have x2 : x ≤ 1245 + 4 * n := x2
  have x3 : x = 1245 + 4 * n := by omega
  subst x3
  have q2 := ((ck_fi_s hf hf2).2 2 (Int.le_refl _) (Int.le_refl _)).2
  have q21 : n ≤ M 0 2 := q2.1
  have q22 : M 0 2 ≤ n := q2.2.1
  replace q2 : M 0 2 = n := by omega
  have q6 := ((ck_fi_s hf hf6).2 6 (Int.le_refl _) (Int.le_refl _)).2
  have q61 : (1 : Int) ≤ M 0 6 := q6.1
  have q62 : M 0 6 ≤ (1 : Int) := q6.2.1
  obtain ⟨hJ, ⟨⟨a1, a2, a3⟩, ⟨b1, b2, b3⟩, c1⟩, d1, e1⟩ := hF.2.2.2.2
  generalize hst : M 226 15 = st at *
  have w1 : gm_w (1245 + 4 * n + 3) = 1248 + 4 * n := (w2 (by omega)).trans (by omega)
  refine gm_sz (gm_p_load (pc := 147) (i := .aload_n 0) (sr := 2) (j := 0) (by decide +kernel) rfl l0 rfl) ?_
  refine gm_sz (gm_p_get (pc := 148) (ix := 13) (ci := 11) (j := 1) (by decide +kernel) (md_mo hP).1 (md_mo hP).2 (by decide +kernel)) ?_
  rw [if_pos (show gm_isr 11 1 = true by decide +kernel), md_rf hP md_r.1.1]
  refine gm_sz (gm_p_load (pc := 151) (i := .iload_n 2) (sr := 0) (j := 2) (by decide +kernel) rfl l2 rfl) ?_
  refine gm_sz (gm_p_const (pc := 152) (i := .iconst 3) (v := gm_vi 3) (by decide +kernel) (by decide +kernel)) ?_
  refine gm_sz (gm_p_bin (pc := 153) (i := .iadd) (f := fun x y => x + y) (by decide +kernel) rfl) ?_
  refine gm_sz (gm_p_load (pc := 154) (i := .aload_n 0) (sr := 2) (j := 0) (by decide +kernel) rfl l0 rfl) ?_
  refine gm_sz (gm_p_get (pc := 155) (ix := 224) (ci := 11) (j := 15) (by decide +kernel) (md_mo hP).1 (md_mo hP).2 (by decide +kernel)) ?_
  rw [if_neg (show ¬ gm_isr 11 15 = true by decide +kernel), show M 226 ((15 : Nat) : Int) = st from hst]
  refine gm_sz (gm_p_iast (pc := 158) (by decide +kernel) (md_kd hP md_o.1.2).1.1 (md_kd hP md_o.1.2).1.2 (by rw [w1, (md_kd hP md_o.1.2).2]; omega)) ?_
  rw [w1]
  have v1 : rl_M2 M n st 0 1 = st := by unfold rl_M2; rw [uM_ne (by omega), uM_ne (by omega), uM_ne (by omega), uM_at]
  have v0 : rl_M2 M n st 0 0 = 0 := by unfold rl_M2; rw [uM_ne (by omega), uM_ne (by omega), uM_at]
  have v6 : rl_M2 M n st 0 6 = 0 := by unfold rl_M2; rw [uM_at]
  have v2 : rl_M2 M n st 0 2 = n + 1 := by unfold rl_M2; rw [uM_ne (by omega), uM_at]
  have vx : ∀ (c : Nat) (j : Int), ¬ (c = 0 ∧ (j = 0 ∨ j = 1 ∨ j = 2 ∨ j = 6)) → ¬ (c = 227 ∧ j = 1248 + 4 * n) → rl_M2 M n st c j = M c j := fun c j x1 x2 => by
    unfold rl_M2
    rw [uM_ne (by omega), uM_ne (by omega), uM_ne (by omega), uM_ne (by omega), uM_ne (by omega)]
  refine gm_Wp_g (M' := rl_M2 M n st) (fun c i hc => by unfold rl_M2; rw [uM_ne (by omega), uM_ne (by omega), uM_ne (by omega), uM_ne (by omega)]) ?_
  refine ck_go_s (σ0 := σ0) hcu hE ck_X0 ck_l0 f false ch mc ms 159 (rl_A n) [] 245 (rl_F2 n F) σ L [] K R _ hσ hch ⟨⟨hF.1, hF.2.1, ?_, hF.2.2.2.1, ?_⟩, hl, rfl, ⟨hf.1, hf.2.1, fun q hq => ?_⟩, ?_⟩ hgo
  · exact gm_Ft_M (gm_Ft_M (gm_Ft_M (gm_Ft_M (gm_Ft_M hF.2.2.1 (pg_tln hn).2 (by omega) (by omega)) pg_t0 (Int.le_refl _) (Int.le_refl _)) pg_t0 (Int.le_refl _) (Int.le_refl _)) pg_t0 (Int.le_refl _) (Int.le_refl _)) pg_t0 (Int.le_refl _) (Int.le_refl _)
  · refine ⟨j_J_w (fun k j k1 k2 => vx k j (by omega) (fun x => by have := k2 x.1; omega)) hJ, ?_⟩
    unfold jX
    rw [v0, v1, v2, v6, vx 0 3 (by omega) (by omega), vx 0 4 (by omega) (by omega), vx 0 5 (by omega) (by omega), vx 226 9 (by omega) (by omega), vx 226 11 (by omega) (by omega), vx 226 15 (by omega) (by omega), hst]
    rw [q2] at c1 e1
    refine ⟨⟨⟨a1, a2, a3⟩, ⟨by omega, Int.le_refl _, b3⟩, fun h => absurd h (by decide)⟩, jD_0, jL_s (f := fun j => M 227 (1244 + j)) hn.1 b1 b2 b3 e1 d1 (c1 (by omega)).2 ?_ (fun j hj => vx _ _ (by omega) (by omega)) hn.2⟩
    show rl_M2 M n st 227 (1244 + (4 + 4 * n)) = st
    rw [show (1244 : Int) + (4 + 4 * n) = 1248 + 4 * n by omega]
    unfold rl_M2
    rw [uM_ne (by omega), uM_ne (by omega), uM_ne (by omega), uM_ne (by omega), uM_at]
  · have hq : q ∈ (rl_F2 n F).2.2 := hq
    unfold rl_F2 at hq
    rcases List.mem_cons.mp hq with rfl | hq
    · exact ck_f1 (Nat.zero_le _) (by rw [v0]; exact ⟨by decide, by decide⟩) (by rw [v0]; exact ck_one_s 0)
    rcases List.mem_cons.mp hq with rfl | hq
    · exact ck_f1 (Nat.zero_le _) (by rw [v2]; exact ⟨by omega, by omega⟩) (by rw [v2]; exact ck_one_s _)
    rcases List.mem_cons.mp hq with rfl | hq
    · exact ck_f1 (Nat.zero_le _) (by rw [v6]; exact ⟨by decide, by decide⟩) (by rw [v6]; exact ck_one_s 0)
    exact ck_gf_cws hf (fun c j hx => vx c j (fun e => by
      obtain ⟨rfl, e⟩ := e
      have z1 := hx (0, 0, 2) (by simp)
      have z2 := hx (0, 6, 6) (by simp)
      dsimp only at z1 z2
      omega) (fun e => hx (227, 1248 + 4 * n, 1248 + 4 * n) (by simp) ⟨e.1.symm, by dsimp only; omega, by dsimp only; omega⟩)) q hq
  · exact ck_fr_M (ck_fr_M (ck_fr_M (ck_fr_M (ck_fr_M hfr (hw.1) (Int.le_refl _) (Int.le_refl _)) (hw.2.2.1) (Int.le_refl _) (Int.le_refl _)) (hw.2.1) (Int.le_refl _) (Int.le_refl _)) (hw.2.2.2.1) (Int.le_refl _) (Int.le_refl _)) (hw.2.2.2.2) (Int.le_refl _) (Int.le_refl _)
end RL
end
