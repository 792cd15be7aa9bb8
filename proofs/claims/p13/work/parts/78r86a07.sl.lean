/-! 78r86a07.sl -/
section
/-! EVERY CALL OF THE CLASS ENDS, under a law (laid by wip/am/p2l.py). -/
set_option maxRecDepth 100000 in
/-- GlacierMail$State.openLetter -/
noncomputable def pl_s631 : ck_Sum := (((1 : Nat), (0 : Nat), (0 : Nat)), (249 : Nat), [.inr (.inr (.inl (3 : Nat))), .inl ((0 : Int), (23 : Int), []), .inl ((0 : Int), (7 : Int), [])], ([], [], [((3 : Nat), (6 : Int), (6 : Int), ((0 : Int), (299 : Int), [((10 : Nat), (0 : Int))]))]), (zl178, []), [(.inr none, (249 : Nat), ([], [], [((14 : Nat), (3 : Int), (3 : Int), ((1 : Int), (24 : Int), []))]))])
set_option maxRecDepth 100000 in
theorem pl_s631_s {X : Int → Int} {LX : Nat} : ck_Ok p2_OL X LX 159 pl_s631 := ck_okq (cuts := []) (f := 144) ⟨pl_nmu, ck_E1 (ck_S1 pl_s628_s (ck_S1 pl_s622_s (ck_S1 pl_s376_s (ck_S1 pl_s623_s (ck_S1 pl_s629_s (ck_S1 pl_s379_s (ck_S1 pl_s625_s (ck_S1 pl_s630_s ck_S0)))))))) (ck_E1 (ck_S1 pl_s382_s ck_S0) ck_E0)⟩ (by decide +kernel)
set_option maxRecDepth 100000 in
/-- GlacierMail.oneYearMore -/
noncomputable def pl_s632 : ck_Sum := (((4 : Nat), (0 : Nat), (0 : Nat)), (249 : Nat), [.inr (.inr (.inl (1 : Nat)))], ([], [((3 : Nat), (8 : Int), (246 : Nat))], [((3 : Nat), (6 : Int), (6 : Int), ((0 : Int), (298 : Int), [((10 : Nat), (0 : Int))]))]), ([((3 : Nat), (6 : Int), (6 : Int)), ((11 : Nat), (5 : Int), (6 : Int)), ((11 : Nat), (12 : Int), (13 : Int)), ((11 : Nat), (19 : Int), (20 : Int)), ((11 : Nat), (26 : Int), (27 : Int)), ((11 : Nat), (33 : Int), (34 : Int)), ((11 : Nat), (40 : Int), (41 : Int)), ((11 : Nat), (47 : Int), (48 : Int)), ((11 : Nat), (54 : Int), (55 : Int)), ((11 : Nat), (61 : Int), (62 : Int)), ((11 : Nat), (68 : Int), (69 : Int)), ((11 : Nat), (75 : Int), (76 : Int)), ((11 : Nat), (82 : Int), (83 : Int)), ((11 : Nat), (89 : Int), (90 : Int)), ((11 : Nat), (96 : Int), (97 : Int)), ((11 : Nat), (103 : Int), (104 : Int)), ((11 : Nat), (110 : Int), (111 : Int)), ((11 : Nat), (117 : Int), (118 : Int)), ((11 : Nat), (124 : Int), (125 : Int)), ((11 : Nat), (131 : Int), (132 : Int)), ((11 : Nat), (138 : Int), (139 : Int)), ((11 : Nat), (145 : Int), (146 : Int)), ((11 : Nat), (152 : Int), (153 : Int)), ((11 : Nat), (159 : Int), (160 : Int)), ((11 : Nat), (166 : Int), (167 : Int)), ((14 : Nat), (3 : Int), (3 : Int)), ((15 : Nat), (0 : Int), (71 : Int)), ((204 : Nat), (0 : Int), (9 : Int))], []), [(.inr (some (.inl ((-2147483648 : Int), (2147483647 : Int), []))), (249 : Nat), ([], [], [((3 : Nat), (6 : Int), (6 : Int), ((1 : Int), (299 : Int), [((10 : Nat), (1 : Int))]))]))])
set_option maxRecDepth 100000 in
theorem pl_s632_s {X : Int → Int} {LX : Nat} : ck_Ok p2_OL X LX 162 pl_s632 := ck_okq (cuts := [((17 : Nat), [some (.inr (.inr (.inl (1 : Nat)))), some (.inl ((-2147483648 : Int), (2147483647 : Int), [])), some (.inl ((0 : Int), (24 : Int), [])), none], ([], [((3 : Nat), (8 : Int), (246 : Nat))], [((3 : Nat), (6 : Int), (6 : Int), ((1 : Int), (299 : Int), [((10 : Nat), (1 : Int))]))]), (100 : Nat), .inl (2 : Nat), true)]) (f := 194) ⟨pl_nmu, ck_E1 (ck_S1 pl_s200_s ck_S0) (ck_E1 (ck_S1 pl_s220_s ck_S0) (ck_E1 (ck_S1 pl_s620_s ck_S0) (ck_E1 (ck_S1 pl_s627_s (ck_S1 pl_s631_s ck_S0)) ck_E0)))⟩ (by decide +kernel)
set_option maxRecDepth 100000 in
/-- GlacierMail.years, any number -/
noncomputable def pl_yy : ck_Sum := (((6 : Nat), (1 : Nat), (6 : Nat)), (249 : Nat), [.inr (.inr (.inl (1 : Nat))), .inl ((1 : Int), (50 : Int), [])], ([], zl230, [((3 : Nat), (6 : Int), (6 : Int), ((0 : Int), (299 : Int), [((10 : Nat), (0 : Int))]))]), ([((1 : Nat), (15 : Int), (15 : Int)), ((3 : Nat), (6 : Int), (6 : Int)), ((11 : Nat), (5 : Int), (6 : Int)), ((11 : Nat), (12 : Int), (13 : Int)), ((11 : Nat), (19 : Int), (20 : Int)), ((11 : Nat), (26 : Int), (27 : Int)), ((11 : Nat), (33 : Int), (34 : Int)), ((11 : Nat), (40 : Int), (41 : Int)), ((11 : Nat), (47 : Int), (48 : Int)), ((11 : Nat), (54 : Int), (55 : Int)), ((11 : Nat), (61 : Int), (62 : Int)), ((11 : Nat), (68 : Int), (69 : Int)), ((11 : Nat), (75 : Int), (76 : Int)), ((11 : Nat), (82 : Int), (83 : Int)), ((11 : Nat), (89 : Int), (90 : Int)), ((11 : Nat), (96 : Int), (97 : Int)), ((11 : Nat), (103 : Int), (104 : Int)), ((11 : Nat), (110 : Int), (111 : Int)), ((11 : Nat), (117 : Int), (118 : Int)), ((11 : Nat), (124 : Int), (125 : Int)), ((11 : Nat), (131 : Int), (132 : Int)), ((11 : Nat), (138 : Int), (139 : Int)), ((11 : Nat), (145 : Int), (146 : Int)), ((11 : Nat), (152 : Int), (153 : Int)), ((11 : Nat), (159 : Int), (160 : Int)), ((11 : Nat), (166 : Int), (167 : Int)), ((14 : Nat), (3 : Int), (3 : Int)), ((15 : Nat), (0 : Int), (71 : Int)), ((42 : Nat), (1 : Int), (2 : Int)), ((44 : Nat), (0 : Int), (7 : Int)), ((45 : Nat), (3 : Int), (3 : Int)), ((46 : Nat), (0 : Int), (55 : Int)), ((47 : Nat), (3 : Int), (3 : Int)), ((48 : Nat), (0 : Int), (23 : Int)), ((49 : Nat), (3 : Int), (3 : Int)), ((50 : Nat), (0 : Int), (23 : Int)), ((51 : Nat), (3 : Int), (3 : Int)), ((52 : Nat), (0 : Int), (167 : Int)), ((53 : Nat), (3 : Int), (3 : Int)), ((54 : Nat), (0 : Int), (35 : Int)), ((55 : Nat), (3 : Int), (3 : Int)), ((56 : Nat), (0 : Int), (71 : Int)), ((57 : Nat), (0 : Int), (7 : Int)), ((58 : Nat), (3 : Int), (3 : Int)), ((59 : Nat), (0 : Int), (55 : Int)), ((60 : Nat), (3 : Int), (3 : Int)), ((61 : Nat), (0 : Int), (23 : Int)), ((62 : Nat), (3 : Int), (3 : Int)), ((63 : Nat), (0 : Int), (23 : Int)), ((64 : Nat), (3 : Int), (3 : Int)), ((65 : Nat), (0 : Int), (167 : Int)), ((66 : Nat), (3 : Int), (3 : Int)), ((67 : Nat), (0 : Int), (35 : Int)), ((68 : Nat), (3 : Int), (3 : Int)), ((69 : Nat), (0 : Int), (71 : Int)), ((70 : Nat), (0 : Int), (7 : Int)), ((71 : Nat), (3 : Int), (3 : Int)), ((72 : Nat), (0 : Int), (55 : Int)), ((73 : Nat), (3 : Int), (3 : Int)), ((74 : Nat), (0 : Int), (23 : Int)), ((75 : Nat), (3 : Int), (3 : Int)), ((76 : Nat), (0 : Int), (23 : Int)), ((77 : Nat), (3 : Int), (3 : Int)), ((78 : Nat), (0 : Int), (167 : Int)), ((79 : Nat), (3 : Int), (3 : Int)), ((80 : Nat), (0 : Int), (35 : Int)), ((81 : Nat), (3 : Int), (3 : Int)), ((82 : Nat), (0 : Int), (71 : Int)), ((83 : Nat), (0 : Int), (7 : Int)), ((84 : Nat), (3 : Int), (3 : Int)), ((85 : Nat), (0 : Int), (55 : Int)), ((86 : Nat), (3 : Int), (3 : Int)), ((87 : Nat), (0 : Int), (23 : Int)), ((88 : Nat), (3 : Int), (3 : Int)), ((89 : Nat), (0 : Int), (23 : Int)), ((90 : Nat), (3 : Int), (3 : Int)), ((91 : Nat), (0 : Int), (167 : Int)), ((92 : Nat), (3 : Int), (3 : Int)), ((93 : Nat), (0 : Int), (35 : Int)), ((94 : Nat), (3 : Int), (3 : Int)), ((95 : Nat), (0 : Int), (71 : Int)), ((96 : Nat), (0 : Int), (7 : Int)), ((97 : Nat), (3 : Int), (3 : Int)), ((98 : Nat), (0 : Int), (55 : Int)), ((99 : Nat), (3 : Int), (3 : Int)), ((100 : Nat), (0 : Int), (23 : Int)), ((101 : Nat), (3 : Int), (3 : Int)), ((102 : Nat), (0 : Int), (23 : Int)), ((103 : Nat), (3 : Int), (3 : Int)), ((104 : Nat), (0 : Int), (167 : Int)), ((105 : Nat), (3 : Int), (3 : Int)), ((106 : Nat), (0 : Int), (35 : Int)), ((107 : Nat), (3 : Int), (3 : Int)), ((108 : Nat), (0 : Int), (71 : Int)), ((109 : Nat), (0 : Int), (7 : Int)), ((110 : Nat), (3 : Int), (3 : Int)), ((111 : Nat), (0 : Int), (55 : Int)), ((112 : Nat), (3 : Int), (3 : Int)), ((113 : Nat), (0 : Int), (23 : Int)), ((114 : Nat), (3 : Int), (3 : Int)), ((115 : Nat), (0 : Int), (23 : Int)), ((116 : Nat), (3 : Int), (3 : Int)), ((117 : Nat), (0 : Int), (167 : Int)), ((118 : Nat), (3 : Int), (3 : Int)), ((119 : Nat), (0 : Int), (35 : Int)), ((120 : Nat), (3 : Int), (3 : Int)), ((121 : Nat), (0 : Int), (71 : Int)), ((122 : Nat), (0 : Int), (7 : Int)), ((123 : Nat), (3 : Int), (3 : Int)), ((124 : Nat), (0 : Int), (55 : Int)), ((125 : Nat), (3 : Int), (3 : Int)), ((126 : Nat), (0 : Int), (23 : Int)), ((127 : Nat), (3 : Int), (3 : Int)), ((128 : Nat), (0 : Int), (23 : Int)), ((129 : Nat), (3 : Int), (3 : Int)), ((130 : Nat), (0 : Int), (167 : Int)), ((131 : Nat), (3 : Int), (3 : Int)), ((132 : Nat), (0 : Int), (35 : Int)), ((133 : Nat), (3 : Int), (3 : Int)), ((134 : Nat), (0 : Int), (71 : Int)), ((135 : Nat), (0 : Int), (7 : Int)), ((136 : Nat), (3 : Int), (3 : Int)), ((137 : Nat), (0 : Int), (55 : Int)), ((138 : Nat), (3 : Int), (3 : Int)), ((139 : Nat), (0 : Int), (23 : Int)), ((140 : Nat), (3 : Int), (3 : Int)), ((141 : Nat), (0 : Int), (23 : Int)), ((142 : Nat), (3 : Int), (3 : Int)), ((143 : Nat), (0 : Int), (167 : Int)), ((144 : Nat), (3 : Int), (3 : Int)), ((145 : Nat), (0 : Int), (35 : Int)), ((146 : Nat), (3 : Int), (3 : Int)), ((147 : Nat), (0 : Int), (71 : Int)), ((148 : Nat), (0 : Int), (7 : Int)), ((149 : Nat), (3 : Int), (3 : Int)), ((150 : Nat), (0 : Int), (55 : Int)), ((151 : Nat), (3 : Int), (3 : Int)), ((152 : Nat), (0 : Int), (23 : Int)), ((153 : Nat), (3 : Int), (3 : Int)), ((154 : Nat), (0 : Int), (23 : Int)), ((155 : Nat), (3 : Int), (3 : Int)), ((156 : Nat), (0 : Int), (167 : Int)), ((157 : Nat), (3 : Int), (3 : Int)), ((158 : Nat), (0 : Int), (35 : Int)), ((159 : Nat), (3 : Int), (3 : Int)), ((160 : Nat), (0 : Int), (71 : Int)), ((161 : Nat), (0 : Int), (7 : Int)), ((162 : Nat), (3 : Int), (3 : Int)), ((163 : Nat), (0 : Int), (55 : Int)), ((164 : Nat), (3 : Int), (3 : Int)), ((165 : Nat), (0 : Int), (23 : Int)), ((166 : Nat), (3 : Int), (3 : Int)), ((167 : Nat), (0 : Int), (23 : Int)), ((168 : Nat), (3 : Int), (3 : Int)), ((169 : Nat), (0 : Int), (167 : Int)), ((170 : Nat), (3 : Int), (3 : Int)), ((171 : Nat), (0 : Int), (35 : Int)), ((172 : Nat), (3 : Int), (3 : Int)), ((173 : Nat), (0 : Int), (71 : Int)), ((174 : Nat), (0 : Int), (7 : Int)), ((175 : Nat), (3 : Int), (3 : Int)), ((176 : Nat), (0 : Int), (55 : Int)), ((177 : Nat), (3 : Int), (3 : Int)), ((178 : Nat), (0 : Int), (23 : Int)), ((179 : Nat), (3 : Int), (3 : Int)), ((180 : Nat), (0 : Int), (23 : Int)), ((181 : Nat), (3 : Int), (3 : Int)), ((182 : Nat), (0 : Int), (167 : Int)), ((183 : Nat), (3 : Int), (3 : Int)), ((184 : Nat), (0 : Int), (35 : Int)), ((185 : Nat), (3 : Int), (3 : Int)), ((186 : Nat), (0 : Int), (71 : Int)), ((187 : Nat), (0 : Int), (7 : Int)), ((188 : Nat), (3 : Int), (3 : Int)), ((189 : Nat), (0 : Int), (55 : Int)), ((190 : Nat), (3 : Int), (3 : Int)), ((191 : Nat), (0 : Int), (23 : Int)), ((192 : Nat), (3 : Int), (3 : Int)), ((193 : Nat), (0 : Int), (23 : Int)), ((194 : Nat), (3 : Int), (3 : Int)), ((195 : Nat), (0 : Int), (167 : Int)), ((196 : Nat), (3 : Int), (3 : Int)), ((197 : Nat), (0 : Int), (35 : Int)), ((198 : Nat), (3 : Int), (3 : Int)), ((199 : Nat), (0 : Int), (71 : Int)), ((200 : Nat), (6 : Int), (6 : Int)), ((204 : Nat), (0 : Int), (9 : Int)), ((205 : Nat), (0 : Int), (14849 : Int)), ((206 : Nat), (2 : Int), (8 : Int)), ((220 : Nat), (3 : Int), (3 : Int)), ((221 : Nat), (0 : Int), (47 : Int))], zl104), [(.inr (some (.inl ((-2147483648 : Int), (2147483647 : Int), []))), (249 : Nat), ([], zl105, [])), (.inr (some (.inl ((-2147483648 : Int), (2147483647 : Int), []))), (249 : Nat), ([], zl242, [])), (.inr (some (.inl ((-2147483648 : Int), (2147483647 : Int), []))), (249 : Nat), ([], zl241, [])), (.inr (some (.inl ((-2147483648 : Int), (2147483647 : Int), []))), (249 : Nat), ([], zl240, [])), (.inr (some (.inl ((-2147483648 : Int), (2147483647 : Int), []))), (249 : Nat), ([], zl239, [])), (.inr (some (.inl ((-2147483648 : Int), (2147483647 : Int), []))), (249 : Nat), ([], zl238, [])), (.inr (some (.inl ((-2147483648 : Int), (2147483647 : Int), []))), (249 : Nat), ([], zl237, [])), (.inr (some (.inl ((-2147483648 : Int), (2147483647 : Int), []))), (249 : Nat), ([], zl236, [])), (.inr (some (.inl ((-2147483648 : Int), (2147483647 : Int), []))), (249 : Nat), ([], zl235, [])), (.inr (some (.inl ((-2147483648 : Int), (2147483647 : Int), []))), (249 : Nat), ([], zl234, [])), (.inr (some (.inl ((-2147483648 : Int), (2147483647 : Int), []))), (249 : Nat), ([], zl233, [])), (.inr (some (.inl ((-2147483648 : Int), (2147483647 : Int), []))), (249 : Nat), ([], zl232, [])), (.inr (some (.inl ((-2147483648 : Int), (2147483647 : Int), []))), (249 : Nat), ([], zl231, [])), (.inl (0 : Nat), (249 : Nat), ([], zl105, []))])
noncomputable def pl_yy_E : List (Nat × List ck_Sum) := [((154 : Nat), [pl_s341]), ((24 : Nat), [pl_s217]), ((162 : Nat), [pl_s632])]
noncomputable def pl_yy_RF : List (Nat × Int × Nat) := [((3 : Nat), (8 : Int), (246 : Nat)), ((44 : Nat), (8 : Int), (100044 : Nat)), ((57 : Nat), (8 : Int), (100057 : Nat)), ((70 : Nat), (8 : Int), (100070 : Nat)), ((83 : Nat), (8 : Int), (100083 : Nat)), ((96 : Nat), (8 : Int), (100096 : Nat)), ((109 : Nat), (8 : Int), (100109 : Nat)), ((122 : Nat), (8 : Int), (100122 : Nat)), ((135 : Nat), (8 : Int), (100135 : Nat)), ((148 : Nat), (8 : Int), (100148 : Nat)), ((161 : Nat), (8 : Int), (100161 : Nat)), ((174 : Nat), (8 : Int), (100174 : Nat)), ((187 : Nat), (8 : Int), (100187 : Nat))]
set_option maxRecDepth 100000 in
noncomputable def pl_yy_RS : List (Nat × List (Nat × Int × Nat)) := [((0 : Nat), [((3 : Nat), (8 : Int), (246 : Nat)), ((44 : Nat), (8 : Int), (100044 : Nat)), ((57 : Nat), (8 : Int), (100057 : Nat)), ((70 : Nat), (8 : Int), (100070 : Nat)), ((83 : Nat), (8 : Int), (100083 : Nat)), ((96 : Nat), (8 : Int), (100096 : Nat)), ((109 : Nat), (8 : Int), (100109 : Nat)), ((122 : Nat), (8 : Int), (100122 : Nat)), ((135 : Nat), (8 : Int), (100135 : Nat)), ((148 : Nat), (8 : Int), (100148 : Nat)), ((161 : Nat), (8 : Int), (100161 : Nat)), ((174 : Nat), (8 : Int), (100174 : Nat)), ((187 : Nat), (8 : Int), (100187 : Nat))]), ((2000000 : Nat), [((3 : Nat), (8 : Int), (246 : Nat)), ((44 : Nat), (8 : Int), (246 : Nat)), ((57 : Nat), (8 : Int), (100057 : Nat)), ((70 : Nat), (8 : Int), (100070 : Nat)), ((83 : Nat), (8 : Int), (100083 : Nat)), ((96 : Nat), (8 : Int), (100096 : Nat)), ((109 : Nat), (8 : Int), (100109 : Nat)), ((122 : Nat), (8 : Int), (100122 : Nat)), ((135 : Nat), (8 : Int), (100135 : Nat)), ((148 : Nat), (8 : Int), (100148 : Nat)), ((161 : Nat), (8 : Int), (100161 : Nat)), ((174 : Nat), (8 : Int), (100174 : Nat)), ((187 : Nat), (8 : Int), (100187 : Nat))]), ((2000001 : Nat), [((3 : Nat), (8 : Int), (246 : Nat)), ((44 : Nat), (8 : Int), (100044 : Nat)), ((57 : Nat), (8 : Int), (100057 : Nat)), ((70 : Nat), (8 : Int), (100070 : Nat)), ((83 : Nat), (8 : Int), (100083 : Nat)), ((96 : Nat), (8 : Int), (100096 : Nat)), ((109 : Nat), (8 : Int), (100109 : Nat)), ((122 : Nat), (8 : Int), (100122 : Nat)), ((135 : Nat), (8 : Int), (100135 : Nat)), ((148 : Nat), (8 : Int), (100148 : Nat)), ((161 : Nat), (8 : Int), (100161 : Nat)), ((174 : Nat), (8 : Int), (100174 : Nat)), ((187 : Nat), (8 : Int), (246 : Nat))]), ((2000002 : Nat), [((3 : Nat), (8 : Int), (246 : Nat)), ((44 : Nat), (8 : Int), (100044 : Nat)), ((57 : Nat), (8 : Int), (100057 : Nat)), ((70 : Nat), (8 : Int), (100070 : Nat)), ((83 : Nat), (8 : Int), (100083 : Nat)), ((96 : Nat), (8 : Int), (100096 : Nat)), ((109 : Nat), (8 : Int), (100109 : Nat)), ((122 : Nat), (8 : Int), (100122 : Nat)), ((135 : Nat), (8 : Int), (100135 : Nat)), ((148 : Nat), (8 : Int), (100148 : Nat)), ((161 : Nat), (8 : Int), (100161 : Nat)), ((174 : Nat), (8 : Int), (246 : Nat)), ((187 : Nat), (8 : Int), (100187 : Nat))]), ((2000003 : Nat), [((3 : Nat), (8 : Int), (246 : Nat)), ((44 : Nat), (8 : Int), (100044 : Nat)), ((57 : Nat), (8 : Int), (100057 : Nat)), ((70 : Nat), (8 : Int), (100070 : Nat)), ((83 : Nat), (8 : Int), (100083 : Nat)), ((96 : Nat), (8 : Int), (100096 : Nat)), ((109 : Nat), (8 : Int), (100109 : Nat)), ((122 : Nat), (8 : Int), (100122 : Nat)), ((135 : Nat), (8 : Int), (100135 : Nat)), ((148 : Nat), (8 : Int), (100148 : Nat)), ((161 : Nat), (8 : Int), (246 : Nat)), ((174 : Nat), (8 : Int), (100174 : Nat)), ((187 : Nat), (8 : Int), (100187 : Nat))]), ((2000004 : Nat), [((3 : Nat), (8 : Int), (246 : Nat)), ((44 : Nat), (8 : Int), (100044 : Nat)), ((57 : Nat), (8 : Int), (100057 : Nat)), ((70 : Nat), (8 : Int), (100070 : Nat)), ((83 : Nat), (8 : Int), (100083 : Nat)), ((96 : Nat), (8 : Int), (100096 : Nat)), ((109 : Nat), (8 : Int), (100109 : Nat)), ((122 : Nat), (8 : Int), (100122 : Nat)), ((135 : Nat), (8 : Int), (100135 : Nat)), ((148 : Nat), (8 : Int), (246 : Nat)), ((161 : Nat), (8 : Int), (100161 : Nat)), ((174 : Nat), (8 : Int), (100174 : Nat)), ((187 : Nat), (8 : Int), (100187 : Nat))]), ((2000005 : Nat), [((3 : Nat), (8 : Int), (246 : Nat)), ((44 : Nat), (8 : Int), (100044 : Nat)), ((57 : Nat), (8 : Int), (100057 : Nat)), ((70 : Nat), (8 : Int), (100070 : Nat)), ((83 : Nat), (8 : Int), (100083 : Nat)), ((96 : Nat), (8 : Int), (100096 : Nat)), ((109 : Nat), (8 : Int), (100109 : Nat)), ((122 : Nat), (8 : Int), (100122 : Nat)), ((135 : Nat), (8 : Int), (246 : Nat)), ((148 : Nat), (8 : Int), (100148 : Nat)), ((161 : Nat), (8 : Int), (100161 : Nat)), ((174 : Nat), (8 : Int), (100174 : Nat)), ((187 : Nat), (8 : Int), (100187 : Nat))]), ((2000006 : Nat), [((3 : Nat), (8 : Int), (246 : Nat)), ((44 : Nat), (8 : Int), (100044 : Nat)), ((57 : Nat), (8 : Int), (100057 : Nat)), ((70 : Nat), (8 : Int), (100070 : Nat)), ((83 : Nat), (8 : Int), (100083 : Nat)), ((96 : Nat), (8 : Int), (100096 : Nat)), ((109 : Nat), (8 : Int), (100109 : Nat)), ((122 : Nat), (8 : Int), (246 : Nat)), ((135 : Nat), (8 : Int), (100135 : Nat)), ((148 : Nat), (8 : Int), (100148 : Nat)), ((161 : Nat), (8 : Int), (100161 : Nat)), ((174 : Nat), (8 : Int), (100174 : Nat)), ((187 : Nat), (8 : Int), (100187 : Nat))]), ((2000007 : Nat), [((3 : Nat), (8 : Int), (246 : Nat)), ((44 : Nat), (8 : Int), (100044 : Nat)), ((57 : Nat), (8 : Int), (100057 : Nat)), ((70 : Nat), (8 : Int), (100070 : Nat)), ((83 : Nat), (8 : Int), (100083 : Nat)), ((96 : Nat), (8 : Int), (100096 : Nat)), ((109 : Nat), (8 : Int), (246 : Nat)), ((122 : Nat), (8 : Int), (100122 : Nat)), ((135 : Nat), (8 : Int), (100135 : Nat)), ((148 : Nat), (8 : Int), (100148 : Nat)), ((161 : Nat), (8 : Int), (100161 : Nat)), ((174 : Nat), (8 : Int), (100174 : Nat)), ((187 : Nat), (8 : Int), (100187 : Nat))]), ((2000008 : Nat), [((3 : Nat), (8 : Int), (246 : Nat)), ((44 : Nat), (8 : Int), (100044 : Nat)), ((57 : Nat), (8 : Int), (100057 : Nat)), ((70 : Nat), (8 : Int), (100070 : Nat)), ((83 : Nat), (8 : Int), (100083 : Nat)), ((96 : Nat), (8 : Int), (246 : Nat)), ((109 : Nat), (8 : Int), (100109 : Nat)), ((122 : Nat), (8 : Int), (100122 : Nat)), ((135 : Nat), (8 : Int), (100135 : Nat)), ((148 : Nat), (8 : Int), (100148 : Nat)), ((161 : Nat), (8 : Int), (100161 : Nat)), ((174 : Nat), (8 : Int), (100174 : Nat)), ((187 : Nat), (8 : Int), (100187 : Nat))]), ((2000009 : Nat), [((3 : Nat), (8 : Int), (246 : Nat)), ((44 : Nat), (8 : Int), (100044 : Nat)), ((57 : Nat), (8 : Int), (100057 : Nat)), ((70 : Nat), (8 : Int), (100070 : Nat)), ((83 : Nat), (8 : Int), (246 : Nat)), ((96 : Nat), (8 : Int), (100096 : Nat)), ((109 : Nat), (8 : Int), (100109 : Nat)), ((122 : Nat), (8 : Int), (100122 : Nat)), ((135 : Nat), (8 : Int), (100135 : Nat)), ((148 : Nat), (8 : Int), (100148 : Nat)), ((161 : Nat), (8 : Int), (100161 : Nat)), ((174 : Nat), (8 : Int), (100174 : Nat)), ((187 : Nat), (8 : Int), (100187 : Nat))]), ((2000010 : Nat), [((3 : Nat), (8 : Int), (246 : Nat)), ((44 : Nat), (8 : Int), (100044 : Nat)), ((57 : Nat), (8 : Int), (100057 : Nat)), ((70 : Nat), (8 : Int), (246 : Nat)), ((83 : Nat), (8 : Int), (100083 : Nat)), ((96 : Nat), (8 : Int), (100096 : Nat)), ((109 : Nat), (8 : Int), (100109 : Nat)), ((122 : Nat), (8 : Int), (100122 : Nat)), ((135 : Nat), (8 : Int), (100135 : Nat)), ((148 : Nat), (8 : Int), (100148 : Nat)), ((161 : Nat), (8 : Int), (100161 : Nat)), ((174 : Nat), (8 : Int), (100174 : Nat)), ((187 : Nat), (8 : Int), (100187 : Nat))]), ((2000011 : Nat), [((3 : Nat), (8 : Int), (246 : Nat)), ((44 : Nat), (8 : Int), (100044 : Nat)), ((57 : Nat), (8 : Int), (246 : Nat)), ((70 : Nat), (8 : Int), (100070 : Nat)), ((83 : Nat), (8 : Int), (100083 : Nat)), ((96 : Nat), (8 : Int), (100096 : Nat)), ((109 : Nat), (8 : Int), (100109 : Nat)), ((122 : Nat), (8 : Int), (100122 : Nat)), ((135 : Nat), (8 : Int), (100135 : Nat)), ((148 : Nat), (8 : Int), (100148 : Nat)), ((161 : Nat), (8 : Int), (100161 : Nat)), ((174 : Nat), (8 : Int), (100174 : Nat)), ((187 : Nat), (8 : Int), (100187 : Nat))])]
set_option maxRecDepth 100000 in
theorem pl_yy_a : (decide (pl_yy.2.2.1.length ≤ gm_ml 161) && ck_go p2_OL none [] pl_yy_E 161 pl_yy.1.1 pl_yy.2.1 pl_yy.2.2.2.2.1 pl_yy.2.2.2.2.2 [(11, yy_C0 pl_yy_RF)] 170 false [(11, yy_C0 pl_yy_RF, 1, 6, pl_yy.2.1)] pl_yy.1.2.1 pl_yy.1.2.2 0 (pl_yy.2.2.1.map some ++ List.replicate (gm_ml 161 - pl_yy.2.2.1.length) none) [] pl_yy.2.1 pl_yy.2.2.2.1) = true := by decide +kernel
set_option maxRecDepth 100000 in
theorem pl_yy_b : ck_go p2_OL none [] pl_yy_E 161 pl_yy.1.1 pl_yy.2.1 pl_yy.2.2.2.2.1 pl_yy.2.2.2.2.2 [] 170 true [] 1 6 26 (yy_A (1, 50, []) none none) [] pl_yy.2.1 (yy_F pl_yy_RF (0, 299, [(10, 0)])) = true := by decide +kernel
set_option maxRecDepth 100000 in
theorem pl_yy_cu : ck_cu (pl_yy_RS.map fun p => (56, yy_C1 p.2 p.1)) = true := by decide +kernel
set_option maxRecDepth 100000 in
theorem pl_yy_c : ck_go p2_OL none [] pl_yy_E 161 pl_yy.1.1 pl_yy.2.1 pl_yy.2.2.2.2.1 pl_yy.2.2.2.2.2 (pl_yy_RS.map fun p => (56, yy_C1 p.2 p.1)) 170 true (pl_yy_RS.map fun p => (56, yy_C1 p.2 p.1, 0, 0, pl_yy.2.1)) 1 6 37 (yy_A (1, 50, [(302, 0)]) none none) [] pl_yy.2.1 (yy_F pl_yy_RF (0, 298, [(10, 0), (303, 0)])) = true := by decide +kernel
set_option maxRecDepth 100000 in
theorem pl_yy_d : (pl_yy_RS.all fun p => ck_go p2_OL none [] pl_yy_E 161 pl_yy.1.1 pl_yy.2.1 pl_yy.2.2.2.2.1 pl_yy.2.2.2.2.2 [(56, yy_C2 p.2)] 170 true [(56, yy_C2 p.2, 0, 0, pl_yy.2.1)] 0 0 61 (yy_A (1, 50, [(302, 0)]) (some (.inl ck_top)) (some (.inl (0, 49, [(304, 0)])))) [] pl_yy.2.1 (yy_F p.2 (0, 298, [(303, 0)])) && ck_go p2_OL none [] pl_yy_E 161 pl_yy.1.1 pl_yy.2.1 pl_yy.2.2.2.2.1 pl_yy.2.2.2.2.2 [] 170 true [] 0 0 74 (yy_A (1, 50, []) (some (.inl ck_top)) none) [] pl_yy.2.1 ([], p.2, [])) = true := by decide +kernel
theorem pl_yy_s {X : Int → Int} {LX : Nat} : ck_Ok p2_OL X LX 161 pl_yy := yy_s ⟨pl_nmu, ck_E1 (ck_S1 pl_s341_s ck_S0) (ck_E1 (ck_S1 pl_s217_s ck_S0) (ck_E1 (ck_S1 pl_s632_s ck_S0) ck_E0))⟩ (by decide +kernel) (by decide +kernel) (by decide +kernel) (by decide) (by decide) (by decide) pl_yy_a pl_yy_b pl_yy_cu pl_yy_c pl_yy_d
end
/-! 78r86a10.sl -/
section
/-! EVERY CALL OF THE CLASS ENDS, under a law (laid by wip/am/p2l.py). -/
set_option maxRecDepth 100000 in
/-- GlacierMail.throwsFor -/
noncomputable def pl_s683 : ck_Sum := (((8 : Nat), (1 : Nat), (6 : Nat)), (249 : Nat), [.inr (.inr (.inl (1 : Nat))), .inl ((-2147483648 : Int), (-1 : Int), []), .inl ((-2147483648 : Int), (2147483647 : Int), []), .inl ((-2147483648 : Int), (2147483647 : Int), []), .inl ((-2147483648 : Int), (2147483647 : Int), [])], ([], [], []), ([], []), [(.inl (3 : Nat), (249 : Nat), ([], [], []))])
set_option maxRecDepth 100000 in
theorem pl_s683_s {X : Int → Int} {LX : Nat} : ck_Ok p2_OL X LX 167 pl_s683 := ck_okq (cuts := []) (f := 76) ⟨pl_nmu, ck_E1 (ck_S1 pl_s153_s ck_S0) ck_E0⟩ (by decide +kernel)
set_option maxRecDepth 100000 in
/-- GlacierMail.throwsFor -/
noncomputable def pl_s684 : ck_Sum := (((8 : Nat), (1 : Nat), (6 : Nat)), (249 : Nat), [.inr (.inr (.inl (1 : Nat))), .inl ((6 : Int), (2147483647 : Int), []), .inl ((-2147483648 : Int), (2147483647 : Int), []), .inl ((-2147483648 : Int), (2147483647 : Int), []), .inl ((-2147483648 : Int), (2147483647 : Int), [])], ([], [], []), ([], []), [(.inl (3 : Nat), (249 : Nat), ([], [], []))])
set_option maxRecDepth 100000 in
theorem pl_s684_s {X : Int → Int} {LX : Nat} : ck_Ok p2_OL X LX 167 pl_s684 := ck_okq (cuts := []) (f := 76) ⟨pl_nmu, ck_E1 (ck_S1 pl_s156_s ck_S0) ck_E0⟩ (by decide +kernel)
set_option maxRecDepth 100000 in
/-- GlacierMail.throwsFor -/
noncomputable def pl_s685 : ck_Sum := (((8 : Nat), (2 : Nat), (12 : Nat)), (249 : Nat), [.inr (.inr (.inl (1 : Nat))), .inl ((0 : Int), (5 : Int), []), .inl ((-2147483648 : Int), (-1 : Int), []), .inl ((-2147483648 : Int), (2147483647 : Int), []), .inl ((-2147483648 : Int), (2147483647 : Int), [])], ([], [], []), ([], []), [(.inl (3 : Nat), (249 : Nat), ([], [], [])), (.inl (0 : Nat), (249 : Nat), ([], [], []))])
set_option maxRecDepth 100000 in
theorem pl_s685_s {X : Int → Int} {LX : Nat} : ck_Ok p2_OL X LX 167 pl_s685 := ck_okq (cuts := []) (f := 82) ⟨pl_nmu, ck_E1 (ck_S1 pl_s159_s ck_S0) (ck_E1 (ck_S1 pl_s145_s ck_S0) ck_E0)⟩ (by decide +kernel)
set_option maxRecDepth 100000 in
/-- GlacierMail.throwsFor -/
noncomputable def pl_s686 : ck_Sum := (((8 : Nat), (2 : Nat), (12 : Nat)), (249 : Nat), [.inr (.inr (.inl (1 : Nat))), .inl ((0 : Int), (5 : Int), []), .inl ((300 : Int), (2147483647 : Int), []), .inl ((-2147483648 : Int), (2147483647 : Int), []), .inl ((-2147483648 : Int), (2147483647 : Int), [])], ([], [], []), ([], []), [(.inl (3 : Nat), (249 : Nat), ([], [], [])), (.inl (0 : Nat), (249 : Nat), ([], [], []))])
set_option maxRecDepth 100000 in
theorem pl_s686_s {X : Int → Int} {LX : Nat} : ck_Ok p2_OL X LX 167 pl_s686 := ck_okq (cuts := []) (f := 82) ⟨pl_nmu, ck_E1 (ck_S1 pl_s159_s ck_S0) (ck_E1 (ck_S1 pl_s147_s ck_S0) ck_E0)⟩ (by decide +kernel)
set_option maxRecDepth 100000 in
/-- GlacierMail.throwsFor -/
noncomputable def pl_s687 : ck_Sum := (((8 : Nat), (2 : Nat), (12 : Nat)), (249 : Nat), [.inr (.inr (.inl (1 : Nat))), .inl ((0 : Int), (5 : Int), []), .inl ((0 : Int), (299 : Int), []), .inl ((-2147483648 : Int), (-1 : Int), []), .inl ((-2147483648 : Int), (2147483647 : Int), [])], ([], [], []), ([], []), [(.inl (3 : Nat), (249 : Nat), ([], [], [])), (.inl (0 : Nat), (249 : Nat), ([], [], []))])
set_option maxRecDepth 100000 in
theorem pl_s687_s {X : Int → Int} {LX : Nat} : ck_Ok p2_OL X LX 167 pl_s687 := ck_okq (cuts := []) (f := 88) ⟨pl_nmu, ck_E1 (ck_S1 pl_s159_s ck_S0) (ck_E1 (ck_S1 pl_s149_s (ck_S1 pl_s145_s ck_S0)) ck_E0)⟩ (by decide +kernel)
set_option maxRecDepth 100000 in
/-- GlacierMail.throwsFor -/
noncomputable def pl_s688 : ck_Sum := (((8 : Nat), (2 : Nat), (12 : Nat)), (249 : Nat), [.inr (.inr (.inl (1 : Nat))), .inl ((0 : Int), (5 : Int), []), .inl ((0 : Int), (299 : Int), []), .inl ((300 : Int), (2147483647 : Int), []), .inl ((-2147483648 : Int), (2147483647 : Int), [])], ([], [], []), ([], []), [(.inl (3 : Nat), (249 : Nat), ([], [], [])), (.inl (0 : Nat), (249 : Nat), ([], [], []))])
set_option maxRecDepth 100000 in
theorem pl_s688_s {X : Int → Int} {LX : Nat} : ck_Ok p2_OL X LX 167 pl_s688 := ck_okq (cuts := []) (f := 88) ⟨pl_nmu, ck_E1 (ck_S1 pl_s159_s ck_S0) (ck_E1 (ck_S1 pl_s149_s (ck_S1 pl_s147_s ck_S0)) ck_E0)⟩ (by decide +kernel)
set_option maxRecDepth 100000 in
/-- GlacierMail.throwsFor -/
noncomputable def pl_s689 : ck_Sum := (((8 : Nat), (2 : Nat), (12 : Nat)), (249 : Nat), [.inr (.inr (.inl (1 : Nat))), .inl ((0 : Int), (5 : Int), []), .inl ((0 : Int), (299 : Int), []), .inl ((0 : Int), (299 : Int), []), .inl ((-2147483648 : Int), (-1 : Int), [])], ([], [], [((3 : Nat), (6 : Int), (6 : Int), ((0 : Int), (299 : Int), [((10 : Nat), (0 : Int))]))]), ([], []), [(.inl (3 : Nat), (249 : Nat), ([], [], [])), (.inl (4 : Nat), (249 : Nat), ([], [], [])), (.inl (0 : Nat), (249 : Nat), ([], [], [((3 : Nat), (6 : Int), (6 : Int), ((1 : Int), (299 : Int), [((10 : Nat), (0 : Int))]))]))])
set_option maxRecDepth 100000 in
theorem pl_s689_s {X : Int → Int} {LX : Nat} : ck_Ok p2_OL X LX 167 pl_s689 := ck_okq (cuts := []) (f := 104) ⟨pl_nmu, ck_E1 (ck_S1 pl_s159_s ck_S0) (ck_E1 (ck_S1 pl_s149_s ck_S0) ck_E0)⟩ (by decide +kernel)
set_option maxRecDepth 100000 in
/-- GlacierMail.throwsFor -/
noncomputable def pl_s690 : ck_Sum := (((8 : Nat), (2 : Nat), (12 : Nat)), (249 : Nat), [.inr (.inr (.inl (1 : Nat))), .inl ((0 : Int), (5 : Int), []), .inl ((0 : Int), (299 : Int), []), .inl ((0 : Int), (299 : Int), []), .inl ((10 : Int), (2147483647 : Int), [])], ([], [], [((3 : Nat), (6 : Int), (6 : Int), ((0 : Int), (299 : Int), [((10 : Nat), (0 : Int))]))]), ([], []), [(.inl (3 : Nat), (249 : Nat), ([], [], [])), (.inl (4 : Nat), (249 : Nat), ([], [], [])), (.inl (0 : Nat), (249 : Nat), ([], [], [((3 : Nat), (6 : Int), (6 : Int), ((1 : Int), (299 : Int), [((10 : Nat), (0 : Int))]))]))])
set_option maxRecDepth 100000 in
theorem pl_s690_s {X : Int → Int} {LX : Nat} : ck_Ok p2_OL X LX 167 pl_s690 := ck_okq (cuts := []) (f := 110) ⟨pl_nmu, ck_E1 (ck_S1 pl_s159_s ck_S0) (ck_E1 (ck_S1 pl_s149_s ck_S0) ck_E0)⟩ (by decide +kernel)
set_option maxRecDepth 100000 in
/-- GlacierMail$Way.start -/
noncomputable def pl_s691 : ck_Sum := (((0 : Nat), (0 : Nat), (0 : Nat)), (249 : Nat), [.inr (.inr (.inl (206 : Nat))), .inl ((-2147483648 : Int), (2147483647 : Int), []), .inl ((-2147483648 : Int), (2147483647 : Int), []), .inl ((0 : Int), (299 : Int), []), .inl ((0 : Int), (1 : Int), [])], ([], [], []), ([((206 : Nat), (2 : Int), (8 : Int))], []), [(.inr none, (249 : Nat), ([], [], zl183))])
set_option maxRecDepth 100000 in
theorem pl_s691_s {X : Int → Int} {LX : Nat} : ck_Ok p2_OL X LX 29 pl_s691 := ck_okq (cuts := []) (f := 114) ⟨pl_nmu, ck_E0⟩ (by decide +kernel)
set_option maxRecDepth 100000 in
/-- GlacierMail.latest -/
noncomputable def pl_s693 : ck_Sum := (((8 : Nat), (1 : Nat), (6 : Nat)), (249 : Nat), [.inr (.inr (.inl (1 : Nat))), .inl ((-2147483648 : Int), (-1 : Int), []), .inl ((-2147483648 : Int), (2147483647 : Int), [])], ([], [], []), ([], []), [(.inl (3 : Nat), (249 : Nat), ([], [], []))])
set_option maxRecDepth 100000 in
theorem pl_s693_s {X : Int → Int} {LX : Nat} : ck_Ok p2_OL X LX 169 pl_s693 := ck_okq (cuts := []) (f := 76) ⟨pl_nmu, ck_E1 (ck_S1 pl_s191_s ck_S0) ck_E0⟩ (by decide +kernel)
set_option maxRecDepth 100000 in
/-- GlacierMail.latest -/
noncomputable def pl_s694 : ck_Sum := (((8 : Nat), (1 : Nat), (6 : Nat)), (249 : Nat), [.inr (.inr (.inl (1 : Nat))), .inl ((8 : Int), (2147483647 : Int), []), .inl ((-2147483648 : Int), (2147483647 : Int), [])], ([], [], []), ([], []), [(.inl (3 : Nat), (249 : Nat), ([], [], []))])
set_option maxRecDepth 100000 in
theorem pl_s694_s {X : Int → Int} {LX : Nat} : ck_Ok p2_OL X LX 169 pl_s694 := ck_okq (cuts := []) (f := 76) ⟨pl_nmu, ck_E1 (ck_S1 pl_s194_s ck_S0) ck_E0⟩ (by decide +kernel)
set_option maxRecDepth 100000 in
/-- GlacierMail.latest -/
noncomputable def pl_s695 : ck_Sum := (((8 : Nat), (2 : Nat), (12 : Nat)), (249 : Nat), [.inr (.inr (.inl (1 : Nat))), .inl ((0 : Int), (7 : Int), []), .inl ((-2147483648 : Int), (-1 : Int), [])], ([], [], []), ([], []), [(.inl (3 : Nat), (249 : Nat), ([], [], [])), (.inl (0 : Nat), (249 : Nat), ([], [], []))])
set_option maxRecDepth 100000 in
theorem pl_s695_s {X : Int → Int} {LX : Nat} : ck_Ok p2_OL X LX 169 pl_s695 := ck_okq (cuts := []) (f := 82) ⟨pl_nmu, ck_E1 (ck_S1 pl_s197_s ck_S0) (ck_E1 (ck_S1 pl_s145_s ck_S0) ck_E0)⟩ (by decide +kernel)
set_option maxRecDepth 100000 in
/-- GlacierMail.latest -/
noncomputable def pl_s696 : ck_Sum := (((8 : Nat), (2 : Nat), (12 : Nat)), (249 : Nat), [.inr (.inr (.inl (1 : Nat))), .inl ((0 : Int), (7 : Int), []), .inl ((300 : Int), (2147483647 : Int), [])], ([], [], []), ([], []), [(.inl (3 : Nat), (249 : Nat), ([], [], [])), (.inl (0 : Nat), (249 : Nat), ([], [], []))])
set_option maxRecDepth 100000 in
theorem pl_s696_s {X : Int → Int} {LX : Nat} : ck_Ok p2_OL X LX 169 pl_s696 := ck_okq (cuts := []) (f := 82) ⟨pl_nmu, ck_E1 (ck_S1 pl_s197_s ck_S0) (ck_E1 (ck_S1 pl_s147_s ck_S0) ck_E0)⟩ (by decide +kernel)
set_option maxRecDepth 100000 in
/-- GlacierMail$Way.startHut -/
noncomputable def pl_s697 : ck_Sum := (((1 : Nat), (0 : Nat), (0 : Nat)), (249 : Nat), [.inr (.inr (.inl (206 : Nat))), .inl ((0 : Int), (7 : Int), []), .inl ((0 : Int), (299 : Int), [])], ([], [], []), ([((206 : Nat), (2 : Int), (8 : Int))], []), [(.inr none, (249 : Nat), ([], [], zl183))])
set_option maxRecDepth 100000 in
theorem pl_s697_s {X : Int → Int} {LX : Nat} : ck_Ok p2_OL X LX 170 pl_s697 := ck_okq (cuts := []) (f := 104) ⟨pl_nmu, ck_E1 (ck_S1 pl_s224_s ck_S0) (ck_E1 (ck_S1 pl_s691_s ck_S0) ck_E0)⟩ (by decide +kernel)
set_option maxRecDepth 100000 in
/-- GlacierMail.hut -/
noncomputable def pl_s699 : ck_Sum := (((8 : Nat), (1 : Nat), (6 : Nat)), (249 : Nat), [.inr (.inr (.inl (1 : Nat))), .inl ((-2147483648 : Int), (-1 : Int), []), .inl ((-2147483648 : Int), (2147483647 : Int), [])], ([], [], []), ([], []), [(.inl (3 : Nat), (249 : Nat), ([], [], []))])
set_option maxRecDepth 100000 in
theorem pl_s699_s {X : Int → Int} {LX : Nat} : ck_Ok p2_OL X LX 172 pl_s699 := ck_okq (cuts := []) (f := 76) ⟨pl_nmu, ck_E1 (ck_S1 pl_s153_s ck_S0) ck_E0⟩ (by decide +kernel)
set_option maxRecDepth 100000 in
/-- GlacierMail.hut -/
noncomputable def pl_s700 : ck_Sum := (((8 : Nat), (1 : Nat), (6 : Nat)), (249 : Nat), [.inr (.inr (.inl (1 : Nat))), .inl ((6 : Int), (2147483647 : Int), []), .inl ((-2147483648 : Int), (2147483647 : Int), [])], ([], [], []), ([], []), [(.inl (3 : Nat), (249 : Nat), ([], [], []))])
set_option maxRecDepth 100000 in
theorem pl_s700_s {X : Int → Int} {LX : Nat} : ck_Ok p2_OL X LX 172 pl_s700 := ck_okq (cuts := []) (f := 76) ⟨pl_nmu, ck_E1 (ck_S1 pl_s156_s ck_S0) ck_E0⟩ (by decide +kernel)
set_option maxRecDepth 100000 in
/-- GlacierMail.hut -/
noncomputable def pl_s701 : ck_Sum := (((8 : Nat), (2 : Nat), (12 : Nat)), (249 : Nat), [.inr (.inr (.inl (1 : Nat))), .inl ((0 : Int), (5 : Int), []), .inl ((-2147483648 : Int), (-1 : Int), [])], ([], [], []), ([], []), [(.inl (3 : Nat), (249 : Nat), ([], [], [])), (.inl (0 : Nat), (249 : Nat), ([], [], []))])
set_option maxRecDepth 100000 in
theorem pl_s701_s {X : Int → Int} {LX : Nat} : ck_Ok p2_OL X LX 172 pl_s701 := ck_okq (cuts := []) (f := 84) ⟨pl_nmu, ck_E1 (ck_S1 pl_s159_s ck_S0) ck_E0⟩ (by decide +kernel)
set_option maxRecDepth 100000 in
/-- GlacierMail.hut -/
noncomputable def pl_s702 : ck_Sum := (((8 : Nat), (2 : Nat), (12 : Nat)), (249 : Nat), [.inr (.inr (.inl (1 : Nat))), .inl ((0 : Int), (5 : Int), []), .inl ((300 : Int), (2147483647 : Int), [])], ([], [], []), ([], []), [(.inl (3 : Nat), (249 : Nat), ([], [], [])), (.inl (0 : Nat), (249 : Nat), ([], [], []))])
set_option maxRecDepth 100000 in
theorem pl_s702_s {X : Int → Int} {LX : Nat} : ck_Ok p2_OL X LX 172 pl_s702 := ck_okq (cuts := []) (f := 90) ⟨pl_nmu, ck_E1 (ck_S1 pl_s159_s ck_S0) ck_E0⟩ (by decide +kernel)
set_option maxRecDepth 100000 in
/-- GlacierMail.without -/
noncomputable def pl_s704 : ck_Sum := (((8 : Nat), (1 : Nat), (6 : Nat)), (249 : Nat), [.inr (.inr (.inl (1 : Nat))), .inl ((-2147483648 : Int), (-1 : Int), []), .inl ((-2147483648 : Int), (2147483647 : Int), [])], ([], [], []), ([], []), [(.inl (3 : Nat), (249 : Nat), ([], [], []))])
set_option maxRecDepth 100000 in
theorem pl_s704_s {X : Int → Int} {LX : Nat} : ck_Ok p2_OL X LX 174 pl_s704 := ck_okq (cuts := []) (f := 76) ⟨pl_nmu, ck_E1 (ck_S1 pl_s227_s ck_S0) ck_E0⟩ (by decide +kernel)
set_option maxRecDepth 100000 in
/-- GlacierMail.without -/
noncomputable def pl_s705 : ck_Sum := (((8 : Nat), (1 : Nat), (6 : Nat)), (249 : Nat), [.inr (.inr (.inl (1 : Nat))), .inl ((24 : Int), (2147483647 : Int), []), .inl ((-2147483648 : Int), (2147483647 : Int), [])], ([], [], []), ([], []), [(.inl (3 : Nat), (249 : Nat), ([], [], []))])
set_option maxRecDepth 100000 in
theorem pl_s705_s {X : Int → Int} {LX : Nat} : ck_Ok p2_OL X LX 174 pl_s705 := ck_okq (cuts := []) (f := 76) ⟨pl_nmu, ck_E1 (ck_S1 pl_s230_s ck_S0) ck_E0⟩ (by decide +kernel)
set_option maxRecDepth 100000 in
/-- GlacierMail.without -/
noncomputable def pl_s706 : ck_Sum := (((8 : Nat), (2 : Nat), (12 : Nat)), (249 : Nat), [.inr (.inr (.inl (1 : Nat))), .inl ((0 : Int), (23 : Int), []), .inl ((-2147483648 : Int), (-1 : Int), [])], ([], [], []), ([], []), [(.inl (3 : Nat), (249 : Nat), ([], [], []))])
set_option maxRecDepth 100000 in
theorem pl_s706_s {X : Int → Int} {LX : Nat} : ck_Ok p2_OL X LX 174 pl_s706 := ck_okq (cuts := []) (f := 90) ⟨pl_nmu, ck_E1 (ck_S1 pl_s233_s ck_S0) (ck_E1 (ck_S1 pl_s137_s ck_S0) (ck_E1 (ck_S1 pl_s190_s ck_S0) ck_E0))⟩ (by decide +kernel)
set_option maxRecDepth 100000 in
/-- GlacierMail.without -/
noncomputable def pl_s707 : ck_Sum := (((8 : Nat), (2 : Nat), (12 : Nat)), (249 : Nat), [.inr (.inr (.inl (1 : Nat))), .inl ((0 : Int), (23 : Int), []), .inl ((8 : Int), (2147483647 : Int), [])], ([], [], []), ([], []), [(.inl (3 : Nat), (249 : Nat), ([], [], []))])
set_option maxRecDepth 100000 in
theorem pl_s707_s {X : Int → Int} {LX : Nat} : ck_Ok p2_OL X LX 174 pl_s707 := ck_okq (cuts := []) (f := 90) ⟨pl_nmu, ck_E1 (ck_S1 pl_s233_s ck_S0) (ck_E1 (ck_S1 pl_s137_s ck_S0) (ck_E1 (ck_S1 pl_s193_s ck_S0) ck_E0))⟩ (by decide +kernel)
set_option maxRecDepth 100000 in
/-- GlacierMail$Way.leaveOut -/
noncomputable def pl_s708 : ck_Sum := (((0 : Nat), (0 : Nat), (0 : Nat)), (249 : Nat), [.inr (.inr (.inl (206 : Nat))), .inl ((0 : Int), (7 : Int), [])], ([], [], []), ([((206 : Nat), (4 : Int), (4 : Int))], []), [(.inr none, (249 : Nat), ([], [], [((206 : Nat), (4 : Int), (4 : Int), ((0 : Int), (7 : Int), []))]))])
set_option maxRecDepth 100000 in
theorem pl_s708_s {X : Int → Int} {LX : Nat} : ck_Ok p2_OL X LX 175 pl_s708 := ck_okq (cuts := []) (f := 78) ⟨pl_nmu, ck_E0⟩ (by decide +kernel)
set_option maxRecDepth 100000 in
/-- GlacierMail.moved -/
noncomputable def pl_s710 : ck_Sum := (((8 : Nat), (1 : Nat), (6 : Nat)), (249 : Nat), [.inr (.inr (.inl (1 : Nat))), .inl ((-2147483648 : Int), (-1 : Int), [])], ([], [], []), ([], []), [(.inl (3 : Nat), (249 : Nat), ([], [], []))])
set_option maxRecDepth 100000 in
theorem pl_s710_s {X : Int → Int} {LX : Nat} : ck_Ok p2_OL X LX 177 pl_s710 := ck_okq (cuts := []) (f := 76) ⟨pl_nmu, ck_E1 (ck_S1 pl_s227_s ck_S0) ck_E0⟩ (by decide +kernel)
set_option maxRecDepth 100000 in
/-- GlacierMail.moved -/
noncomputable def pl_s711 : ck_Sum := (((8 : Nat), (1 : Nat), (6 : Nat)), (249 : Nat), [.inr (.inr (.inl (1 : Nat))), .inl ((24 : Int), (2147483647 : Int), [])], ([], [], []), ([], []), [(.inl (3 : Nat), (249 : Nat), ([], [], []))])
set_option maxRecDepth 100000 in
theorem pl_s711_s {X : Int → Int} {LX : Nat} : ck_Ok p2_OL X LX 177 pl_s711 := ck_okq (cuts := []) (f := 76) ⟨pl_nmu, ck_E1 (ck_S1 pl_s230_s ck_S0) ck_E0⟩ (by decide +kernel)
set_option maxRecDepth 100000 in
/-- GlacierMail.outIn -/
noncomputable def pl_s714 : ck_Sum := (((2 : Nat), (0 : Nat), (0 : Nat)), (249 : Nat), [.inr (.inr (.inl (1 : Nat))), .inl ((-2147483648 : Int), (299 : Int), []), .inl (ck_one 0)], ([], [], []), ([], []), [(.inr (some (.inl ((-2147483648 : Int), (2147483647 : Int), []))), (249 : Nat), ([], [], []))])
set_option maxRecDepth 100000 in
theorem pl_s714_s {X : Int → Int} {LX : Nat} : ck_Ok p2_OL X LX 47 pl_s714 := ck_okq (cuts := [((5 : Nat), [some (.inr (.inr (.inl (1 : Nat)))), some (.inl ((-2147483648 : Int), (299 : Int), [])), some (.inl (ck_one 0)), some (.inl ((-2147483648 : Int), (2147483647 : Int), [])), some (.inl ((0 : Int), (24 : Int), []))], ([], [], []), (100 : Nat), .inl (4 : Nat), true)]) (f := 182) ⟨pl_nmu, ck_E1 (ck_S1 pl_s201_s ck_S0) (ck_E1 (ck_S1 pl_s218_s ck_S0) (ck_E1 (ck_S1 pl_s205_s ck_S0) ck_E0))⟩ (by decide +kernel)
set_option maxRecDepth 100000 in
/-- GlacierMail.passes -/
noncomputable def pl_s716 : ck_Sum := (((8 : Nat), (1 : Nat), (6 : Nat)), (249 : Nat), [.inr (.inr (.inl (1 : Nat))), .inl ((-2147483648 : Int), (-1 : Int), [])], ([], [], []), ([], []), [(.inl (3 : Nat), (249 : Nat), ([], [], []))])
set_option maxRecDepth 100000 in
theorem pl_s716_s {X : Int → Int} {LX : Nat} : ck_Ok p2_OL X LX 179 pl_s716 := ck_okq (cuts := []) (f := 76) ⟨pl_nmu, ck_E1 (ck_S1 pl_s227_s ck_S0) ck_E0⟩ (by decide +kernel)
set_option maxRecDepth 100000 in
/-- GlacierMail.passes -/
noncomputable def pl_s717 : ck_Sum := (((8 : Nat), (1 : Nat), (6 : Nat)), (249 : Nat), [.inr (.inr (.inl (1 : Nat))), .inl ((24 : Int), (2147483647 : Int), [])], ([], [], []), ([], []), [(.inl (3 : Nat), (249 : Nat), ([], [], []))])
set_option maxRecDepth 100000 in
theorem pl_s717_s {X : Int → Int} {LX : Nat} : ck_Ok p2_OL X LX 179 pl_s717 := ck_okq (cuts := []) (f := 76) ⟨pl_nmu, ck_E1 (ck_S1 pl_s230_s ck_S0) ck_E0⟩ (by decide +kernel)
set_option maxRecDepth 100000 in
/-- GlacierMail.sameLane -/
noncomputable def pl_s718 : ck_Sum := (((1 : Nat), (0 : Nat), (0 : Nat)), (249 : Nat), [.inr (.inr (.inl (1 : Nat))), .inl ((0 : Int), (23 : Int), []), .inl ((0 : Int), (23 : Int), [])], ([], [], []), ([], []), [(.inr (some (.inl (ck_one 0))), (249 : Nat), ([], [], [])), (.inr (some (.inl (ck_one 1))), (249 : Nat), ([], [], []))])
set_option maxRecDepth 100000 in
theorem pl_s718_s {X : Int → Int} {LX : Nat} : ck_Ok p2_OL X LX 180 pl_s718 := ck_okq (cuts := []) (f := 102) ⟨pl_nmu, ck_E1 (ck_S1 pl_s204_s ck_S0) ck_E0⟩ (by decide +kernel)
set_option maxRecDepth 100000 in
/-- GlacierMail$Way.start -/
noncomputable def pl_s719 : ck_Sum := (((0 : Nat), (0 : Nat), (0 : Nat)), (249 : Nat), [.inr (.inr (.inl (207 : Nat))), .inl ((-1 : Int), (299 : Int), []), .inl ((-1 : Int), (299 : Int), []), .inl ((-1 : Int), (299 : Int), []), .inl (ck_one 0)], ([], [], []), ([((207 : Nat), (2 : Int), (8 : Int))], []), [(.inr none, (249 : Nat), ([], [], zl190))])
set_option maxRecDepth 100000 in
theorem pl_s719_s {X : Int → Int} {LX : Nat} : ck_Ok p2_OL X LX 29 pl_s719 := ck_okq (cuts := []) (f := 114) ⟨pl_nmu, ck_E0⟩ (by decide +kernel)
set_option maxRecDepth 100000 in
/-- GlacierMail$Way.start -/
noncomputable def pl_s720 : ck_Sum := (((0 : Nat), (0 : Nat), (0 : Nat)), (249 : Nat), [.inr (.inr (.inl (207 : Nat))), .inl ((-1 : Int), (299 : Int), []), .inl ((-1 : Int), (299 : Int), []), .inl ((-1 : Int), (299 : Int), []), .inl (ck_one 1)], ([], [], []), ([((207 : Nat), (2 : Int), (8 : Int))], []), [(.inr none, (249 : Nat), ([], [], zl191))])
set_option maxRecDepth 100000 in
theorem pl_s720_s {X : Int → Int} {LX : Nat} : ck_Ok p2_OL X LX 29 pl_s720 := ck_okq (cuts := []) (f := 114) ⟨pl_nmu, ck_E0⟩ (by decide +kernel)
set_option maxRecDepth 100000 in
/-- GlacierMail$Way.startLetter -/
noncomputable def pl_s721 : ck_Sum := (((2 : Nat), (0 : Nat), (0 : Nat)), (249 : Nat), [.inr (.inr (.inl (207 : Nat))), .inl ((0 : Int), (23 : Int), [])], ([], [], []), ([((207 : Nat), (2 : Int), (8 : Int))], []), [(.inr none, (249 : Nat), ([], [], zl192))])
set_option maxRecDepth 100000 in
theorem pl_s721_s {X : Int → Int} {LX : Nat} : ck_Ok p2_OL X LX 27 pl_s721 := ck_okq (cuts := []) (f := 116) ⟨pl_nmu, ck_E1 (ck_S1 pl_s204_s ck_S0) (ck_E1 (ck_S1 pl_s205_s ck_S0) (ck_E1 (ck_S1 pl_s719_s (ck_S1 pl_s720_s ck_S0)) ck_E0))⟩ (by decide +kernel)
set_option maxRecDepth 100000 in
/-- GlacierMail$Way.deepAfter -/
noncomputable def pl_s723 : ck_Sum := (((1 : Nat), (0 : Nat), (0 : Nat)), (249 : Nat), [.inr (.inr (.inl (207 : Nat)))], ([], [], []), ([], []), [(.inr (some (.inl ((0 : Int), (99 : Int), []))), (249 : Nat), ([], [], []))])
set_option maxRecDepth 100000 in
theorem pl_s723_s {X : Int → Int} {LX : Nat} : ck_Ok p2_OL X LX 33 pl_s723 := ck_okq (cuts := []) (f := 110) ⟨pl_nmu, ck_E1 (ck_S1 pl_s179_s ck_S0) ck_E0⟩ (by decide +kernel)
set_option maxRecDepth 100000 in
/-- GlacierMail$Way.takeFloods -/
noncomputable def pl_s724 : ck_Sum := (((1 : Nat), (0 : Nat), (0 : Nat)), (249 : Nat), [.inr (.inr (.inl (207 : Nat)))], ([], [], []), ([((207 : Nat), (5 : Int), (5 : Int)), ((207 : Nat), (8 : Int), (8 : Int))], []), [(.inr none, (249 : Nat), ([], [], []))])
set_option maxRecDepth 100000 in
theorem pl_s724_s {X : Int → Int} {LX : Nat} : ck_Ok p2_OL X LX 43 pl_s724 := ck_okq (cuts := [((22 : Nat), [some (.inr (.inr (.inl (207 : Nat)))), some (.inr (.inr (.inl (6 : Nat)))), some (.inl ((-2147483648 : Int), (2147483647 : Int), [])), some (.inl ((0 : Int), (9 : Int), [])), none], ([], [], []), (100 : Nat), .inl (3 : Nat), true)]) (f := 290) ⟨pl_nmu, ck_E1 (ck_S1 pl_s211_s ck_S0) (ck_E1 (ck_S1 pl_s137_s ck_S0) (ck_E1 (ck_S1 pl_s138_s ck_S0) ck_E0))⟩ (by decide +kernel)
set_option maxRecDepth 100000 in
/-- GlacierMail.writers -/
noncomputable def pl_s732 : ck_Sum := (((8 : Nat), (1 : Nat), (6 : Nat)), (249 : Nat), [.inr (.inr (.inl (1 : Nat))), .inl ((-2147483648 : Int), (-1 : Int), []), .inl ((-2147483648 : Int), (2147483647 : Int), []), .inl ((-2147483648 : Int), (2147483647 : Int), [])], ([], [], []), ([], []), [(.inl (3 : Nat), (249 : Nat), ([], [], []))])
set_option maxRecDepth 100000 in
theorem pl_s732_s {X : Int → Int} {LX : Nat} : ck_Ok p2_OL X LX 186 pl_s732 := ck_okq (cuts := []) (f := 76) ⟨pl_nmu, ck_E1 (ck_S1 pl_s153_s ck_S0) ck_E0⟩ (by decide +kernel)
set_option maxRecDepth 100000 in
/-- GlacierMail.writers -/
noncomputable def pl_s733 : ck_Sum := (((8 : Nat), (1 : Nat), (6 : Nat)), (249 : Nat), [.inr (.inr (.inl (1 : Nat))), .inl ((6 : Int), (2147483647 : Int), []), .inl ((-2147483648 : Int), (2147483647 : Int), []), .inl ((-2147483648 : Int), (2147483647 : Int), [])], ([], [], []), ([], []), [(.inl (3 : Nat), (249 : Nat), ([], [], []))])
set_option maxRecDepth 100000 in
theorem pl_s733_s {X : Int → Int} {LX : Nat} : ck_Ok p2_OL X LX 186 pl_s733 := ck_okq (cuts := []) (f := 76) ⟨pl_nmu, ck_E1 (ck_S1 pl_s156_s ck_S0) ck_E0⟩ (by decide +kernel)
set_option maxRecDepth 100000 in
/-- GlacierMail.needFind -/
noncomputable def pl_s734 : ck_Sum := (((7 : Nat), (1 : Nat), (6 : Nat)), (249 : Nat), [.inr (.inr (.inl (1 : Nat))), .inl ((-2147483648 : Int), (-1 : Int), []), .inl ((-2147483648 : Int), (2147483647 : Int), [])], ([], [], []), ([], []), [(.inl (0 : Nat), (249 : Nat), ([], [], []))])
set_option maxRecDepth 100000 in
theorem pl_s734_s {X : Int → Int} {LX : Nat} : ck_Ok p2_OL X LX 187 pl_s734 := ck_okq (cuts := []) (f := 76) ⟨pl_nmu, ck_E1 (ck_S1 pl_s145_s ck_S0) ck_E0⟩ (by decide +kernel)
set_option maxRecDepth 100000 in
/-- GlacierMail.writers -/
noncomputable def pl_s735 : ck_Sum := (((8 : Nat), (2 : Nat), (12 : Nat)), (249 : Nat), [.inr (.inr (.inl (1 : Nat))), .inl ((0 : Int), (5 : Int), []), .inl ((-2147483648 : Int), (-1 : Int), []), .inl ((-2147483648 : Int), (2147483647 : Int), [])], ([], [], []), ([], []), [(.inl (3 : Nat), (249 : Nat), ([], [], [])), (.inl (0 : Nat), (249 : Nat), ([], [], []))])
set_option maxRecDepth 100000 in
theorem pl_s735_s {X : Int → Int} {LX : Nat} : ck_Ok p2_OL X LX 186 pl_s735 := ck_okq (cuts := []) (f := 84) ⟨pl_nmu, ck_E1 (ck_S1 pl_s159_s ck_S0) (ck_E1 (ck_S1 pl_s734_s ck_S0) ck_E0)⟩ (by decide +kernel)
set_option maxRecDepth 100000 in
/-- GlacierMail.needFind -/
noncomputable def pl_s736 : ck_Sum := (((7 : Nat), (1 : Nat), (6 : Nat)), (249 : Nat), [.inr (.inr (.inl (1 : Nat))), .inl ((300 : Int), (2147483647 : Int), []), .inl ((-2147483648 : Int), (2147483647 : Int), [])], ([], [], []), ([], []), [(.inl (0 : Nat), (249 : Nat), ([], [], []))])
set_option maxRecDepth 100000 in
theorem pl_s736_s {X : Int → Int} {LX : Nat} : ck_Ok p2_OL X LX 187 pl_s736 := ck_okq (cuts := []) (f := 76) ⟨pl_nmu, ck_E1 (ck_S1 pl_s147_s ck_S0) ck_E0⟩ (by decide +kernel)
set_option maxRecDepth 100000 in
/-- GlacierMail.writers -/
noncomputable def pl_s737 : ck_Sum := (((8 : Nat), (2 : Nat), (12 : Nat)), (249 : Nat), [.inr (.inr (.inl (1 : Nat))), .inl ((0 : Int), (5 : Int), []), .inl ((300 : Int), (2147483647 : Int), []), .inl ((-2147483648 : Int), (2147483647 : Int), [])], ([], [], []), ([], []), [(.inl (3 : Nat), (249 : Nat), ([], [], [])), (.inl (0 : Nat), (249 : Nat), ([], [], []))])
set_option maxRecDepth 100000 in
theorem pl_s737_s {X : Int → Int} {LX : Nat} : ck_Ok p2_OL X LX 186 pl_s737 := ck_okq (cuts := []) (f := 84) ⟨pl_nmu, ck_E1 (ck_S1 pl_s159_s ck_S0) (ck_E1 (ck_S1 pl_s736_s ck_S0) ck_E0)⟩ (by decide +kernel)
set_option maxRecDepth 100000 in
/-- GlacierMail.needFind -/
noncomputable def pl_s738 : ck_Sum := (((6 : Nat), (1 : Nat), (6 : Nat)), (249 : Nat), [.inr (.inr (.inl (1 : Nat))), .inl ((0 : Int), (299 : Int), []), .inl ((-2147483648 : Int), (-1 : Int), [])], ([], [], []), ([], []), [(.inl (0 : Nat), (249 : Nat), ([], [], []))])
set_option maxRecDepth 100000 in
theorem pl_s738_s {X : Int → Int} {LX : Nat} : ck_Ok p2_OL X LX 187 pl_s738 := ck_okq (cuts := []) (f := 82) ⟨pl_nmu, ck_E1 (ck_S1 pl_s149_s ck_S0) ck_E0⟩ (by decide +kernel)
set_option maxRecDepth 100000 in
/-- GlacierMail.writers -/
noncomputable def pl_s739 : ck_Sum := (((8 : Nat), (2 : Nat), (12 : Nat)), (249 : Nat), [.inr (.inr (.inl (1 : Nat))), .inl ((0 : Int), (5 : Int), []), .inl ((0 : Int), (299 : Int), []), .inl ((-2147483648 : Int), (-1 : Int), [])], ([], [], []), ([], []), [(.inl (3 : Nat), (249 : Nat), ([], [], [])), (.inl (0 : Nat), (249 : Nat), ([], [], []))])
set_option maxRecDepth 100000 in
theorem pl_s739_s {X : Int → Int} {LX : Nat} : ck_Ok p2_OL X LX 186 pl_s739 := ck_okq (cuts := []) (f := 84) ⟨pl_nmu, ck_E1 (ck_S1 pl_s159_s ck_S0) (ck_E1 (ck_S1 pl_s738_s ck_S0) ck_E0)⟩ (by decide +kernel)
set_option maxRecDepth 100000 in
/-- GlacierMail.needFind -/
noncomputable def pl_s740 : ck_Sum := (((6 : Nat), (1 : Nat), (6 : Nat)), (249 : Nat), [.inr (.inr (.inl (1 : Nat))), .inl ((0 : Int), (299 : Int), []), .inl ((100 : Int), (2147483647 : Int), [])], ([], [], []), ([], []), [(.inl (0 : Nat), (249 : Nat), ([], [], []))])
set_option maxRecDepth 100000 in
theorem pl_s740_s {X : Int → Int} {LX : Nat} : ck_Ok p2_OL X LX 187 pl_s740 := ck_okq (cuts := []) (f := 88) ⟨pl_nmu, ck_E1 (ck_S1 pl_s149_s ck_S0) ck_E0⟩ (by decide +kernel)
set_option maxRecDepth 100000 in
/-- GlacierMail.writers -/
noncomputable def pl_s741 : ck_Sum := (((8 : Nat), (2 : Nat), (12 : Nat)), (249 : Nat), [.inr (.inr (.inl (1 : Nat))), .inl ((0 : Int), (5 : Int), []), .inl ((0 : Int), (299 : Int), []), .inl ((100 : Int), (2147483647 : Int), [])], ([], [], []), ([], []), [(.inl (3 : Nat), (249 : Nat), ([], [], [])), (.inl (0 : Nat), (249 : Nat), ([], [], []))])
set_option maxRecDepth 100000 in
theorem pl_s741_s {X : Int → Int} {LX : Nat} : ck_Ok p2_OL X LX 186 pl_s741 := ck_okq (cuts := []) (f := 84) ⟨pl_nmu, ck_E1 (ck_S1 pl_s159_s ck_S0) (ck_E1 (ck_S1 pl_s740_s ck_S0) ck_E0)⟩ (by decide +kernel)
set_option maxRecDepth 100000 in
/-- GlacierMail.needFind -/
noncomputable def pl_s742 : ck_Sum := (((1 : Nat), (0 : Nat), (0 : Nat)), (249 : Nat), [.inr (.inr (.inl (1 : Nat))), .inl ((0 : Int), (299 : Int), []), .inl ((0 : Int), (99 : Int), [])], ([], [], []), ([], []), [(.inr none, (249 : Nat), ([], [], []))])
set_option maxRecDepth 100000 in
theorem pl_s742_s {X : Int → Int} {LX : Nat} : ck_Ok p2_OL X LX 187 pl_s742 := ck_okq (cuts := []) (f := 88) ⟨pl_nmu, ck_E1 (ck_S1 pl_s149_s ck_S0) ck_E0⟩ (by decide +kernel)
set_option maxRecDepth 100000 in
/-- GlacierMail.wrote -/
noncomputable def pl_s745 : ck_Sum := (((8 : Nat), (1 : Nat), (6 : Nat)), (249 : Nat), [.inr (.inr (.inl (1 : Nat))), .inl ((-2147483648 : Int), (-1 : Int), []), .inl ((-2147483648 : Int), (2147483647 : Int), []), .inl ((-2147483648 : Int), (2147483647 : Int), []), .inl ((-2147483648 : Int), (2147483647 : Int), [])], ([], [], []), ([], []), [(.inl (3 : Nat), (249 : Nat), ([], [], []))])
set_option maxRecDepth 100000 in
theorem pl_s745_s {X : Int → Int} {LX : Nat} : ck_Ok p2_OL X LX 190 pl_s745 := ck_okq (cuts := []) (f := 76) ⟨pl_nmu, ck_E1 (ck_S1 pl_s191_s ck_S0) ck_E0⟩ (by decide +kernel)
set_option maxRecDepth 100000 in
/-- GlacierMail.wrote -/
noncomputable def pl_s746 : ck_Sum := (((8 : Nat), (1 : Nat), (6 : Nat)), (249 : Nat), [.inr (.inr (.inl (1 : Nat))), .inl ((8 : Int), (2147483647 : Int), []), .inl ((-2147483648 : Int), (2147483647 : Int), []), .inl ((-2147483648 : Int), (2147483647 : Int), []), .inl ((-2147483648 : Int), (2147483647 : Int), [])], ([], [], []), ([], []), [(.inl (3 : Nat), (249 : Nat), ([], [], []))])
set_option maxRecDepth 100000 in
theorem pl_s746_s {X : Int → Int} {LX : Nat} : ck_Ok p2_OL X LX 190 pl_s746 := ck_okq (cuts := []) (f := 76) ⟨pl_nmu, ck_E1 (ck_S1 pl_s194_s ck_S0) ck_E0⟩ (by decide +kernel)
set_option maxRecDepth 100000 in
/-- GlacierMail.wrote -/
noncomputable def pl_s747 : ck_Sum := (((8 : Nat), (2 : Nat), (12 : Nat)), (249 : Nat), [.inr (.inr (.inl (1 : Nat))), .inl ((0 : Int), (7 : Int), []), .inl ((-2147483648 : Int), (-1 : Int), []), .inl ((-2147483648 : Int), (2147483647 : Int), []), .inl ((-2147483648 : Int), (2147483647 : Int), [])], ([], [], []), ([], []), [(.inl (3 : Nat), (249 : Nat), ([], [], []))])
set_option maxRecDepth 100000 in
theorem pl_s747_s {X : Int → Int} {LX : Nat} : ck_Ok p2_OL X LX 190 pl_s747 := ck_okq (cuts := []) (f := 82) ⟨pl_nmu, ck_E1 (ck_S1 pl_s197_s ck_S0) (ck_E1 (ck_S1 pl_s153_s ck_S0) ck_E0)⟩ (by decide +kernel)
set_option maxRecDepth 100000 in
/-- GlacierMail.wrote -/
noncomputable def pl_s748 : ck_Sum := (((8 : Nat), (2 : Nat), (12 : Nat)), (249 : Nat), [.inr (.inr (.inl (1 : Nat))), .inl ((0 : Int), (7 : Int), []), .inl ((6 : Int), (2147483647 : Int), []), .inl ((-2147483648 : Int), (2147483647 : Int), []), .inl ((-2147483648 : Int), (2147483647 : Int), [])], ([], [], []), ([], []), [(.inl (3 : Nat), (249 : Nat), ([], [], []))])
set_option maxRecDepth 100000 in
theorem pl_s748_s {X : Int → Int} {LX : Nat} : ck_Ok p2_OL X LX 190 pl_s748 := ck_okq (cuts := []) (f := 82) ⟨pl_nmu, ck_E1 (ck_S1 pl_s197_s ck_S0) (ck_E1 (ck_S1 pl_s156_s ck_S0) ck_E0)⟩ (by decide +kernel)
set_option maxRecDepth 100000 in
/-- GlacierMail.wrote -/
noncomputable def pl_s749 : ck_Sum := (((8 : Nat), (3 : Nat), (18 : Nat)), (249 : Nat), [.inr (.inr (.inl (1 : Nat))), .inl ((0 : Int), (7 : Int), []), .inl ((0 : Int), (5 : Int), []), .inl ((-2147483648 : Int), (-1 : Int), []), .inl ((-2147483648 : Int), (2147483647 : Int), [])], ([], [], []), ([], []), [(.inl (3 : Nat), (249 : Nat), ([], [], [])), (.inl (0 : Nat), (249 : Nat), ([], [], []))])
set_option maxRecDepth 100000 in
theorem pl_s749_s {X : Int → Int} {LX : Nat} : ck_Ok p2_OL X LX 190 pl_s749 := ck_okq (cuts := []) (f := 90) ⟨pl_nmu, ck_E1 (ck_S1 pl_s197_s ck_S0) (ck_E1 (ck_S1 pl_s159_s ck_S0) (ck_E1 (ck_S1 pl_s734_s ck_S0) ck_E0))⟩ (by decide +kernel)
set_option maxRecDepth 100000 in
/-- GlacierMail.wrote -/
noncomputable def pl_s750 : ck_Sum := (((8 : Nat), (3 : Nat), (18 : Nat)), (249 : Nat), [.inr (.inr (.inl (1 : Nat))), .inl ((0 : Int), (7 : Int), []), .inl ((0 : Int), (5 : Int), []), .inl ((300 : Int), (2147483647 : Int), []), .inl ((-2147483648 : Int), (2147483647 : Int), [])], ([], [], []), ([], []), [(.inl (3 : Nat), (249 : Nat), ([], [], [])), (.inl (0 : Nat), (249 : Nat), ([], [], []))])
set_option maxRecDepth 100000 in
theorem pl_s750_s {X : Int → Int} {LX : Nat} : ck_Ok p2_OL X LX 190 pl_s750 := ck_okq (cuts := []) (f := 90) ⟨pl_nmu, ck_E1 (ck_S1 pl_s197_s ck_S0) (ck_E1 (ck_S1 pl_s159_s ck_S0) (ck_E1 (ck_S1 pl_s736_s ck_S0) ck_E0))⟩ (by decide +kernel)
set_option maxRecDepth 100000 in
/-- GlacierMail.wrote -/
noncomputable def pl_s751 : ck_Sum := (((8 : Nat), (3 : Nat), (18 : Nat)), (249 : Nat), [.inr (.inr (.inl (1 : Nat))), .inl ((0 : Int), (7 : Int), []), .inl ((0 : Int), (5 : Int), []), .inl ((0 : Int), (299 : Int), []), .inl ((-2147483648 : Int), (-1 : Int), [])], ([], [], []), ([], []), [(.inl (3 : Nat), (249 : Nat), ([], [], [])), (.inl (0 : Nat), (249 : Nat), ([], [], []))])
set_option maxRecDepth 100000 in
theorem pl_s751_s {X : Int → Int} {LX : Nat} : ck_Ok p2_OL X LX 190 pl_s751 := ck_okq (cuts := []) (f := 90) ⟨pl_nmu, ck_E1 (ck_S1 pl_s197_s ck_S0) (ck_E1 (ck_S1 pl_s159_s ck_S0) (ck_E1 (ck_S1 pl_s738_s ck_S0) ck_E0))⟩ (by decide +kernel)
set_option maxRecDepth 100000 in
/-- GlacierMail.wrote -/
noncomputable def pl_s752 : ck_Sum := (((8 : Nat), (3 : Nat), (18 : Nat)), (249 : Nat), [.inr (.inr (.inl (1 : Nat))), .inl ((0 : Int), (7 : Int), []), .inl ((0 : Int), (5 : Int), []), .inl ((0 : Int), (299 : Int), []), .inl ((100 : Int), (2147483647 : Int), [])], ([], [], []), ([], []), [(.inl (3 : Nat), (249 : Nat), ([], [], [])), (.inl (0 : Nat), (249 : Nat), ([], [], []))])
set_option maxRecDepth 100000 in
theorem pl_s752_s {X : Int → Int} {LX : Nat} : ck_Ok p2_OL X LX 190 pl_s752 := ck_okq (cuts := []) (f := 90) ⟨pl_nmu, ck_E1 (ck_S1 pl_s197_s ck_S0) (ck_E1 (ck_S1 pl_s159_s ck_S0) (ck_E1 (ck_S1 pl_s740_s ck_S0) ck_E0))⟩ (by decide +kernel)
set_option maxRecDepth 100000 in
/-- GlacierMail$Rows.size -/
noncomputable def pl_s754 : ck_Sum := (((0 : Nat), (0 : Nat), (0 : Nat)), (249 : Nat), [.inr (.inr (.inl (12 : Nat)))], ([], [], []), ([], []), [(.inr (some (.inl ((0 : Int), (6 : Int), []))), (249 : Nat), ([], [], []))])
set_option maxRecDepth 100000 in
theorem pl_s754_s {X : Int → Int} {LX : Nat} : ck_Ok p2_OL X LX 9 pl_s754 := ck_okq (cuts := []) (f := 76) ⟨pl_nmu, ck_E0⟩ (by decide +kernel)
set_option maxRecDepth 100000 in
/-- GlacierMail.need -/
noncomputable def pl_s755 : ck_Sum := (((6 : Nat), (1 : Nat), (6 : Nat)), (249 : Nat), [.inr (.inr (.inl (1 : Nat))), .inl ((-2147483648 : Int), (-1 : Int), []), .inl ((0 : Int), (6 : Int), [])], ([], [], []), ([], []), [(.inl (3 : Nat), (249 : Nat), ([], [], []))])
set_option maxRecDepth 100000 in
theorem pl_s755_s {X : Int → Int} {LX : Nat} : ck_Ok p2_OL X LX 133 pl_s755 := ck_okq (cuts := []) (f := 76) ⟨pl_nmu, ck_E0⟩ (by decide +kernel)
set_option maxRecDepth 100000 in
/-- GlacierMail.needTable -/
noncomputable def pl_s756 : ck_Sum := (((7 : Nat), (1 : Nat), (6 : Nat)), (249 : Nat), [.inr (.inr (.inl (1 : Nat))), .inl ((-2147483648 : Int), (-1 : Int), [])], ([], [], []), ([], []), [(.inl (3 : Nat), (249 : Nat), ([], [], []))])
set_option maxRecDepth 100000 in
theorem pl_s756_s {X : Int → Int} {LX : Nat} : ck_Ok p2_OL X LX 193 pl_s756 := ck_okq (cuts := []) (f := 84) ⟨pl_nmu, ck_E1 (ck_S1 pl_s754_s ck_S0) (ck_E1 (ck_S1 pl_s755_s ck_S0) ck_E0)⟩ (by decide +kernel)
set_option maxRecDepth 100000 in
/-- GlacierMail.table -/
noncomputable def pl_s757 : ck_Sum := (((8 : Nat), (1 : Nat), (6 : Nat)), (249 : Nat), [.inr (.inr (.inl (1 : Nat))), .inl ((-2147483648 : Int), (-1 : Int), []), .inl ((-2147483648 : Int), (2147483647 : Int), [])], ([], [], []), ([], []), [(.inl (3 : Nat), (249 : Nat), ([], [], []))])
set_option maxRecDepth 100000 in
theorem pl_s757_s {X : Int → Int} {LX : Nat} : ck_Ok p2_OL X LX 192 pl_s757 := ck_okq (cuts := []) (f := 76) ⟨pl_nmu, ck_E1 (ck_S1 pl_s756_s ck_S0) ck_E0⟩ (by decide +kernel)
set_option maxRecDepth 100000 in
/-- GlacierMail.need -/
noncomputable def pl_s758 : ck_Sum := (((6 : Nat), (1 : Nat), (6 : Nat)), (249 : Nat), [.inr (.inr (.inl (1 : Nat))), .inl ((6 : Int), (2147483647 : Int), []), .inl ((0 : Int), (6 : Int), [])], ([], [], []), ([], []), [(.inl (3 : Nat), (249 : Nat), ([], [], []))])
set_option maxRecDepth 100000 in
theorem pl_s758_s {X : Int → Int} {LX : Nat} : ck_Ok p2_OL X LX 133 pl_s758 := ck_okq (cuts := []) (f := 82) ⟨pl_nmu, ck_E0⟩ (by decide +kernel)
set_option maxRecDepth 100000 in
/-- GlacierMail.needTable -/
noncomputable def pl_s759 : ck_Sum := (((7 : Nat), (1 : Nat), (6 : Nat)), (249 : Nat), [.inr (.inr (.inl (1 : Nat))), .inl ((6 : Int), (2147483647 : Int), [])], ([], [], []), ([], []), [(.inl (3 : Nat), (249 : Nat), ([], [], []))])
set_option maxRecDepth 100000 in
theorem pl_s759_s {X : Int → Int} {LX : Nat} : ck_Ok p2_OL X LX 193 pl_s759 := ck_okq (cuts := []) (f := 84) ⟨pl_nmu, ck_E1 (ck_S1 pl_s754_s ck_S0) (ck_E1 (ck_S1 pl_s758_s ck_S0) ck_E0)⟩ (by decide +kernel)
set_option maxRecDepth 100000 in
/-- GlacierMail.table -/
noncomputable def pl_s760 : ck_Sum := (((8 : Nat), (1 : Nat), (6 : Nat)), (249 : Nat), [.inr (.inr (.inl (1 : Nat))), .inl ((6 : Int), (2147483647 : Int), []), .inl ((-2147483648 : Int), (2147483647 : Int), [])], ([], [], []), ([], []), [(.inl (3 : Nat), (249 : Nat), ([], [], []))])
set_option maxRecDepth 100000 in
theorem pl_s760_s {X : Int → Int} {LX : Nat} : ck_Ok p2_OL X LX 192 pl_s760 := ck_okq (cuts := []) (f := 76) ⟨pl_nmu, ck_E1 (ck_S1 pl_s759_s ck_S0) ck_E0⟩ (by decide +kernel)
set_option maxRecDepth 100000 in
/-- GlacierMail.need -/
noncomputable def pl_s761 : ck_Sum := (((6 : Nat), (1 : Nat), (6 : Nat)), (249 : Nat), [.inr (.inr (.inl (1 : Nat))), .inl ((0 : Int), (5 : Int), []), .inl ((0 : Int), (6 : Int), [])], ([], [], []), ([], []), [(.inr none, (249 : Nat), ([], [], [])), (.inl (3 : Nat), (249 : Nat), ([], [], []))])
set_option maxRecDepth 100000 in
theorem pl_s761_s {X : Int → Int} {LX : Nat} : ck_Ok p2_OL X LX 133 pl_s761 := ck_okq (cuts := []) (f := 82) ⟨pl_nmu, ck_E0⟩ (by decide +kernel)
set_option maxRecDepth 100000 in
/-- GlacierMail.needTable -/
noncomputable def pl_s762 : ck_Sum := (((7 : Nat), (1 : Nat), (6 : Nat)), (249 : Nat), [.inr (.inr (.inl (1 : Nat))), .inl ((0 : Int), (5 : Int), [])], ([], [], []), ([], []), [(.inl (3 : Nat), (249 : Nat), ([], [], [])), (.inr none, (249 : Nat), ([], [], []))])
set_option maxRecDepth 100000 in
theorem pl_s762_s {X : Int → Int} {LX : Nat} : ck_Ok p2_OL X LX 193 pl_s762 := ck_okq (cuts := []) (f := 86) ⟨pl_nmu, ck_E1 (ck_S1 pl_s754_s ck_S0) (ck_E1 (ck_S1 pl_s761_s ck_S0) ck_E0)⟩ (by decide +kernel)
set_option maxRecDepth 100000 in
/-- GlacierMail.table -/
noncomputable def pl_s763 : ck_Sum := (((8 : Nat), (2 : Nat), (12 : Nat)), (249 : Nat), [.inr (.inr (.inl (1 : Nat))), .inl ((0 : Int), (5 : Int), []), .inl ((-2147483648 : Int), (-1 : Int), [])], ([], [], []), ([], []), [(.inl (3 : Nat), (249 : Nat), ([], [], []))])
set_option maxRecDepth 100000 in
theorem pl_s763_s {X : Int → Int} {LX : Nat} : ck_Ok p2_OL X LX 192 pl_s763 := ck_okq (cuts := []) (f := 82) ⟨pl_nmu, ck_E1 (ck_S1 pl_s762_s ck_S0) (ck_E1 (ck_S1 pl_s153_s ck_S0) ck_E0)⟩ (by decide +kernel)
set_option maxRecDepth 100000 in
/-- GlacierMail.table -/
noncomputable def pl_s764 : ck_Sum := (((8 : Nat), (2 : Nat), (12 : Nat)), (249 : Nat), [.inr (.inr (.inl (1 : Nat))), .inl ((0 : Int), (5 : Int), []), .inl ((6 : Int), (2147483647 : Int), [])], ([], [], []), ([], []), [(.inl (3 : Nat), (249 : Nat), ([], [], []))])
set_option maxRecDepth 100000 in
theorem pl_s764_s {X : Int → Int} {LX : Nat} : ck_Ok p2_OL X LX 192 pl_s764 := ck_okq (cuts := []) (f := 82) ⟨pl_nmu, ck_E1 (ck_S1 pl_s762_s ck_S0) (ck_E1 (ck_S1 pl_s156_s ck_S0) ck_E0)⟩ (by decide +kernel)
set_option maxRecDepth 100000 in
/-- GlacierMail$Rows.get -/
noncomputable def pl_s765 : ck_Sum := (((0 : Nat), (0 : Nat), (0 : Nat)), (249 : Nat), [.inr (.inr (.inl (12 : Nat))), .inl ((-2147483648 : Int), (2147483647 : Int), []), .inl ((-2147483648 : Int), (2147483647 : Int), [])], ([], [], []), ([], []), [(.inr (some (.inl (ck_one (-1)))), (249 : Nat), ([], [], [])), (.inr (some (.inl ((0 : Int), (20 : Int), []))), (249 : Nat), ([], [], [((12 : Nat), (3 : Int), (3 : Int), ((1 : Int), (6 : Int), []))]))])
set_option maxRecDepth 100000 in
theorem pl_s765_s {X : Int → Int} {LX : Nat} : ck_Ok p2_OL X LX 10 pl_s765 := ck_okq (cuts := []) (f := 114) ⟨pl_nmu, ck_E0⟩ (by decide +kernel)
set_option maxRecDepth 100000 in
/-- GlacierMail.table -/
noncomputable def pl_s766 : ck_Sum := (((8 : Nat), (2 : Nat), (12 : Nat)), (249 : Nat), [.inr (.inr (.inl (1 : Nat))), .inl ((0 : Int), (5 : Int), []), .inl ((0 : Int), (5 : Int), [])], ([], [], []), ([], []), [(.inl (3 : Nat), (249 : Nat), ([], [], [])), (.inr (some (.inl (ck_one (-1)))), (249 : Nat), ([], [], [])), (.inr (some (.inl ((0 : Int), (20 : Int), []))), (249 : Nat), ([], [], [((12 : Nat), (3 : Int), (3 : Int), ((1 : Int), (6 : Int), []))]))])
set_option maxRecDepth 100000 in
theorem pl_s766_s {X : Int → Int} {LX : Nat} : ck_Ok p2_OL X LX 192 pl_s766 := ck_okq (cuts := []) (f := 96) ⟨pl_nmu, ck_E1 (ck_S1 pl_s762_s ck_S0) (ck_E1 (ck_S1 pl_s159_s ck_S0) (ck_E1 (ck_S1 pl_s765_s ck_S0) ck_E0))⟩ (by decide +kernel)
set_option maxRecDepth 100000 in
/-- GlacierMail.apart -/
noncomputable def pl_s767 : ck_Sum := (((8 : Nat), (1 : Nat), (6 : Nat)), (249 : Nat), [.inr (.inr (.inl (1 : Nat))), .inl ((-2147483648 : Int), (-1 : Int), []), .inl ((-2147483648 : Int), (2147483647 : Int), []), .inl ((-2147483648 : Int), (2147483647 : Int), [])], ([], [], []), ([], []), [(.inl (3 : Nat), (249 : Nat), ([], [], []))])
set_option maxRecDepth 100000 in
theorem pl_s767_s {X : Int → Int} {LX : Nat} : ck_Ok p2_OL X LX 195 pl_s767 := ck_okq (cuts := []) (f := 76) ⟨pl_nmu, ck_E1 (ck_S1 pl_s756_s ck_S0) ck_E0⟩ (by decide +kernel)
end
/-! 78r86a11.sl -/
section
/-! EVERY CALL OF THE CLASS ENDS, under a law (laid by wip/am/p2l.py). -/
set_option maxRecDepth 100000 in
/-- GlacierMail.apart -/
noncomputable def pl_s768 : ck_Sum := (((8 : Nat), (1 : Nat), (6 : Nat)), (249 : Nat), [.inr (.inr (.inl (1 : Nat))), .inl ((6 : Int), (2147483647 : Int), []), .inl ((-2147483648 : Int), (2147483647 : Int), []), .inl ((-2147483648 : Int), (2147483647 : Int), [])], ([], [], []), ([], []), [(.inl (3 : Nat), (249 : Nat), ([], [], []))])
set_option maxRecDepth 100000 in
theorem pl_s768_s {X : Int → Int} {LX : Nat} : ck_Ok p2_OL X LX 195 pl_s768 := ck_okq (cuts := []) (f := 76) ⟨pl_nmu, ck_E1 (ck_S1 pl_s759_s ck_S0) ck_E0⟩ (by decide +kernel)
set_option maxRecDepth 100000 in
/-- GlacierMail.apart -/
noncomputable def pl_s769 : ck_Sum := (((8 : Nat), (2 : Nat), (12 : Nat)), (249 : Nat), [.inr (.inr (.inl (1 : Nat))), .inl ((0 : Int), (5 : Int), []), .inl ((-2147483648 : Int), (-1 : Int), []), .inl ((-2147483648 : Int), (2147483647 : Int), [])], ([], [], []), ([], []), [(.inl (3 : Nat), (249 : Nat), ([], [], []))])
set_option maxRecDepth 100000 in
theorem pl_s769_s {X : Int → Int} {LX : Nat} : ck_Ok p2_OL X LX 195 pl_s769 := ck_okq (cuts := []) (f := 82) ⟨pl_nmu, ck_E1 (ck_S1 pl_s762_s (ck_S1 pl_s756_s ck_S0)) ck_E0⟩ (by decide +kernel)
set_option maxRecDepth 100000 in
/-- GlacierMail.apart -/
noncomputable def pl_s770 : ck_Sum := (((8 : Nat), (2 : Nat), (12 : Nat)), (249 : Nat), [.inr (.inr (.inl (1 : Nat))), .inl ((0 : Int), (5 : Int), []), .inl ((6 : Int), (2147483647 : Int), []), .inl ((-2147483648 : Int), (2147483647 : Int), [])], ([], [], []), ([], []), [(.inl (3 : Nat), (249 : Nat), ([], [], []))])
set_option maxRecDepth 100000 in
theorem pl_s770_s {X : Int → Int} {LX : Nat} : ck_Ok p2_OL X LX 195 pl_s770 := ck_okq (cuts := []) (f := 82) ⟨pl_nmu, ck_E1 (ck_S1 pl_s762_s (ck_S1 pl_s759_s ck_S0)) ck_E0⟩ (by decide +kernel)
set_option maxRecDepth 100000 in
/-- GlacierMail.toldApart -/
noncomputable def pl_s771 : ck_Sum := (((1 : Nat), (0 : Nat), (0 : Nat)), (249 : Nat), [.inr (.inr (.inl (1 : Nat))), .inl ((0 : Int), (5 : Int), []), .inl ((0 : Int), (5 : Int), []), .inl ((-2147483648 : Int), (2147483647 : Int), [])], ([], [], []), ([], []), [(.inr (some (.inl (ck_one 0))), (249 : Nat), ([], [], [])), (.inr (some (.inl (ck_one 1))), (249 : Nat), ([], [], [((12 : Nat), (3 : Int), (3 : Int), ((1 : Int), (6 : Int), []))]))])
set_option maxRecDepth 100000 in
theorem pl_s771_s {X : Int → Int} {LX : Nat} : ck_Ok p2_OL X LX 51 pl_s771 := ck_okq (cuts := [((3 : Nat), [some (.inr (.inr (.inl (1 : Nat)))), some (.inl ((0 : Int), (5 : Int), [])), some (.inl ((0 : Int), (5 : Int), [])), some (.inl ((-2147483648 : Int), (2147483647 : Int), [])), some (.inl ((0 : Int), (6 : Int), []))], ([], [], []), (100 : Nat), .inl (4 : Nat), true)]) (f := 202) ⟨pl_nmu, ck_E1 (ck_S1 pl_s765_s ck_S0) ck_E0⟩ (by decide +kernel)
set_option maxRecDepth 100000 in
/-- GlacierMail.apart -/
noncomputable def pl_s772 : ck_Sum := (((8 : Nat), (2 : Nat), (12 : Nat)), (249 : Nat), [.inr (.inr (.inl (1 : Nat))), .inl ((0 : Int), (5 : Int), []), .inl ((0 : Int), (5 : Int), []), .inl ((-2147483648 : Int), (2147483647 : Int), [])], ([], [], []), ([], []), [(.inl (3 : Nat), (249 : Nat), ([], [], [])), (.inr (some (.inl (ck_one 0))), (249 : Nat), ([], [], [])), (.inr (some (.inl (ck_one 1))), (249 : Nat), ([], [], [((12 : Nat), (3 : Int), (3 : Int), ((1 : Int), (6 : Int), []))]))])
set_option maxRecDepth 100000 in
theorem pl_s772_s {X : Int → Int} {LX : Nat} : ck_Ok p2_OL X LX 195 pl_s772 := ck_okq (cuts := []) (f := 94) ⟨pl_nmu, ck_E1 (ck_S1 pl_s762_s ck_S0) (ck_E1 (ck_S1 pl_s771_s ck_S0) ck_E0)⟩ (by decide +kernel)
set_option maxRecDepth 100000 in
/-- GlacierMail.allToldApart -/
noncomputable def pl_s773 : ck_Sum := (((2 : Nat), (0 : Nat), (0 : Nat)), (249 : Nat), [.inr (.inr (.inl (1 : Nat))), .inl ((-2147483648 : Int), (2147483647 : Int), [])], ([], [], []), ([], []), [(.inr (some (.inl (ck_one 1))), (249 : Nat), ([], [], [])), (.inr (some (.inl (ck_one 0))), (249 : Nat), ([], [], []))])
set_option maxRecDepth 100000 in
theorem pl_s773_s {X : Int → Int} {LX : Nat} : ck_Ok p2_OL X LX 50 pl_s773 := ck_okq (cuts := [((2 : Nat), [some (.inr (.inr (.inl (1 : Nat)))), some (.inl ((-2147483648 : Int), (2147483647 : Int), [])), some (.inl ((0 : Int), (6 : Int), [])), none], ([], [], []), (100 : Nat), .inl (2 : Nat), true), ((20 : Nat), [some (.inr (.inr (.inl (1 : Nat)))), some (.inl ((-2147483648 : Int), (2147483647 : Int), [])), some (.inl ((0 : Int), (5 : Int), [((100 : Nat), (0 : Int))])), some (.inl ((1 : Int), (6 : Int), []))], ([], [], []), (300 : Nat), .inl (3 : Nat), true)]) (f := 200) ⟨pl_nmu, ck_E1 (ck_S1 pl_s754_s ck_S0) (ck_E1 (ck_S1 pl_s771_s ck_S0) ck_E0)⟩ (by decide +kernel)
set_option maxRecDepth 100000 in
/-- java/lang/Integer.bitCount -/
noncomputable def pl_s774 : ck_Sum := (((0 : Nat), (0 : Nat), (0 : Nat)), (249 : Nat), [.inl ((-2147483648 : Int), (2147483647 : Int), [])], ([], [], []), ([], []), [(.inr (some (.inl ((0 : Int), (63 : Int), []))), (249 : Nat), ([], [], []))])
set_option maxRecDepth 100000 in
theorem pl_s774_s {X : Int → Int} {LX : Nat} : ck_Ok p2_OL X LX 49 pl_s774 := ck_okq (cuts := []) (f := 154) ⟨pl_nmu, ck_E0⟩ (by decide +kernel)
set_option maxRecDepth 100000 in
/-- GlacierMail.poles -/
noncomputable def pl_s775 : ck_Sum := (((3 : Nat), (0 : Nat), (0 : Nat)), (249 : Nat), [.inr (.inr (.inl (1 : Nat)))], ([], [], []), ([], []), [(.inr (some (.inl ((-1 : Int), (2147483646 : Int), []))), (249 : Nat), ([], [], []))])
set_option maxRecDepth 100000 in
theorem pl_s775_s {X : Int → Int} {LX : Nat} : ck_Ok p2_OL X LX 48 pl_s775 := ck_okq (cuts := [((4 : Nat), [some (.inr (.inr (.inl (1 : Nat)))), some (.inl ((-1 : Int), (2147483646 : Int), [])), some (.inl ((0 : Int), (2147483647 : Int), [])), none], ([], [], []), (100 : Nat), .inl (2 : Nat), true)]) (f := 206) ⟨pl_nmu, ck_E1 (ck_S1 pl_s773_s ck_S0) (ck_E1 (ck_S1 pl_s774_s ck_S0) ck_E0)⟩ (by decide +kernel)
set_option maxRecDepth 100000 in
/-- GlacierMail.areReadings -/
noncomputable def pl_s776 : ck_Sum := (((0 : Nat), (0 : Nat), (0 : Nat)), (249 : Nat), [.inr (.inr (.inl (1 : Nat))), .inl ((0 : Int), (400 : Int), [])], ([], [], []), ([], []), [(.inr (some (.inl (ck_one 0))), (249 : Nat), ([], [], [])), (.inr (some (.inl (ck_one 1))), (249 : Nat), ([], [], []))])
set_option maxRecDepth 100000 in
theorem pl_s776_s {X : Int → Int} {LX : Nat} : ck_Ok p2_OL X LX 198 pl_s776 := ck_okq (cuts := [((10 : Nat), [some (.inr (.inr (.inl (1 : Nat)))), some (.inl ((0 : Int), (400 : Int), [])), some (.inl ((0 : Int), (400 : Int), [])), none, none], ([], [], []), (100 : Nat), .inl (2 : Nat), true)]) (f := 302) ⟨pl_nmu, ck_E0⟩ (by decide +kernel)
set_option maxRecDepth 100000 in
/-- GlacierMail.fitsReadings -/
noncomputable def pl_s777 : ck_Sum := (((1 : Nat), (0 : Nat), (0 : Nat)), (249 : Nat), [.inr (.inr (.inl (1 : Nat))), .inl ((0 : Int), (5 : Int), []), .inl ((0 : Int), (400 : Int), [])], ([], [], []), ([], []), [(.inr (some (.inl (ck_one 1))), (249 : Nat), ([], [], [])), (.inr (some (.inl (ck_one 0))), (249 : Nat), ([], [], []))])
set_option maxRecDepth 100000 in
theorem pl_s777_s {X : Int → Int} {LX : Nat} : ck_Ok p2_OL X LX 199 pl_s777 := ck_okq (cuts := [((2 : Nat), [some (.inr (.inr (.inl (1 : Nat)))), some (.inl ((0 : Int), (5 : Int), [])), some (.inl ((0 : Int), (400 : Int), [])), some (.inl ((0 : Int), (400 : Int), []))], ([], [], []), (100 : Nat), .inl (3 : Nat), true)]) (f := 214) ⟨pl_nmu, ck_E1 (ck_S1 pl_s765_s ck_S0) ck_E0⟩ (by decide +kernel)
set_option maxRecDepth 100000 in
/-- GlacierMail.fit -/
noncomputable def pl_s778 : ck_Sum := (((6 : Nat), (1 : Nat), (6 : Nat)), (249 : Nat), [.inr (.inr (.inl (1 : Nat)))], ([], [], [((1 : Nat), (1 : Int), (1 : Int), ((0 : Int), (400 : Int), [((6 : Nat), (0 : Int))]))]), ([((1 : Nat), (1 : Int), (1 : Int))], []), [(.inl (0 : Nat), (249 : Nat), ([], [], [((1 : Nat), (1 : Int), (1 : Int), ck_one 0)])), (.inr (some (.inl ((-2147483648 : Int), (2147483647 : Int), []))), (249 : Nat), ([], [], [((1 : Nat), (1 : Int), (1 : Int), ck_one 0)]))])
set_option maxRecDepth 100000 in
theorem pl_s778_s {X : Int → Int} {LX : Nat} : ck_Ok p2_OL X LX 197 pl_s778 := ck_okq (cuts := [((33 : Nat), [some (.inr (.inr (.inl (1 : Nat)))), some (.inl ((0 : Int), (400 : Int), [((6 : Nat), (0 : Int))])), some (.inl ((-2147483648 : Int), (2147483647 : Int), [])), some (.inl ((0 : Int), (6 : Int), []))], ([], [], [((1 : Nat), (1 : Int), (1 : Int), ck_one 0)]), (100 : Nat), .inl (3 : Nat), true)]) (f := 170) ⟨pl_nmu, ck_E1 (ck_S1 pl_s776_s ck_S0) (ck_E1 (ck_S1 pl_s754_s ck_S0) (ck_E1 (ck_S1 pl_s777_s ck_S0) ck_E0))⟩ (by decide +kernel)
set_option maxRecDepth 100000 in
/-- GlacierMail.soonest -/
noncomputable def pl_s779 : ck_Sum := (((8 : Nat), (1 : Nat), (6 : Nat)), (249 : Nat), [.inr (.inr (.inl (1 : Nat))), .inl ((-2147483648 : Int), (-1 : Int), []), .inl ((-2147483648 : Int), (2147483647 : Int), []), .inl ((0 : Int), (1 : Int), [])], ([], [], []), ([], []), [(.inl (3 : Nat), (249 : Nat), ([], [], []))])
set_option maxRecDepth 100000 in
theorem pl_s779_s {X : Int → Int} {LX : Nat} : ck_Ok p2_OL X LX 201 pl_s779 := ck_okq (cuts := []) (f := 76) ⟨pl_nmu, ck_E1 (ck_S1 pl_s191_s ck_S0) ck_E0⟩ (by decide +kernel)
set_option maxRecDepth 100000 in
/-- GlacierMail.soonest -/
noncomputable def pl_s780 : ck_Sum := (((8 : Nat), (1 : Nat), (6 : Nat)), (249 : Nat), [.inr (.inr (.inl (1 : Nat))), .inl ((8 : Int), (2147483647 : Int), []), .inl ((-2147483648 : Int), (2147483647 : Int), []), .inl ((0 : Int), (1 : Int), [])], ([], [], []), ([], []), [(.inl (3 : Nat), (249 : Nat), ([], [], []))])
set_option maxRecDepth 100000 in
theorem pl_s780_s {X : Int → Int} {LX : Nat} : ck_Ok p2_OL X LX 201 pl_s780 := ck_okq (cuts := []) (f := 76) ⟨pl_nmu, ck_E1 (ck_S1 pl_s194_s ck_S0) ck_E0⟩ (by decide +kernel)
set_option maxRecDepth 100000 in
/-- GlacierMail.soonest -/
noncomputable def pl_s781 : ck_Sum := (((8 : Nat), (2 : Nat), (12 : Nat)), (249 : Nat), [.inr (.inr (.inl (1 : Nat))), .inl ((0 : Int), (7 : Int), []), .inl ((-2147483648 : Int), (-1 : Int), []), .inl ((0 : Int), (1 : Int), [])], ([], [], []), ([], []), [(.inl (3 : Nat), (249 : Nat), ([], [], []))])
set_option maxRecDepth 100000 in
theorem pl_s781_s {X : Int → Int} {LX : Nat} : ck_Ok p2_OL X LX 201 pl_s781 := ck_okq (cuts := []) (f := 82) ⟨pl_nmu, ck_E1 (ck_S1 pl_s197_s (ck_S1 pl_s191_s ck_S0)) ck_E0⟩ (by decide +kernel)
set_option maxRecDepth 100000 in
/-- GlacierMail.soonest -/
noncomputable def pl_s782 : ck_Sum := (((8 : Nat), (2 : Nat), (12 : Nat)), (249 : Nat), [.inr (.inr (.inl (1 : Nat))), .inl ((0 : Int), (7 : Int), []), .inl ((8 : Int), (2147483647 : Int), []), .inl ((0 : Int), (1 : Int), [])], ([], [], []), ([], []), [(.inl (3 : Nat), (249 : Nat), ([], [], []))])
set_option maxRecDepth 100000 in
theorem pl_s782_s {X : Int → Int} {LX : Nat} : ck_Ok p2_OL X LX 201 pl_s782 := ck_okq (cuts := []) (f := 82) ⟨pl_nmu, ck_E1 (ck_S1 pl_s197_s (ck_S1 pl_s194_s ck_S0)) ck_E0⟩ (by decide +kernel)
set_option maxRecDepth 100000 in
/-- java/util/Arrays.fill -/
noncomputable def pl_s783 : ck_Sum := (((0 : Nat), (0 : Nat), (0 : Nat)), (249 : Nat), [.inr (.inr (.inl (210 : Nat))), .inl (ck_one 0)], ([], [], []), ([((210 : Nat), (0 : Int), (2399 : Int))], []), [(.inr none, (249 : Nat), ([], [], []))])
set_option maxRecDepth 100000 in
theorem pl_s783_s {X : Int → Int} {LX : Nat} : ck_Ok p2_OL X LX 8 pl_s783 := ck_okq (cuts := [((5 : Nat), [some (.inr (.inr (.inl (210 : Nat)))), some (.inl (ck_one 0)), some (.inl ((0 : Int), (2400 : Int), [])), some (.inl (ck_one 2400))], ([], [], []), (100 : Nat), .inl (2 : Nat), true)]) (f := 130) ⟨pl_nmu, ck_E0⟩ (by decide +kernel)
set_option maxRecDepth 100000 in
/-- GlacierMail$Rows.reset -/
noncomputable def pl_s784 : ck_Sum := (((1 : Nat), (0 : Nat), (0 : Nat)), (249 : Nat), [.inr (.inr (.inl (209 : Nat))), .inl ((0 : Int), (8 : Int), [])], ([], [], []), ([((209 : Nat), (3 : Int), (3 : Int)), ((210 : Nat), (0 : Int), (2399 : Int))], []), [(.inr none, (249 : Nat), ([], [], []))])
set_option maxRecDepth 100000 in
theorem pl_s784_s {X : Int → Int} {LX : Nat} : ck_Ok p2_OL X LX 25 pl_s784 := ck_okq (cuts := []) (f := 96) ⟨pl_nmu, ck_E1 (ck_S1 pl_s783_s ck_S0) ck_E0⟩ (by decide +kernel)
set_option maxRecDepth 100000 in
/-- java/util/Arrays.fill -/
noncomputable def pl_s785 : ck_Sum := (((0 : Nat), (0 : Nat), (0 : Nat)), (249 : Nat), [.inr (.inr (.inl (212 : Nat))), .inl (ck_one 0)], ([], [], []), ([((212 : Nat), (0 : Int), (2399 : Int))], []), [(.inr none, (249 : Nat), ([], [], []))])
set_option maxRecDepth 100000 in
theorem pl_s785_s {X : Int → Int} {LX : Nat} : ck_Ok p2_OL X LX 8 pl_s785 := ck_okq (cuts := [((5 : Nat), [some (.inr (.inr (.inl (212 : Nat)))), some (.inl (ck_one 0)), some (.inl ((0 : Int), (2400 : Int), [])), some (.inl (ck_one 2400))], ([], [], []), (100 : Nat), .inl (2 : Nat), true)]) (f := 130) ⟨pl_nmu, ck_E0⟩ (by decide +kernel)
set_option maxRecDepth 100000 in
/-- GlacierMail$Rows.reset -/
noncomputable def pl_s786 : ck_Sum := (((1 : Nat), (0 : Nat), (0 : Nat)), (249 : Nat), [.inr (.inr (.inl (211 : Nat))), .inl ((0 : Int), (8 : Int), [])], ([], [], []), ([((211 : Nat), (3 : Int), (3 : Int)), ((212 : Nat), (0 : Int), (2399 : Int))], []), [(.inr none, (249 : Nat), ([], [], []))])
set_option maxRecDepth 100000 in
theorem pl_s786_s {X : Int → Int} {LX : Nat} : ck_Ok p2_OL X LX 25 pl_s786 := ck_okq (cuts := []) (f := 96) ⟨pl_nmu, ck_E1 (ck_S1 pl_s785_s ck_S0) ck_E0⟩ (by decide +kernel)
set_option maxRecDepth 100000 in
/-- GlacierMail$Rows.get -/
noncomputable def pl_s787 : ck_Sum := (((0 : Nat), (0 : Nat), (0 : Nat)), (249 : Nat), [.inr (.inr (.inl (209 : Nat))), .inl ((-2147483648 : Int), (2147483647 : Int), []), .inl ((-2147483648 : Int), (2147483647 : Int), [])], ([], [], []), ([], []), [(.inr (some (.inl ((-2147483648 : Int), (2147483647 : Int), []))), (249 : Nat), ([], [], []))])
set_option maxRecDepth 100000 in
theorem pl_s787_s {X : Int → Int} {LX : Nat} : ck_Ok p2_OL X LX 10 pl_s787 := ck_okq (cuts := []) (f := 114) ⟨pl_nmu, ck_E0⟩ (by decide +kernel)
set_option maxRecDepth 100000 in
/-- GlacierMail$Rows.put -/
noncomputable def pl_s788 : ck_Sum := (((0 : Nat), (0 : Nat), (0 : Nat)), (249 : Nat), [.inr (.inr (.inl (211 : Nat))), .inl ((0 : Int), (7 : Int), []), .inl ((0 : Int), (299 : Int), []), .inl ((-2147483648 : Int), (299 : Int), [])], ([], [], []), ([((212 : Nat), (0 : Int), (2399 : Int))], []), [(.inr none, (249 : Nat), ([], [], []))])
set_option maxRecDepth 100000 in
theorem pl_s788_s {X : Int → Int} {LX : Nat} : ck_Ok p2_OL X LX 45 pl_s788 := ck_okq (cuts := []) (f := 116) ⟨pl_nmu, ck_E0⟩ (by decide +kernel)
set_option maxRecDepth 100000 in
/-- GlacierMail$Rows.put -/
noncomputable def pl_s789 : ck_Sum := (((0 : Nat), (0 : Nat), (0 : Nat)), (249 : Nat), [.inr (.inr (.inl (209 : Nat))), .inl ((0 : Int), (7 : Int), []), .inl ((-2147483648 : Int), (299 : Int), []), .inl (ck_one 1)], ([], [], []), ([((210 : Nat), (0 : Int), (2399 : Int))], []), [(.inr none, (249 : Nat), ([], [], []))])
set_option maxRecDepth 100000 in
theorem pl_s789_s {X : Int → Int} {LX : Nat} : ck_Ok p2_OL X LX 45 pl_s789 := ck_okq (cuts := []) (f := 116) ⟨pl_nmu, ck_E0⟩ (by decide +kernel)
set_option maxRecDepth 100000 in
/-- GlacierMail$Rows.put -/
noncomputable def pl_s791 : ck_Sum := (((0 : Nat), (0 : Nat), (0 : Nat)), (249 : Nat), [.inr (.inr (.inl (211 : Nat))), .inl ((0 : Int), (7 : Int), []), .inl ((2 : Int), (299 : Int), []), .inl ((-2147483648 : Int), (299 : Int), [])], ([], [], []), (zl198, []), [(.inr none, (249 : Nat), ([], [], []))])
set_option maxRecDepth 100000 in
theorem pl_s791_s {X : Int → Int} {LX : Nat} : ck_Ok p2_OL X LX 45 pl_s791 := ck_okq (cuts := []) (f := 116) ⟨pl_nmu, ck_E0⟩ (by decide +kernel)
set_option maxRecDepth 100000 in
/-- GlacierMail$Rows.put -/
noncomputable def pl_s792 : ck_Sum := (((0 : Nat), (0 : Nat), (0 : Nat)), (249 : Nat), [.inr (.inr (.inl (209 : Nat))), .inl ((0 : Int), (7 : Int), []), .inl ((-2147483648 : Int), (299 : Int), []), .inl ((-2147483648 : Int), (2147483647 : Int), [])], ([], [], []), ([((210 : Nat), (0 : Int), (2399 : Int))], []), [(.inr none, (249 : Nat), ([], [], []))])
set_option maxRecDepth 100000 in
theorem pl_s792_s {X : Int → Int} {LX : Nat} : ck_Ok p2_OL X LX 45 pl_s792 := ck_okq (cuts := []) (f := 116) ⟨pl_nmu, ck_E0⟩ (by decide +kernel)
set_option maxRecDepth 100000 in
/-- GlacierMail$Answers.firstYear -/
noncomputable def pl_s795 : ck_Sum := (((1 : Nat), (0 : Nat), (0 : Nat)), (249 : Nat), [.inr (.inr (.inl (208 : Nat))), .inl ((0 : Int), (7 : Int), [])], ([], [], []), ([], []), [(.inr (some (.inl (ck_one (-1)))), (249 : Nat), ([], [], [])), (.inr (some (.inl ((0 : Int), (299 : Int), []))), (249 : Nat), ([], [], []))])
set_option maxRecDepth 100000 in
theorem pl_s795_s {X : Int → Int} {LX : Nat} : ck_Ok p2_OL X LX 204 pl_s795 := ck_okq (cuts := [((2 : Nat), [some (.inr (.inr (.inl (208 : Nat)))), some (.inl ((0 : Int), (7 : Int), [])), some (.inl ((0 : Int), (300 : Int), []))], ([], [], []), (100 : Nat), .inl (2 : Nat), true)]) (f := 138) ⟨pl_nmu, ck_E1 (ck_S1 pl_s787_s ck_S0) ck_E0⟩ (by decide +kernel)
set_option maxRecDepth 100000 in
/-- GlacierMail$Answers.fewestThrows -/
noncomputable def pl_s796 : ck_Sum := (((1 : Nat), (0 : Nat), (0 : Nat)), (249 : Nat), [.inr (.inr (.inl (208 : Nat))), .inl ((0 : Int), (7 : Int), []), .inl ((0 : Int), (299 : Int), [])], ([], [], []), ([], []), [(.inr (some (.inl ((-2147483648 : Int), (2147483647 : Int), []))), (249 : Nat), ([], [], []))])
set_option maxRecDepth 100000 in
theorem pl_s796_s {X : Int → Int} {LX : Nat} : ck_Ok p2_OL X LX 205 pl_s796 := ck_okq (cuts := []) (f := 82) ⟨pl_nmu, ck_E1 (ck_S1 pl_s787_s ck_S0) ck_E0⟩ (by decide +kernel)
set_option maxRecDepth 100000 in
/-- GlacierMail.chain -/
noncomputable def pl_s798 : ck_Sum := (((8 : Nat), (1 : Nat), (6 : Nat)), (249 : Nat), [.inr (.inr (.inl (1 : Nat))), .inl ((-2147483648 : Int), (-1 : Int), []), .inl ((-2147483648 : Int), (2147483647 : Int), []), .inl ((-2147483648 : Int), (2147483647 : Int), [])], ([], [], []), ([], []), [(.inl (3 : Nat), (249 : Nat), ([], [], []))])
set_option maxRecDepth 100000 in
theorem pl_s798_s {X : Int → Int} {LX : Nat} : ck_Ok p2_OL X LX 207 pl_s798 := ck_okq (cuts := []) (f := 76) ⟨pl_nmu, ck_E1 (ck_S1 pl_s191_s ck_S0) ck_E0⟩ (by decide +kernel)
set_option maxRecDepth 100000 in
/-- GlacierMail.chain -/
noncomputable def pl_s799 : ck_Sum := (((8 : Nat), (1 : Nat), (6 : Nat)), (249 : Nat), [.inr (.inr (.inl (1 : Nat))), .inl ((8 : Int), (2147483647 : Int), []), .inl ((-2147483648 : Int), (2147483647 : Int), []), .inl ((-2147483648 : Int), (2147483647 : Int), [])], ([], [], []), ([], []), [(.inl (3 : Nat), (249 : Nat), ([], [], []))])
set_option maxRecDepth 100000 in
theorem pl_s799_s {X : Int → Int} {LX : Nat} : ck_Ok p2_OL X LX 207 pl_s799 := ck_okq (cuts := []) (f := 76) ⟨pl_nmu, ck_E1 (ck_S1 pl_s194_s ck_S0) ck_E0⟩ (by decide +kernel)
set_option maxRecDepth 100000 in
/-- GlacierMail.chain -/
noncomputable def pl_s800 : ck_Sum := (((8 : Nat), (2 : Nat), (12 : Nat)), (249 : Nat), [.inr (.inr (.inl (1 : Nat))), .inl ((0 : Int), (7 : Int), []), .inl ((-2147483648 : Int), (-1 : Int), []), .inl ((-2147483648 : Int), (2147483647 : Int), [])], ([], [], []), ([], []), [(.inl (3 : Nat), (249 : Nat), ([], [], []))])
set_option maxRecDepth 100000 in
theorem pl_s800_s {X : Int → Int} {LX : Nat} : ck_Ok p2_OL X LX 207 pl_s800 := ck_okq (cuts := []) (f := 82) ⟨pl_nmu, ck_E1 (ck_S1 pl_s197_s (ck_S1 pl_s191_s ck_S0)) ck_E0⟩ (by decide +kernel)
set_option maxRecDepth 100000 in
/-- GlacierMail.chain -/
noncomputable def pl_s801 : ck_Sum := (((8 : Nat), (2 : Nat), (12 : Nat)), (249 : Nat), [.inr (.inr (.inl (1 : Nat))), .inl ((0 : Int), (7 : Int), []), .inl ((8 : Int), (2147483647 : Int), []), .inl ((-2147483648 : Int), (2147483647 : Int), [])], ([], [], []), ([], []), [(.inl (3 : Nat), (249 : Nat), ([], [], []))])
set_option maxRecDepth 100000 in
theorem pl_s801_s {X : Int → Int} {LX : Nat} : ck_Ok p2_OL X LX 207 pl_s801 := ck_okq (cuts := []) (f := 82) ⟨pl_nmu, ck_E1 (ck_S1 pl_s197_s (ck_S1 pl_s194_s ck_S0)) ck_E0⟩ (by decide +kernel)
set_option maxRecDepth 100000 in
/-- GlacierMail$Rows.get -/
noncomputable def pl_s802 : ck_Sum := (((0 : Nat), (0 : Nat), (0 : Nat)), (249 : Nat), [.inr (.inr (.inl (211 : Nat))), .inl ((-2147483648 : Int), (2147483647 : Int), []), .inl ((-2147483648 : Int), (2147483647 : Int), [])], ([], [], []), ([], []), [(.inr (some (.inl ((-2147483648 : Int), (299 : Int), []))), (249 : Nat), ([], [], []))])
set_option maxRecDepth 100000 in
theorem pl_s802_s {X : Int → Int} {LX : Nat} : ck_Ok p2_OL X LX 10 pl_s802 := ck_okq (cuts := []) (f := 114) ⟨pl_nmu, ck_E0⟩ (by decide +kernel)
set_option maxRecDepth 100000 in
/-- GlacierMail$Answers.throwAhead -/
noncomputable def pl_s803 : ck_Sum := (((1 : Nat), (0 : Nat), (0 : Nat)), (249 : Nat), [.inr (.inr (.inl (208 : Nat))), .inl ((0 : Int), (2398 : Int), []), .inl ((0 : Int), (299 : Int), []), .inl ((1 : Int), (2147483646 : Int), [])], ([], [], [((3 : Nat), (6 : Int), (6 : Int), ((0 : Int), (299 : Int), [((10 : Nat), (0 : Int))]))]), ([], []), [(.inr (some (.inl ((0 : Int), (2398 : Int), []))), (249 : Nat), ([], [], []))])
set_option maxRecDepth 100000 in
theorem pl_s803_s {X : Int → Int} {LX : Nat} : ck_Ok p2_OL X LX 209 pl_s803 := ck_okq (cuts := [((17 : Nat), [some (.inr (.inr (.inl (208 : Nat)))), some (.inl ((0 : Int), (2398 : Int), [])), some (.inl ((0 : Int), (299 : Int), [])), some (.inl ((1 : Int), (2147483646 : Int), [])), some (.inl ((-1 : Int), (98 : Int), [])), some (.inl ((0 : Int), (9 : Int), [])), none], ([], [], [((3 : Nat), (6 : Int), (6 : Int), ((0 : Int), (299 : Int), [((10 : Nat), (0 : Int))]))]), (100 : Nat), .inl (5 : Nat), true), ((59 : Nat), [some (.inr (.inr (.inl (208 : Nat)))), some (.inl ((0 : Int), (2398 : Int), [])), some (.inl ((0 : Int), (299 : Int), [])), some (.inl ((1 : Int), (2147483646 : Int), [])), some (.inl ((-1 : Int), (98 : Int), [])), some (.inl ((0 : Int), (7 : Int), [((100 : Nat), (0 : Int))])), some (.inl ((0 : Int), (299 : Int), [((1000010 : Nat), (0 : Int))]))], ([], [], [((3 : Nat), (6 : Int), (6 : Int), ((0 : Int), (299 : Int), [((10 : Nat), (0 : Int))]))]), (300 : Nat), .inl (6 : Nat), true)]) (f := 260) ⟨pl_nmu, ck_E1 (ck_S1 pl_s224_s (ck_S1 pl_s787_s (ck_S1 pl_s802_s ck_S0))) (ck_E1 (ck_S1 pl_s189_s ck_S0) ck_E0)⟩ (by decide +kernel)
set_option maxRecDepth 100000 in
/-- GlacierMail$Answers.holder -/
noncomputable def pl_s804 : ck_Sum := (((2 : Nat), (0 : Nat), (0 : Nat)), (249 : Nat), [.inr (.inr (.inl (208 : Nat))), .inl ((0 : Int), (7 : Int), []), .inl ((0 : Int), (7 : Int), []), .inl (ck_one 0)], ([], [], [((3 : Nat), (6 : Int), (6 : Int), ((0 : Int), (299 : Int), [((10 : Nat), (0 : Int))]))]), ([], []), [(.inr (some (.inl (ck_one (-1)))), (249 : Nat), ([], [], [])), (.inr (some (.inl ((0 : Int), (7 : Int), []))), (249 : Nat), ([], [], []))])
set_option maxRecDepth 100000 in
theorem pl_s804_s {X : Int → Int} {LX : Nat} : ck_Ok p2_OL X LX 208 pl_s804 := ck_okq (cuts := [((44 : Nat), [some (.inr (.inr (.inl (208 : Nat)))), some (.inl ((0 : Int), (7 : Int), [])), some (.inl ((0 : Int), (7 : Int), [])), some (.inl (ck_one 0)), some (.inl ((0 : Int), (299 : Int), [])), some (.inl ((0 : Int), (2398 : Int), [])), some (.inl ((0 : Int), (2147483647 : Int), [])), some (.inl ((0 : Int), (2147483647 : Int), [])), none], ([], [], [((3 : Nat), (6 : Int), (6 : Int), ((0 : Int), (299 : Int), [((10 : Nat), (0 : Int))]))]), (100 : Nat), .inl (7 : Nat), false)]) (f := 190) ⟨pl_nmu, ck_E1 (ck_S1 pl_s795_s ck_S0) (ck_E1 (ck_S1 pl_s787_s ck_S0) (ck_E1 (ck_S1 pl_s803_s ck_S0) ck_E0))⟩ (by decide +kernel)
set_option maxRecDepth 100000 in
/-- GlacierMail$Answers.throwAhead -/
noncomputable def pl_s806 : ck_Sum := (((1 : Nat), (0 : Nat), (0 : Nat)), (249 : Nat), [.inr (.inr (.inl (208 : Nat))), .inl ((0 : Int), (2398 : Int), []), .inl ((0 : Int), (299 : Int), []), .inl ((51 : Int), (2147483646 : Int), [])], ([], [], [((3 : Nat), (6 : Int), (6 : Int), ((0 : Int), (299 : Int), [((10 : Nat), (0 : Int))]))]), ([], []), [(.inr (some (.inl ((0 : Int), (2398 : Int), []))), (249 : Nat), ([], [], []))])
set_option maxRecDepth 100000 in
theorem pl_s806_s {X : Int → Int} {LX : Nat} : ck_Ok p2_OL X LX 209 pl_s806 := ck_okq (cuts := [((17 : Nat), [some (.inr (.inr (.inl (208 : Nat)))), some (.inl ((0 : Int), (2398 : Int), [])), some (.inl ((0 : Int), (299 : Int), [])), some (.inl ((51 : Int), (2147483646 : Int), [])), some (.inl ((-1 : Int), (98 : Int), [])), some (.inl ((0 : Int), (9 : Int), [])), none], ([], [], [((3 : Nat), (6 : Int), (6 : Int), ((0 : Int), (299 : Int), [((10 : Nat), (0 : Int))]))]), (100 : Nat), .inl (5 : Nat), true), ((59 : Nat), [some (.inr (.inr (.inl (208 : Nat)))), some (.inl ((0 : Int), (2398 : Int), [])), some (.inl ((0 : Int), (299 : Int), [])), some (.inl ((51 : Int), (2147483646 : Int), [])), some (.inl ((-1 : Int), (98 : Int), [])), some (.inl ((0 : Int), (7 : Int), [((100 : Nat), (0 : Int))])), some (.inl ((0 : Int), (299 : Int), [((1000010 : Nat), (0 : Int))]))], ([], [], [((3 : Nat), (6 : Int), (6 : Int), ((0 : Int), (299 : Int), [((10 : Nat), (0 : Int))]))]), (300 : Nat), .inl (6 : Nat), true)]) (f := 260) ⟨pl_nmu, ck_E1 (ck_S1 pl_s224_s (ck_S1 pl_s787_s (ck_S1 pl_s802_s ck_S0))) (ck_E1 (ck_S1 pl_s189_s ck_S0) ck_E0)⟩ (by decide +kernel)
set_option maxRecDepth 100000 in
/-- GlacierMail$Answers.holder -/
noncomputable def pl_s807 : ck_Sum := (((2 : Nat), (0 : Nat), (0 : Nat)), (249 : Nat), [.inr (.inr (.inl (208 : Nat))), .inl ((0 : Int), (7 : Int), []), .inl ((0 : Int), (7 : Int), []), .inl ((51 : Int), (2147483647 : Int), [])], ([], [], [((3 : Nat), (6 : Int), (6 : Int), ((0 : Int), (299 : Int), [((10 : Nat), (0 : Int))]))]), ([], []), [(.inr (some (.inl (ck_one (-1)))), (249 : Nat), ([], [], [])), (.inr (some (.inl ((0 : Int), (2398 : Int), []))), (249 : Nat), ([], [], []))])
set_option maxRecDepth 100000 in
theorem pl_s807_s {X : Int → Int} {LX : Nat} : ck_Ok p2_OL X LX 208 pl_s807 := ck_okq (cuts := [((44 : Nat), [some (.inr (.inr (.inl (208 : Nat)))), some (.inl ((0 : Int), (7 : Int), [])), some (.inl ((0 : Int), (7 : Int), [])), some (.inl ((51 : Int), (2147483647 : Int), [])), some (.inl ((0 : Int), (299 : Int), [])), some (.inl ((0 : Int), (2398 : Int), [])), some (.inl ((51 : Int), (2147483647 : Int), [])), some (.inl ((51 : Int), (2147483647 : Int), [])), none], ([], [], [((3 : Nat), (6 : Int), (6 : Int), ((0 : Int), (299 : Int), [((10 : Nat), (0 : Int))]))]), (100 : Nat), .inl (7 : Nat), false)]) (f := 190) ⟨pl_nmu, ck_E1 (ck_S1 pl_s795_s ck_S0) (ck_E1 (ck_S1 pl_s787_s ck_S0) (ck_E1 (ck_S1 pl_s806_s ck_S0) ck_E0))⟩ (by decide +kernel)
set_option maxRecDepth 100000 in
/-- GlacierMail$Answers.holder -/
noncomputable def pl_s809 : ck_Sum := (((2 : Nat), (0 : Nat), (0 : Nat)), (249 : Nat), [.inr (.inr (.inl (208 : Nat))), .inl ((0 : Int), (7 : Int), []), .inl ((0 : Int), (7 : Int), []), .inl ((1 : Int), (50 : Int), [])], ([], [], [((3 : Nat), (6 : Int), (6 : Int), ((0 : Int), (299 : Int), [((10 : Nat), (0 : Int))]))]), ([], []), [(.inr (some (.inl (ck_one (-1)))), (249 : Nat), ([], [], [])), (.inr (some (.inl ((0 : Int), (2398 : Int), []))), (249 : Nat), ([], [], []))])
set_option maxRecDepth 100000 in
theorem pl_s809_s {X : Int → Int} {LX : Nat} : ck_Ok p2_OL X LX 208 pl_s809 := ck_okq (cuts := [((44 : Nat), [some (.inr (.inr (.inl (208 : Nat)))), some (.inl ((0 : Int), (7 : Int), [])), some (.inl ((0 : Int), (7 : Int), [])), some (.inl ((1 : Int), (50 : Int), [])), some (.inl ((0 : Int), (299 : Int), [])), some (.inl ((0 : Int), (2398 : Int), [])), some (.inl ((1 : Int), (2147483647 : Int), [])), some (.inl ((1 : Int), (2147483647 : Int), [])), none], ([], [], [((3 : Nat), (6 : Int), (6 : Int), ((0 : Int), (299 : Int), [((10 : Nat), (0 : Int))]))]), (100 : Nat), .inl (7 : Nat), false)]) (f := 190) ⟨pl_nmu, ck_E1 (ck_S1 pl_s795_s ck_S0) (ck_E1 (ck_S1 pl_s787_s ck_S0) (ck_E1 (ck_S1 pl_s803_s ck_S0) ck_E0))⟩ (by decide +kernel)
set_option maxRecDepth 100000 in
/-- GlacierMail.reached -/
noncomputable def pl_s811 : ck_Sum := (((8 : Nat), (1 : Nat), (6 : Nat)), (249 : Nat), [.inr (.inr (.inl (1 : Nat))), .inl ((-2147483648 : Int), (-1 : Int), []), .inl ((-2147483648 : Int), (2147483647 : Int), [])], ([], [], []), ([], []), [(.inl (3 : Nat), (249 : Nat), ([], [], []))])
set_option maxRecDepth 100000 in
theorem pl_s811_s {X : Int → Int} {LX : Nat} : ck_Ok p2_OL X LX 211 pl_s811 := ck_okq (cuts := []) (f := 76) ⟨pl_nmu, ck_E1 (ck_S1 pl_s191_s ck_S0) ck_E0⟩ (by decide +kernel)
set_option maxRecDepth 100000 in
/-- GlacierMail.reached -/
noncomputable def pl_s812 : ck_Sum := (((8 : Nat), (1 : Nat), (6 : Nat)), (249 : Nat), [.inr (.inr (.inl (1 : Nat))), .inl ((8 : Int), (2147483647 : Int), []), .inl ((-2147483648 : Int), (2147483647 : Int), [])], ([], [], []), ([], []), [(.inl (3 : Nat), (249 : Nat), ([], [], []))])
set_option maxRecDepth 100000 in
theorem pl_s812_s {X : Int → Int} {LX : Nat} : ck_Ok p2_OL X LX 211 pl_s812 := ck_okq (cuts := []) (f := 76) ⟨pl_nmu, ck_E1 (ck_S1 pl_s194_s ck_S0) ck_E0⟩ (by decide +kernel)
set_option maxRecDepth 100000 in
/-- GlacierMail.reached -/
noncomputable def pl_s813 : ck_Sum := (((8 : Nat), (2 : Nat), (12 : Nat)), (249 : Nat), [.inr (.inr (.inl (1 : Nat))), .inl ((0 : Int), (7 : Int), []), .inl ((-2147483648 : Int), (-1 : Int), [])], ([], [], []), ([], []), [(.inl (3 : Nat), (249 : Nat), ([], [], [])), (.inl (0 : Nat), (249 : Nat), ([], [], []))])
set_option maxRecDepth 100000 in
theorem pl_s813_s {X : Int → Int} {LX : Nat} : ck_Ok p2_OL X LX 211 pl_s813 := ck_okq (cuts := []) (f := 82) ⟨pl_nmu, ck_E1 (ck_S1 pl_s197_s ck_S0) (ck_E1 (ck_S1 pl_s145_s ck_S0) ck_E0)⟩ (by decide +kernel)
set_option maxRecDepth 100000 in
/-- GlacierMail.reached -/
noncomputable def pl_s814 : ck_Sum := (((8 : Nat), (2 : Nat), (12 : Nat)), (249 : Nat), [.inr (.inr (.inl (1 : Nat))), .inl ((0 : Int), (7 : Int), []), .inl ((300 : Int), (2147483647 : Int), [])], ([], [], []), ([], []), [(.inl (3 : Nat), (249 : Nat), ([], [], [])), (.inl (0 : Nat), (249 : Nat), ([], [], []))])
set_option maxRecDepth 100000 in
theorem pl_s814_s {X : Int → Int} {LX : Nat} : ck_Ok p2_OL X LX 211 pl_s814 := ck_okq (cuts := []) (f := 82) ⟨pl_nmu, ck_E1 (ck_S1 pl_s197_s ck_S0) (ck_E1 (ck_S1 pl_s147_s ck_S0) ck_E0)⟩ (by decide +kernel)
set_option maxRecDepth 100000 in
/-- GlacierMail.needThiefYears -/
noncomputable def pl_s819 : ck_Sum := (((6 : Nat), (1 : Nat), (6 : Nat)), (249 : Nat), [.inr (.inr (.inl (1 : Nat))), .inl ((-2147483648 : Int), (-1 : Int), [])], ([], [], []), ([], []), [(.inl (0 : Nat), (249 : Nat), ([], [], []))])
set_option maxRecDepth 100000 in
theorem pl_s819_s {X : Int → Int} {LX : Nat} : ck_Ok p2_OL X LX 214 pl_s819 := ck_okq (cuts := []) (f := 78) ⟨pl_nmu, ck_E0⟩ (by decide +kernel)
set_option maxRecDepth 100000 in
/-- GlacierMail.thieves -/
noncomputable def pl_s820 : ck_Sum := (((7 : Nat), (1 : Nat), (6 : Nat)), (249 : Nat), [.inr (.inr (.inl (1 : Nat))), .inl ((-2147483648 : Int), (-1 : Int), []), .inl ((0 : Int), (1 : Int), [])], ([], [], []), ([], []), [(.inl (0 : Nat), (249 : Nat), ([], [], []))])
set_option maxRecDepth 100000 in
theorem pl_s820_s {X : Int → Int} {LX : Nat} : ck_Ok p2_OL X LX 213 pl_s820 := ck_okq (cuts := []) (f := 76) ⟨pl_nmu, ck_E1 (ck_S1 pl_s819_s ck_S0) ck_E0⟩ (by decide +kernel)
set_option maxRecDepth 100000 in
/-- GlacierMail.needThiefYears -/
noncomputable def pl_s821 : ck_Sum := (((6 : Nat), (1 : Nat), (6 : Nat)), (249 : Nat), [.inr (.inr (.inl (1 : Nat))), .inl ((31 : Int), (2147483647 : Int), [])], ([], [], []), ([], []), [(.inl (0 : Nat), (249 : Nat), ([], [], []))])
set_option maxRecDepth 100000 in
theorem pl_s821_s {X : Int → Int} {LX : Nat} : ck_Ok p2_OL X LX 214 pl_s821 := ck_okq (cuts := []) (f := 84) ⟨pl_nmu, ck_E0⟩ (by decide +kernel)
set_option maxRecDepth 100000 in
/-- GlacierMail.thieves -/
noncomputable def pl_s822 : ck_Sum := (((7 : Nat), (1 : Nat), (6 : Nat)), (249 : Nat), [.inr (.inr (.inl (1 : Nat))), .inl ((31 : Int), (2147483647 : Int), []), .inl ((0 : Int), (1 : Int), [])], ([], [], []), ([], []), [(.inl (0 : Nat), (249 : Nat), ([], [], []))])
set_option maxRecDepth 100000 in
theorem pl_s822_s {X : Int → Int} {LX : Nat} : ck_Ok p2_OL X LX 213 pl_s822 := ck_okq (cuts := []) (f := 76) ⟨pl_nmu, ck_E1 (ck_S1 pl_s821_s ck_S0) ck_E0⟩ (by decide +kernel)
set_option maxRecDepth 100000 in
/-- GlacierMail.needThiefYears -/
noncomputable def pl_s823 : ck_Sum := (((6 : Nat), (1 : Nat), (6 : Nat)), (249 : Nat), [.inr (.inr (.inl (1 : Nat))), .inl ((0 : Int), (30 : Int), [])], ([], [], []), ([], []), [(.inl (0 : Nat), (249 : Nat), ([], [], [])), (.inr none, (249 : Nat), ([], [], []))])
set_option maxRecDepth 100000 in
theorem pl_s823_s {X : Int → Int} {LX : Nat} : ck_Ok p2_OL X LX 214 pl_s823 := ck_okq (cuts := []) (f := 84) ⟨pl_nmu, ck_E0⟩ (by decide +kernel)
set_option maxRecDepth 100000 in
/-- java/util/Arrays.fill -/
noncomputable def pl_s824 : ck_Sum := (((0 : Nat), (0 : Nat), (0 : Nat)), (249 : Nat), [.inr (.inr (.inl (223 : Nat))), .inl (ck_one 0)], ([], [], []), ([((223 : Nat), (0 : Int), (179 : Int))], []), [(.inr none, (249 : Nat), ([], [], []))])
set_option maxRecDepth 100000 in
theorem pl_s824_s {X : Int → Int} {LX : Nat} : ck_Ok p2_OL X LX 8 pl_s824 := ck_okq (cuts := [((5 : Nat), [some (.inr (.inr (.inl (223 : Nat)))), some (.inl (ck_one 0)), some (.inl ((0 : Int), (180 : Int), [])), some (.inl (ck_one 180))], ([], [], []), (100 : Nat), .inl (2 : Nat), true)]) (f := 130) ⟨pl_nmu, ck_E0⟩ (by decide +kernel)
set_option maxRecDepth 100000 in
/-- GlacierMail$Rows.reset -/
noncomputable def pl_s825 : ck_Sum := (((1 : Nat), (0 : Nat), (0 : Nat)), (249 : Nat), [.inr (.inr (.inl (222 : Nat))), .inl ((0 : Int), (30 : Int), [])], ([], [], []), ([((222 : Nat), (3 : Int), (3 : Int)), ((223 : Nat), (0 : Int), (179 : Int))], []), [(.inr none, (249 : Nat), ([], [], []))])
set_option maxRecDepth 100000 in
theorem pl_s825_s {X : Int → Int} {LX : Nat} : ck_Ok p2_OL X LX 25 pl_s825 := ck_okq (cuts := []) (f := 96) ⟨pl_nmu, ck_E1 (ck_S1 pl_s824_s ck_S0) ck_E0⟩ (by decide +kernel)
set_option maxRecDepth 100000 in
/-- GlacierMail$Rows.get -/
noncomputable def pl_s826 : ck_Sum := (((0 : Nat), (0 : Nat), (0 : Nat)), (249 : Nat), [.inr (.inr (.inl (222 : Nat))), .inl ((-2147483648 : Int), (2147483647 : Int), []), .inl ((-2147483648 : Int), (2147483647 : Int), [])], ([], [], []), ([], []), [(.inr (some (.inl ((-2147483648 : Int), (2147483647 : Int), []))), (249 : Nat), ([], [], []))])
set_option maxRecDepth 100000 in
theorem pl_s826_s {X : Int → Int} {LX : Nat} : ck_Ok p2_OL X LX 10 pl_s826 := ck_okq (cuts := []) (f := 114) ⟨pl_nmu, ck_E0⟩ (by decide +kernel)
set_option maxRecDepth 100000 in
/-- GlacierMail$Rows.put -/
noncomputable def pl_s827 : ck_Sum := (((0 : Nat), (0 : Nat), (0 : Nat)), (249 : Nat), [.inr (.inr (.inl (222 : Nat))), .inl ((-2147483648 : Int), (2147483647 : Int), []), .inl ((-1 : Int), (299 : Int), []), .inl ((-2147483648 : Int), (2147483647 : Int), [])], ([], [], []), ([((223 : Nat), (0 : Int), (179 : Int))], []), [(.inr none, (249 : Nat), ([], [], []))])
set_option maxRecDepth 100000 in
theorem pl_s827_s {X : Int → Int} {LX : Nat} : ck_Ok p2_OL X LX 45 pl_s827 := ck_okq (cuts := []) (f := 116) ⟨pl_nmu, ck_E0⟩ (by decide +kernel)
set_option maxRecDepth 100000 in
/-- GlacierMail.reckonCame -/
noncomputable def pl_s828 : ck_Sum := (((2 : Nat), (0 : Nat), (0 : Nat)), (249 : Nat), [.inr (.inr (.inl (1 : Nat))), .inl ((0 : Int), (30 : Int), [])], ([], [], [((3 : Nat), (6 : Int), (6 : Int), ((0 : Int), (299 : Int), [((10 : Nat), (0 : Int))]))]), ([((222 : Nat), (3 : Int), (3 : Int)), ((223 : Nat), (0 : Int), (179 : Int))], []), [(.inr none, (249 : Nat), ([], [], []))])
set_option maxRecDepth 100000 in
theorem pl_s828_s {X : Int → Int} {LX : Nat} : ck_Ok p2_OL X LX 215 pl_s828 := ck_okq (cuts := [((10 : Nat), [some (.inr (.inr (.inl (1 : Nat)))), some (.inl ((0 : Int), (30 : Int), [])), some (.inl ((0 : Int), (24 : Int), [])), none, none], ([], [], [((3 : Nat), (6 : Int), (6 : Int), ((0 : Int), (299 : Int), [((10 : Nat), (0 : Int))]))]), (100 : Nat), .inl (2 : Nat), true)]) (f := 286) ⟨pl_nmu, ck_E1 (ck_S1 pl_s825_s ck_S0) (ck_E1 (ck_S1 pl_s201_s ck_S0) (ck_E1 (ck_S1 pl_s218_s (ck_S1 pl_s204_s (ck_S1 pl_s826_s ck_S0))) (ck_E1 (ck_S1 pl_s205_s ck_S0) (ck_E1 (ck_S1 pl_s827_s ck_S0) ck_E0))))⟩ (by decide +kernel)
set_option maxRecDepth 100000 in
/-- java/util/Arrays.fill -/
noncomputable def pl_s829 : ck_Sum := (((0 : Nat), (0 : Nat), (0 : Nat)), (249 : Nat), [.inr (.inr (.inl (225 : Nat))), .inl (ck_one 0)], ([], [], []), ([((225 : Nat), (0 : Int), (185 : Int))], []), [(.inr none, (249 : Nat), ([], [], []))])
set_option maxRecDepth 100000 in
theorem pl_s829_s {X : Int → Int} {LX : Nat} : ck_Ok p2_OL X LX 8 pl_s829 := ck_okq (cuts := [((5 : Nat), [some (.inr (.inr (.inl (225 : Nat)))), some (.inl (ck_one 0)), some (.inl ((0 : Int), (186 : Int), [])), some (.inl (ck_one 186))], ([], [], []), (100 : Nat), .inl (2 : Nat), true)]) (f := 130) ⟨pl_nmu, ck_E0⟩ (by decide +kernel)
set_option maxRecDepth 100000 in
/-- GlacierMail$Rows.reset -/
noncomputable def pl_s830 : ck_Sum := (((1 : Nat), (0 : Nat), (0 : Nat)), (249 : Nat), [.inr (.inr (.inl (224 : Nat))), .inl ((1 : Int), (31 : Int), [])], ([], [], []), ([((224 : Nat), (3 : Int), (3 : Int)), ((225 : Nat), (0 : Int), (185 : Int))], []), [(.inr none, (249 : Nat), ([], [], [((224 : Nat), (3 : Int), (3 : Int), ((1 : Int), (31 : Int), []))]))])
set_option maxRecDepth 100000 in
theorem pl_s830_s {X : Int → Int} {LX : Nat} : ck_Ok p2_OL X LX 25 pl_s830 := ck_okq (cuts := []) (f := 96) ⟨pl_nmu, ck_E1 (ck_S1 pl_s829_s ck_S0) ck_E0⟩ (by decide +kernel)
set_option maxRecDepth 100000 in
/-- GlacierMail$Rows.get -/
noncomputable def pl_s831 : ck_Sum := (((0 : Nat), (0 : Nat), (0 : Nat)), (249 : Nat), [.inr (.inr (.inl (224 : Nat))), .inl ((-2147483648 : Int), (2147483647 : Int), []), .inl ((-2147483648 : Int), (2147483647 : Int), [])], ([], [], []), ([], []), [(.inr (some (.inl ((-2147483648 : Int), (2147483647 : Int), []))), (249 : Nat), ([], [], []))])
set_option maxRecDepth 100000 in
theorem pl_s831_s {X : Int → Int} {LX : Nat} : ck_Ok p2_OL X LX 10 pl_s831 := ck_okq (cuts := []) (f := 114) ⟨pl_nmu, ck_E0⟩ (by decide +kernel)
set_option maxRecDepth 100000 in
/-- GlacierMail.bestNext -/
noncomputable def pl_s832 : ck_Sum := (((1 : Nat), (0 : Nat), (0 : Nat)), (249 : Nat), [.inr (.inr (.inl (1 : Nat))), .inl ((1 : Int), (30 : Int), []), .inl ((0 : Int), (5 : Int), [])], ([], [], []), ([], []), [(.inr (some (.inl ((-2147483648 : Int), (2147483647 : Int), []))), (249 : Nat), ([], [], []))])
set_option maxRecDepth 100000 in
theorem pl_s832_s {X : Int → Int} {LX : Nat} : ck_Ok p2_OL X LX 216 pl_s832 := ck_okq (cuts := []) (f := 118) ⟨pl_nmu, ck_E1 (ck_S1 pl_s831_s ck_S0) ck_E0⟩ (by decide +kernel)
set_option maxRecDepth 100000 in
/-- GlacierMail$Rows.put -/
noncomputable def pl_s833 : ck_Sum := (((0 : Nat), (0 : Nat), (0 : Nat)), (249 : Nat), [.inr (.inr (.inl (224 : Nat))), .inl ((0 : Int), (29 : Int), []), .inl ((0 : Int), (5 : Int), []), .inl ((-2147483648 : Int), (2147483647 : Int), [])], ([], [], []), ([((225 : Nat), (0 : Int), (179 : Int))], []), [(.inr none, (249 : Nat), ([], [], []))])
set_option maxRecDepth 100000 in
theorem pl_s833_s {X : Int → Int} {LX : Nat} : ck_Ok p2_OL X LX 45 pl_s833 := ck_okq (cuts := []) (f := 116) ⟨pl_nmu, ck_E0⟩ (by decide +kernel)
set_option maxRecDepth 100000 in
/-- GlacierMail.watchman -/
noncomputable def pl_s835 : ck_Sum := (((7 : Nat), (1 : Nat), (6 : Nat)), (249 : Nat), [.inr (.inr (.inl (1 : Nat))), .inl ((-2147483648 : Int), (-1 : Int), []), .inl ((0 : Int), (1 : Int), [])], ([], [], []), ([], []), [(.inl (0 : Nat), (249 : Nat), ([], [], []))])
set_option maxRecDepth 100000 in
theorem pl_s835_s {X : Int → Int} {LX : Nat} : ck_Ok p2_OL X LX 218 pl_s835 := ck_okq (cuts := []) (f := 76) ⟨pl_nmu, ck_E1 (ck_S1 pl_s819_s ck_S0) ck_E0⟩ (by decide +kernel)
set_option maxRecDepth 100000 in
/-- GlacierMail.watchman -/
noncomputable def pl_s836 : ck_Sum := (((7 : Nat), (1 : Nat), (6 : Nat)), (249 : Nat), [.inr (.inr (.inl (1 : Nat))), .inl ((31 : Int), (2147483647 : Int), []), .inl ((0 : Int), (1 : Int), [])], ([], [], []), ([], []), [(.inl (0 : Nat), (249 : Nat), ([], [], []))])
set_option maxRecDepth 100000 in
theorem pl_s836_s {X : Int → Int} {LX : Nat} : ck_Ok p2_OL X LX 218 pl_s836 := ck_okq (cuts := []) (f := 76) ⟨pl_nmu, ck_E1 (ck_S1 pl_s821_s ck_S0) ck_E0⟩ (by decide +kernel)
set_option maxRecDepth 100000 in
/-- GlacierMail.mostBeside -/
noncomputable def pl_s837 : ck_Sum := (((1 : Nat), (0 : Nat), (0 : Nat)), (249 : Nat), [.inr (.inr (.inl (1 : Nat))), .inl ((0 : Int), (5 : Int), []), .inl ((0 : Int), (30 : Int), [])], ([], [], []), ([], []), [(.inr (some (.inl ((0 : Int), (2147483647 : Int), []))), (249 : Nat), ([], [], []))])
set_option maxRecDepth 100000 in
theorem pl_s837_s {X : Int → Int} {LX : Nat} : ck_Ok p2_OL X LX 219 pl_s837 := ck_okq (cuts := [((5 : Nat), [some (.inr (.inr (.inl (1 : Nat)))), some (.inl ((0 : Int), (5 : Int), [])), some (.inl ((0 : Int), (30 : Int), [])), some (.inl ((0 : Int), (2147483647 : Int), [])), some (.inl ((0 : Int), (6 : Int), [])), none, none], ([], [], []), (100 : Nat), .inl (4 : Nat), true), ((23 : Nat), [some (.inr (.inr (.inl (1 : Nat)))), some (.inl ((0 : Int), (5 : Int), [])), some (.inl ((0 : Int), (30 : Int), [])), some (.inl ((0 : Int), (2147483647 : Int), [])), some (.inl ((0 : Int), (5 : Int), [((100 : Nat), (0 : Int))])), some (.inl ((-2147483648 : Int), (2147483647 : Int), [])), some (.inl ((0 : Int), (30 : Int), []))], ([], [], []), (300 : Nat), .inl (6 : Nat), true)]) (f := 194) ⟨pl_nmu, ck_E1 (ck_S1 pl_s826_s ck_S0) ck_E0⟩ (by decide +kernel)
set_option maxRecDepth 100000 in
/-- GlacierMail.mostBeside -/
noncomputable def pl_s838 : ck_Sum := (((1 : Nat), (0 : Nat), (0 : Nat)), (249 : Nat), [.inr (.inr (.inl (1 : Nat))), .inl ((1 : Int), (5 : Int), []), .inl ((0 : Int), (30 : Int), [])], ([], [], []), ([], []), [(.inr (some (.inl ((0 : Int), (2147483647 : Int), []))), (249 : Nat), ([], [], []))])
set_option maxRecDepth 100000 in
theorem pl_s838_s {X : Int → Int} {LX : Nat} : ck_Ok p2_OL X LX 219 pl_s838 := ck_okq (cuts := [((5 : Nat), [some (.inr (.inr (.inl (1 : Nat)))), some (.inl ((1 : Int), (5 : Int), [])), some (.inl ((0 : Int), (30 : Int), [])), some (.inl ((0 : Int), (2147483647 : Int), [])), some (.inl ((0 : Int), (6 : Int), [])), none, none], ([], [], []), (100 : Nat), .inl (4 : Nat), true), ((23 : Nat), [some (.inr (.inr (.inl (1 : Nat)))), some (.inl ((1 : Int), (5 : Int), [])), some (.inl ((0 : Int), (30 : Int), [])), some (.inl ((0 : Int), (2147483647 : Int), [])), some (.inl ((0 : Int), (5 : Int), [((100 : Nat), (0 : Int))])), some (.inl ((-2147483648 : Int), (2147483647 : Int), [])), some (.inl ((0 : Int), (30 : Int), []))], ([], [], []), (300 : Nat), .inl (6 : Nat), true)]) (f := 194) ⟨pl_nmu, ck_E1 (ck_S1 pl_s826_s ck_S0) ck_E0⟩ (by decide +kernel)
set_option maxRecDepth 100000 in
/-- GlacierMail.meeting -/
noncomputable def pl_s840 : ck_Sum := (((8 : Nat), (1 : Nat), (6 : Nat)), (249 : Nat), [.inr (.inr (.inl (1 : Nat))), .inl ((-2147483648 : Int), (-1 : Int), []), .inl ((-2147483648 : Int), (2147483647 : Int), [])], ([], [], []), ([], []), [(.inl (3 : Nat), (249 : Nat), ([], [], []))])
set_option maxRecDepth 100000 in
theorem pl_s840_s {X : Int → Int} {LX : Nat} : ck_Ok p2_OL X LX 221 pl_s840 := ck_okq (cuts := []) (f := 76) ⟨pl_nmu, ck_E1 (ck_S1 pl_s227_s ck_S0) ck_E0⟩ (by decide +kernel)
set_option maxRecDepth 100000 in
/-- GlacierMail.meeting -/
noncomputable def pl_s841 : ck_Sum := (((8 : Nat), (1 : Nat), (6 : Nat)), (249 : Nat), [.inr (.inr (.inl (1 : Nat))), .inl ((24 : Int), (2147483647 : Int), []), .inl ((-2147483648 : Int), (2147483647 : Int), [])], ([], [], []), ([], []), [(.inl (3 : Nat), (249 : Nat), ([], [], []))])
set_option maxRecDepth 100000 in
theorem pl_s841_s {X : Int → Int} {LX : Nat} : ck_Ok p2_OL X LX 221 pl_s841 := ck_okq (cuts := []) (f := 76) ⟨pl_nmu, ck_E1 (ck_S1 pl_s230_s ck_S0) ck_E0⟩ (by decide +kernel)
set_option maxRecDepth 100000 in
/-- GlacierMail.meeting -/
noncomputable def pl_s842 : ck_Sum := (((8 : Nat), (2 : Nat), (12 : Nat)), (249 : Nat), [.inr (.inr (.inl (1 : Nat))), .inl ((0 : Int), (23 : Int), []), .inl ((-2147483648 : Int), (-1 : Int), [])], ([], [], []), ([], []), [(.inl (3 : Nat), (249 : Nat), ([], [], []))])
set_option maxRecDepth 100000 in
theorem pl_s842_s {X : Int → Int} {LX : Nat} : ck_Ok p2_OL X LX 221 pl_s842 := ck_okq (cuts := []) (f := 82) ⟨pl_nmu, ck_E1 (ck_S1 pl_s233_s (ck_S1 pl_s227_s ck_S0)) ck_E0⟩ (by decide +kernel)
set_option maxRecDepth 100000 in
/-- GlacierMail.meeting -/
noncomputable def pl_s843 : ck_Sum := (((8 : Nat), (2 : Nat), (12 : Nat)), (249 : Nat), [.inr (.inr (.inl (1 : Nat))), .inl ((0 : Int), (23 : Int), []), .inl ((24 : Int), (2147483647 : Int), [])], ([], [], []), ([], []), [(.inl (3 : Nat), (249 : Nat), ([], [], []))])
set_option maxRecDepth 100000 in
theorem pl_s843_s {X : Int → Int} {LX : Nat} : ck_Ok p2_OL X LX 221 pl_s843 := ck_okq (cuts := []) (f := 82) ⟨pl_nmu, ck_E1 (ck_S1 pl_s233_s (ck_S1 pl_s230_s ck_S0)) ck_E0⟩ (by decide +kernel)
set_option maxRecDepth 100000 in
/-- GlacierMail.needUnlike -/
noncomputable def pl_s844 : ck_Sum := (((6 : Nat), (1 : Nat), (6 : Nat)), (249 : Nat), [.inr (.inr (.inl (1 : Nat))), .inl ((0 : Int), (23 : Int), []), .inl ((0 : Int), (23 : Int), [])], ([], [], []), ([], []), [(.inr none, (249 : Nat), ([], [], [])), (.inl (0 : Nat), (249 : Nat), ([], [], []))])
set_option maxRecDepth 100000 in
theorem pl_s844_s {X : Int → Int} {LX : Nat} : ck_Ok p2_OL X LX 153 pl_s844 := ck_okq (cuts := []) (f := 78) ⟨pl_nmu, ck_E0⟩ (by decide +kernel)
set_option maxRecDepth 100000 in
/-- GlacierMail.outs -/
noncomputable def pl_s847 : ck_Sum := (((7 : Nat), (1 : Nat), (6 : Nat)), (249 : Nat), [.inr (.inr (.inl (1 : Nat))), .inl ((-2147483648 : Int), (-1 : Int), [])], ([], [], []), ([], []), [(.inl (0 : Nat), (249 : Nat), ([], [], []))])
set_option maxRecDepth 100000 in
theorem pl_s847_s {X : Int → Int} {LX : Nat} : ck_Ok p2_OL X LX 223 pl_s847 := ck_okq (cuts := []) (f := 76) ⟨pl_nmu, ck_E1 (ck_S1 pl_s145_s ck_S0) ck_E0⟩ (by decide +kernel)
set_option maxRecDepth 100000 in
/-- GlacierMail.outs -/
noncomputable def pl_s848 : ck_Sum := (((7 : Nat), (1 : Nat), (6 : Nat)), (249 : Nat), [.inr (.inr (.inl (1 : Nat))), .inl ((300 : Int), (2147483647 : Int), [])], ([], [], []), ([], []), [(.inl (0 : Nat), (249 : Nat), ([], [], []))])
set_option maxRecDepth 100000 in
theorem pl_s848_s {X : Int → Int} {LX : Nat} : ck_Ok p2_OL X LX 223 pl_s848 := ck_okq (cuts := []) (f := 76) ⟨pl_nmu, ck_E1 (ck_S1 pl_s147_s ck_S0) ck_E0⟩ (by decide +kernel)
set_option maxRecDepth 100000 in
/-- GlacierMail.outIn -/
noncomputable def pl_s849 : ck_Sum := (((1 : Nat), (0 : Nat), (0 : Nat)), (249 : Nat), [.inr (.inr (.inl (1 : Nat))), .inl ((0 : Int), (299 : Int), []), .inl (ck_one 1)], ([], [], []), ([], []), [(.inr (some (.inl ((-2147483648 : Int), (2147483647 : Int), []))), (249 : Nat), ([], [], []))])
set_option maxRecDepth 100000 in
theorem pl_s849_s {X : Int → Int} {LX : Nat} : ck_Ok p2_OL X LX 47 pl_s849 := ck_okq (cuts := [((5 : Nat), [some (.inr (.inr (.inl (1 : Nat)))), some (.inl ((0 : Int), (299 : Int), [])), some (.inl (ck_one 1)), some (.inl ((-2147483648 : Int), (2147483647 : Int), [])), some (.inl ((0 : Int), (24 : Int), []))], ([], [], []), (100 : Nat), .inl (4 : Nat), true)]) (f := 162) ⟨pl_nmu, ck_E1 (ck_S1 pl_s201_s ck_S0) (ck_E1 (ck_S1 pl_s218_s ck_S0) ck_E0)⟩ (by decide +kernel)
set_option maxRecDepth 100000 in
/-- GlacierMail.outAheadOf -/
noncomputable def pl_s851 : ck_Sum := (((1 : Nat), (0 : Nat), (0 : Nat)), (249 : Nat), [.inr (.inr (.inl (1 : Nat))), .inl ((0 : Int), (23 : Int), [])], ([], [], []), ([], []), [(.inr (some (.inl ((-2147483648 : Int), (2147483647 : Int), []))), (249 : Nat), ([], [], []))])
set_option maxRecDepth 100000 in
theorem pl_s851_s {X : Int → Int} {LX : Nat} : ck_Ok p2_OL X LX 53 pl_s851 := ck_okq (cuts := [((15 : Nat), [some (.inr (.inr (.inl (1 : Nat)))), some (.inl ((0 : Int), (23 : Int), [])), some (.inl ((-2147483648 : Int), (299 : Int), [])), some (.inl ((-2147483648 : Int), (2147483647 : Int), [])), some (.inl ((0 : Int), (24 : Int), [])), none, none], ([], [], []), (100 : Nat), .inl (4 : Nat), true)]) (f := 214) ⟨pl_nmu, ck_E1 (ck_S1 pl_s218_s ck_S0) (ck_E1 (ck_S1 pl_s201_s ck_S0) ck_E0)⟩ (by decide +kernel)
set_option maxRecDepth 100000 in
/-- GlacierMail.streams -/
noncomputable def pl_s853 : ck_Sum := (((7 : Nat), (1 : Nat), (6 : Nat)), (249 : Nat), [.inr (.inr (.inl (1 : Nat))), .inl ((-2147483648 : Int), (-1 : Int), []), .inl ((0 : Int), (1 : Int), [])], ([], [], []), ([], []), [(.inl (0 : Nat), (249 : Nat), ([], [], []))])
set_option maxRecDepth 100000 in
theorem pl_s853_s {X : Int → Int} {LX : Nat} : ck_Ok p2_OL X LX 225 pl_s853 := ck_okq (cuts := []) (f := 76) ⟨pl_nmu, ck_E1 (ck_S1 pl_s145_s ck_S0) ck_E0⟩ (by decide +kernel)
set_option maxRecDepth 100000 in
/-- GlacierMail.streams -/
noncomputable def pl_s854 : ck_Sum := (((7 : Nat), (1 : Nat), (6 : Nat)), (249 : Nat), [.inr (.inr (.inl (1 : Nat))), .inl ((300 : Int), (2147483647 : Int), []), .inl ((0 : Int), (1 : Int), [])], ([], [], []), ([], []), [(.inl (0 : Nat), (249 : Nat), ([], [], []))])
set_option maxRecDepth 100000 in
theorem pl_s854_s {X : Int → Int} {LX : Nat} : ck_Ok p2_OL X LX 225 pl_s854 := ck_okq (cuts := []) (f := 76) ⟨pl_nmu, ck_E1 (ck_S1 pl_s147_s ck_S0) ck_E0⟩ (by decide +kernel)
set_option maxRecDepth 100000 in
/-- GlacierMail.range -/
noncomputable def pl_s856 : ck_Sum := (((8 : Nat), (1 : Nat), (6 : Nat)), (249 : Nat), [.inr (.inr (.inl (1 : Nat))), .inl ((-2147483648 : Int), (-1 : Int), []), .inl ((-2147483648 : Int), (2147483647 : Int), [])], ([], [], []), ([], []), [(.inl (3 : Nat), (249 : Nat), ([], [], []))])
set_option maxRecDepth 100000 in
theorem pl_s856_s {X : Int → Int} {LX : Nat} : ck_Ok p2_OL X LX 227 pl_s856 := ck_okq (cuts := []) (f := 76) ⟨pl_nmu, ck_E1 (ck_S1 pl_s153_s ck_S0) ck_E0⟩ (by decide +kernel)
set_option maxRecDepth 100000 in
/-- GlacierMail.range -/
noncomputable def pl_s857 : ck_Sum := (((8 : Nat), (1 : Nat), (6 : Nat)), (249 : Nat), [.inr (.inr (.inl (1 : Nat))), .inl ((6 : Int), (2147483647 : Int), []), .inl ((-2147483648 : Int), (2147483647 : Int), [])], ([], [], []), ([], []), [(.inl (3 : Nat), (249 : Nat), ([], [], []))])
set_option maxRecDepth 100000 in
theorem pl_s857_s {X : Int → Int} {LX : Nat} : ck_Ok p2_OL X LX 227 pl_s857 := ck_okq (cuts := []) (f := 76) ⟨pl_nmu, ck_E1 (ck_S1 pl_s156_s ck_S0) ck_E0⟩ (by decide +kernel)
end
/-! 78r86a12.sl -/
section
/-! EVERY CALL OF THE CLASS ENDS, under a law (laid by wip/am/p2l.py). -/
set_option maxRecDepth 100000 in
/-- GlacierMail.range -/
noncomputable def pl_s858 : ck_Sum := (((8 : Nat), (2 : Nat), (12 : Nat)), (249 : Nat), [.inr (.inr (.inl (1 : Nat))), .inl ((0 : Int), (5 : Int), []), .inl ((-2147483648 : Int), (-1 : Int), [])], ([], [], []), ([], []), [(.inl (3 : Nat), (249 : Nat), ([], [], [])), (.inl (0 : Nat), (249 : Nat), ([], [], []))])
set_option maxRecDepth 100000 in
theorem pl_s858_s {X : Int → Int} {LX : Nat} : ck_Ok p2_OL X LX 227 pl_s858 := ck_okq (cuts := []) (f := 82) ⟨pl_nmu, ck_E1 (ck_S1 pl_s159_s ck_S0) (ck_E1 (ck_S1 pl_s145_s ck_S0) ck_E0)⟩ (by decide +kernel)
set_option maxRecDepth 100000 in
/-- GlacierMail.range -/
noncomputable def pl_s859 : ck_Sum := (((8 : Nat), (2 : Nat), (12 : Nat)), (249 : Nat), [.inr (.inr (.inl (1 : Nat))), .inl ((0 : Int), (5 : Int), []), .inl ((300 : Int), (2147483647 : Int), [])], ([], [], []), ([], []), [(.inl (3 : Nat), (249 : Nat), ([], [], [])), (.inl (0 : Nat), (249 : Nat), ([], [], []))])
set_option maxRecDepth 100000 in
theorem pl_s859_s {X : Int → Int} {LX : Nat} : ck_Ok p2_OL X LX 227 pl_s859 := ck_okq (cuts := []) (f := 82) ⟨pl_nmu, ck_E1 (ck_S1 pl_s159_s ck_S0) (ck_E1 (ck_S1 pl_s147_s ck_S0) ck_E0)⟩ (by decide +kernel)
set_option maxRecDepth 100000 in
/-- GlacierMail.swiftest -/
noncomputable def pl_s861 : ck_Sum := (((8 : Nat), (1 : Nat), (6 : Nat)), (249 : Nat), [.inr (.inr (.inl (1 : Nat))), .inl ((-2147483648 : Int), (-1 : Int), []), .inl ((-2147483648 : Int), (2147483647 : Int), [])], ([], [], []), ([], []), [(.inl (3 : Nat), (249 : Nat), ([], [], []))])
set_option maxRecDepth 100000 in
theorem pl_s861_s {X : Int → Int} {LX : Nat} : ck_Ok p2_OL X LX 229 pl_s861 := ck_okq (cuts := []) (f := 76) ⟨pl_nmu, ck_E1 (ck_S1 pl_s161_s ck_S0) ck_E0⟩ (by decide +kernel)
set_option maxRecDepth 100000 in
/-- GlacierMail.swiftest -/
noncomputable def pl_s862 : ck_Sum := (((8 : Nat), (1 : Nat), (6 : Nat)), (249 : Nat), [.inr (.inr (.inl (1 : Nat))), .inl ((99 : Int), (2147483647 : Int), []), .inl ((-2147483648 : Int), (2147483647 : Int), [])], ([], [], []), ([], []), [(.inl (3 : Nat), (249 : Nat), ([], [], []))])
set_option maxRecDepth 100000 in
theorem pl_s862_s {X : Int → Int} {LX : Nat} : ck_Ok p2_OL X LX 229 pl_s862 := ck_okq (cuts := []) (f := 76) ⟨pl_nmu, ck_E1 (ck_S1 pl_s164_s ck_S0) ck_E0⟩ (by decide +kernel)
set_option maxRecDepth 100000 in
/-- GlacierMail.swiftest -/
noncomputable def pl_s863 : ck_Sum := (((8 : Nat), (2 : Nat), (12 : Nat)), (249 : Nat), [.inr (.inr (.inl (1 : Nat))), .inl ((0 : Int), (98 : Int), []), .inl ((-2147483648 : Int), (-1 : Int), [])], ([], [], []), ([], []), [(.inl (3 : Nat), (249 : Nat), ([], [], [])), (.inl (0 : Nat), (249 : Nat), ([], [], []))])
set_option maxRecDepth 100000 in
theorem pl_s863_s {X : Int → Int} {LX : Nat} : ck_Ok p2_OL X LX 229 pl_s863 := ck_okq (cuts := []) (f := 82) ⟨pl_nmu, ck_E1 (ck_S1 pl_s167_s ck_S0) (ck_E1 (ck_S1 pl_s145_s ck_S0) ck_E0)⟩ (by decide +kernel)
set_option maxRecDepth 100000 in
/-- GlacierMail.swiftest -/
noncomputable def pl_s864 : ck_Sum := (((8 : Nat), (2 : Nat), (12 : Nat)), (249 : Nat), [.inr (.inr (.inl (1 : Nat))), .inl ((0 : Int), (98 : Int), []), .inl ((300 : Int), (2147483647 : Int), [])], ([], [], []), ([], []), [(.inl (3 : Nat), (249 : Nat), ([], [], [])), (.inl (0 : Nat), (249 : Nat), ([], [], []))])
set_option maxRecDepth 100000 in
theorem pl_s864_s {X : Int → Int} {LX : Nat} : ck_Ok p2_OL X LX 229 pl_s864 := ck_okq (cuts := []) (f := 82) ⟨pl_nmu, ck_E1 (ck_S1 pl_s167_s ck_S0) (ck_E1 (ck_S1 pl_s147_s ck_S0) ck_E0)⟩ (by decide +kernel)
set_option maxRecDepth 100000 in
/-- GlacierMail.bare -/
noncomputable def pl_s866 : ck_Sum := (((7 : Nat), (1 : Nat), (6 : Nat)), (249 : Nat), [.inr (.inr (.inl (1 : Nat))), .inl ((-2147483648 : Int), (-1 : Int), [])], ([], [], []), ([], []), [(.inl (0 : Nat), (249 : Nat), ([], [], []))])
set_option maxRecDepth 100000 in
theorem pl_s866_s {X : Int → Int} {LX : Nat} : ck_Ok p2_OL X LX 231 pl_s866 := ck_okq (cuts := []) (f := 76) ⟨pl_nmu, ck_E1 (ck_S1 pl_s145_s ck_S0) ck_E0⟩ (by decide +kernel)
set_option maxRecDepth 100000 in
/-- GlacierMail.bare -/
noncomputable def pl_s867 : ck_Sum := (((7 : Nat), (1 : Nat), (6 : Nat)), (249 : Nat), [.inr (.inr (.inl (1 : Nat))), .inl ((300 : Int), (2147483647 : Int), [])], ([], [], []), ([], []), [(.inl (0 : Nat), (249 : Nat), ([], [], []))])
set_option maxRecDepth 100000 in
theorem pl_s867_s {X : Int → Int} {LX : Nat} : ck_Ok p2_OL X LX 231 pl_s867 := ck_okq (cuts := []) (f := 76) ⟨pl_nmu, ck_E1 (ck_S1 pl_s147_s ck_S0) ck_E0⟩ (by decide +kernel)
set_option maxRecDepth 100000 in
/-- GlacierMail$Rows.get -/
noncomputable def pl_s869 : ck_Sum := (((0 : Nat), (0 : Nat), (0 : Nat)), (249 : Nat), [.inr (.inr (.inl (14 : Nat))), .inl ((-2147483648 : Int), (2147483647 : Int), []), .inl ((-2147483648 : Int), (2147483647 : Int), [])], ([], [], []), ([], []), [(.inr (some (.inl ((-1 : Int), (299 : Int), []))), (249 : Nat), ([], [], []))])
set_option maxRecDepth 100000 in
theorem pl_s869_s {X : Int → Int} {LX : Nat} : ck_Ok p2_OL X LX 10 pl_s869 := ck_okq (cuts := []) (f := 114) ⟨pl_nmu, ck_E0⟩ (by decide +kernel)
set_option maxRecDepth 100000 in
/-- GlacierMail.log -/
noncomputable def pl_s870 : ck_Sum := (((6 : Nat), (1 : Nat), (6 : Nat)), (249 : Nat), [.inr (.inr (.inl (1 : Nat))), .inl ((-2147483648 : Int), (-1 : Int), []), .inl ((-2147483648 : Int), (2147483647 : Int), [])], ([], [], []), ([], []), [(.inl (4 : Nat), (249 : Nat), ([], [], [])), (.inr (some (.inl ((-1 : Int), (299 : Int), []))), (249 : Nat), ([], [], []))])
set_option maxRecDepth 100000 in
theorem pl_s870_s {X : Int → Int} {LX : Nat} : ck_Ok p2_OL X LX 233 pl_s870 := ck_okq (cuts := []) (f := 94) ⟨pl_nmu, ck_E1 (ck_S1 pl_s869_s ck_S0) ck_E0⟩ (by decide +kernel)
set_option maxRecDepth 100000 in
/-- GlacierMail.log -/
noncomputable def pl_s871 : ck_Sum := (((6 : Nat), (1 : Nat), (6 : Nat)), (249 : Nat), [.inr (.inr (.inl (1 : Nat))), .inl ((24 : Int), (2147483647 : Int), []), .inl ((-2147483648 : Int), (2147483647 : Int), [])], ([], [], []), ([], []), [(.inl (4 : Nat), (249 : Nat), ([], [], [])), (.inr (some (.inl ((-1 : Int), (299 : Int), []))), (249 : Nat), ([], [], []))])
set_option maxRecDepth 100000 in
theorem pl_s871_s {X : Int → Int} {LX : Nat} : ck_Ok p2_OL X LX 233 pl_s871 := ck_okq (cuts := []) (f := 94) ⟨pl_nmu, ck_E1 (ck_S1 pl_s869_s ck_S0) ck_E0⟩ (by decide +kernel)
set_option maxRecDepth 100000 in
/-- GlacierMail.log -/
noncomputable def pl_s872 : ck_Sum := (((6 : Nat), (1 : Nat), (6 : Nat)), (249 : Nat), [.inr (.inr (.inl (1 : Nat))), .inl ((0 : Int), (23 : Int), []), .inl ((-2147483648 : Int), (-1 : Int), [])], ([], [], []), ([], []), [(.inl (4 : Nat), (249 : Nat), ([], [], []))])
set_option maxRecDepth 100000 in
theorem pl_s872_s {X : Int → Int} {LX : Nat} : ck_Ok p2_OL X LX 233 pl_s872 := ck_okq (cuts := []) (f := 76) ⟨pl_nmu, ck_E0⟩ (by decide +kernel)
set_option maxRecDepth 100000 in
/-- GlacierMail.log -/
noncomputable def pl_s873 : ck_Sum := (((6 : Nat), (1 : Nat), (6 : Nat)), (249 : Nat), [.inr (.inr (.inl (1 : Nat))), .inl ((0 : Int), (23 : Int), []), .inl ((10 : Int), (2147483647 : Int), [])], ([], [], []), ([], []), [(.inl (4 : Nat), (249 : Nat), ([], [], []))])
set_option maxRecDepth 100000 in
theorem pl_s873_s {X : Int → Int} {LX : Nat} : ck_Ok p2_OL X LX 233 pl_s873 := ck_okq (cuts := []) (f := 82) ⟨pl_nmu, ck_E0⟩ (by decide +kernel)
set_option maxRecDepth 100000 in
/-- GlacierMail.log -/
noncomputable def pl_s874 : ck_Sum := (((6 : Nat), (1 : Nat), (6 : Nat)), (249 : Nat), [.inr (.inr (.inl (1 : Nat))), .inl ((0 : Int), (23 : Int), []), .inl ((0 : Int), (9 : Int), [])], ([], [], []), ([], []), [(.inr (some (.inl ((-1 : Int), (299 : Int), []))), (249 : Nat), ([], [], [])), (.inl (4 : Nat), (249 : Nat), ([], [], []))])
set_option maxRecDepth 100000 in
theorem pl_s874_s {X : Int → Int} {LX : Nat} : ck_Ok p2_OL X LX 233 pl_s874 := ck_okq (cuts := []) (f := 94) ⟨pl_nmu, ck_E1 (ck_S1 pl_s869_s ck_S0) ck_E0⟩ (by decide +kernel)
set_option maxRecDepth 100000 in
/-- GlacierMail$History.at -/
noncomputable def pl_s875 : ck_Sum := (((0 : Nat), (0 : Nat), (0 : Nat)), (249 : Nat), [.inr (.inr (.inl (42 : Nat))), .inl ((0 : Int), (11 : Int), [])], ([], [], []), ([], []), [(.inr (some (.inr (.inr (.inl (44 : Nat))))), (249 : Nat), ([], [], [])), (.inr (some (.inr (.inr (.inl (187 : Nat))))), (249 : Nat), ([], [], [])), (.inr (some (.inr (.inr (.inl (174 : Nat))))), (249 : Nat), ([], [], [])), (.inr (some (.inr (.inr (.inl (161 : Nat))))), (249 : Nat), ([], [], [])), (.inr (some (.inr (.inr (.inl (148 : Nat))))), (249 : Nat), ([], [], [])), (.inr (some (.inr (.inr (.inl (135 : Nat))))), (249 : Nat), ([], [], [])), (.inr (some (.inr (.inr (.inl (122 : Nat))))), (249 : Nat), ([], [], [])), (.inr (some (.inr (.inr (.inl (109 : Nat))))), (249 : Nat), ([], [], [])), (.inr (some (.inr (.inr (.inl (96 : Nat))))), (249 : Nat), ([], [], [])), (.inr (some (.inr (.inr (.inl (83 : Nat))))), (249 : Nat), ([], [], [])), (.inr (some (.inr (.inr (.inl (70 : Nat))))), (249 : Nat), ([], [], [])), (.inr (some (.inr (.inr (.inl (57 : Nat))))), (249 : Nat), ([], [], []))])
set_option maxRecDepth 100000 in
theorem pl_s875_s {X : Int → Int} {LX : Nat} : ck_Ok p2_OL X LX 56 pl_s875 := ck_okq (cuts := []) (f := 96) ⟨pl_nmu, ck_E0⟩ (by decide +kernel)
set_option maxRecDepth 100000 in
/-- GlacierMail$Rows.copyFrom -/
noncomputable def pl_s876 : ck_Sum := (((1 : Nat), (0 : Nat), (0 : Nat)), (249 : Nat), [.inr (.inr (.inl (4 : Nat))), .inr (.inr (.inl (45 : Nat)))], ([], [], []), ([((4 : Nat), (3 : Int), (3 : Int)), ((5 : Nat), (0 : Int), (55 : Int))], []), [(.inr none, (249 : Nat), ([], [], []))])
set_option maxRecDepth 100000 in
theorem pl_s876_s {X : Int → Int} {LX : Nat} : ck_Ok p2_OL X LX 58 pl_s876 := ck_okq (cuts := []) (f := 114) ⟨pl_nmu, ck_E0⟩ (by decide +kernel)
set_option maxRecDepth 100000 in
/-- GlacierMail$Rows.copyFrom -/
noncomputable def pl_s877 : ck_Sum := (((1 : Nat), (0 : Nat), (0 : Nat)), (249 : Nat), [.inr (.inr (.inl (6 : Nat))), .inr (.inr (.inl (47 : Nat)))], ([], [], []), ([((6 : Nat), (3 : Int), (3 : Int)), ((7 : Nat), (0 : Int), (23 : Int))], []), [(.inr none, (249 : Nat), ([], [], []))])
set_option maxRecDepth 100000 in
theorem pl_s877_s {X : Int → Int} {LX : Nat} : ck_Ok p2_OL X LX 58 pl_s877 := ck_okq (cuts := []) (f := 114) ⟨pl_nmu, ck_E0⟩ (by decide +kernel)
set_option maxRecDepth 100000 in
/-- GlacierMail$Rows.copyFrom -/
noncomputable def pl_s878 : ck_Sum := (((1 : Nat), (0 : Nat), (0 : Nat)), (249 : Nat), [.inr (.inr (.inl (8 : Nat))), .inr (.inr (.inl (49 : Nat)))], ([], [], []), ([((8 : Nat), (3 : Int), (3 : Int)), ((9 : Nat), (0 : Int), (23 : Int))], []), [(.inr none, (249 : Nat), ([], [], []))])
set_option maxRecDepth 100000 in
theorem pl_s878_s {X : Int → Int} {LX : Nat} : ck_Ok p2_OL X LX 58 pl_s878 := ck_okq (cuts := []) (f := 114) ⟨pl_nmu, ck_E0⟩ (by decide +kernel)
set_option maxRecDepth 100000 in
/-- GlacierMail$Rows.copyFrom -/
noncomputable def pl_s879 : ck_Sum := (((1 : Nat), (0 : Nat), (0 : Nat)), (249 : Nat), [.inr (.inr (.inl (10 : Nat))), .inr (.inr (.inl (51 : Nat)))], ([], [], []), ([((10 : Nat), (3 : Int), (3 : Int)), ((11 : Nat), (0 : Int), (167 : Int))], []), [(.inr none, (249 : Nat), ([], [], []))])
set_option maxRecDepth 100000 in
theorem pl_s879_s {X : Int → Int} {LX : Nat} : ck_Ok p2_OL X LX 58 pl_s879 := ck_okq (cuts := []) (f := 114) ⟨pl_nmu, ck_E0⟩ (by decide +kernel)
set_option maxRecDepth 100000 in
/-- GlacierMail$Rows.copyFrom -/
noncomputable def pl_s880 : ck_Sum := (((1 : Nat), (0 : Nat), (0 : Nat)), (249 : Nat), [.inr (.inr (.inl (12 : Nat))), .inr (.inr (.inl (53 : Nat)))], ([], [], []), ([((12 : Nat), (3 : Int), (3 : Int)), ((13 : Nat), (0 : Int), (35 : Int))], []), [(.inr none, (249 : Nat), ([], [], []))])
set_option maxRecDepth 100000 in
theorem pl_s880_s {X : Int → Int} {LX : Nat} : ck_Ok p2_OL X LX 58 pl_s880 := ck_okq (cuts := []) (f := 114) ⟨pl_nmu, ck_E0⟩ (by decide +kernel)
set_option maxRecDepth 100000 in
/-- GlacierMail$Rows.copyFrom -/
noncomputable def pl_s881 : ck_Sum := (((1 : Nat), (0 : Nat), (0 : Nat)), (249 : Nat), [.inr (.inr (.inl (14 : Nat))), .inr (.inr (.inl (55 : Nat)))], ([], [], []), ([((14 : Nat), (3 : Int), (3 : Int)), ((15 : Nat), (0 : Int), (71 : Int))], []), [(.inr none, (249 : Nat), ([], [], []))])
set_option maxRecDepth 100000 in
theorem pl_s881_s {X : Int → Int} {LX : Nat} : ck_Ok p2_OL X LX 58 pl_s881 := ck_okq (cuts := []) (f := 114) ⟨pl_nmu, ck_E0⟩ (by decide +kernel)
set_option maxRecDepth 100000 in
/-- GlacierMail$State.copyFrom -/
noncomputable def pl_s882 : ck_Sum := (((2 : Nat), (0 : Nat), (0 : Nat)), (249 : Nat), [.inr (.inr (.inl (3 : Nat))), .inr (.inr (.inl (44 : Nat)))], ([], [((3 : Nat), (8 : Int), (246 : Nat)), ((44 : Nat), (8 : Int), (100044 : Nat))], []), (zl1, [((3 : Nat), (8 : Int))]), [(.inr none, (249 : Nat), ([], [((3 : Nat), (8 : Int), (100044 : Nat))], []))])
set_option maxRecDepth 100000 in
theorem pl_s882_s {X : Int → Int} {LX : Nat} : ck_Ok p2_OL X LX 57 pl_s882 := ck_okq (cuts := []) (f := 204) ⟨pl_nmu, ck_E1 (ck_S1 pl_s876_s (ck_S1 pl_s877_s (ck_S1 pl_s878_s (ck_S1 pl_s879_s (ck_S1 pl_s880_s (ck_S1 pl_s881_s ck_S0)))))) ck_E0⟩ (by decide +kernel)
set_option maxRecDepth 100000 in
/-- GlacierMail$Rows.copyFrom -/
noncomputable def pl_s883 : ck_Sum := (((1 : Nat), (0 : Nat), (0 : Nat)), (249 : Nat), [.inr (.inr (.inl (4 : Nat))), .inr (.inr (.inl (58 : Nat)))], ([], [], []), ([((4 : Nat), (3 : Int), (3 : Int)), ((5 : Nat), (0 : Int), (55 : Int))], []), [(.inr none, (249 : Nat), ([], [], []))])
set_option maxRecDepth 100000 in
theorem pl_s883_s {X : Int → Int} {LX : Nat} : ck_Ok p2_OL X LX 58 pl_s883 := ck_okq (cuts := []) (f := 114) ⟨pl_nmu, ck_E0⟩ (by decide +kernel)
set_option maxRecDepth 100000 in
/-- GlacierMail$Rows.copyFrom -/
noncomputable def pl_s884 : ck_Sum := (((1 : Nat), (0 : Nat), (0 : Nat)), (249 : Nat), [.inr (.inr (.inl (6 : Nat))), .inr (.inr (.inl (60 : Nat)))], ([], [], []), ([((6 : Nat), (3 : Int), (3 : Int)), ((7 : Nat), (0 : Int), (23 : Int))], []), [(.inr none, (249 : Nat), ([], [], []))])
set_option maxRecDepth 100000 in
theorem pl_s884_s {X : Int → Int} {LX : Nat} : ck_Ok p2_OL X LX 58 pl_s884 := ck_okq (cuts := []) (f := 114) ⟨pl_nmu, ck_E0⟩ (by decide +kernel)
set_option maxRecDepth 100000 in
/-- GlacierMail$Rows.copyFrom -/
noncomputable def pl_s885 : ck_Sum := (((1 : Nat), (0 : Nat), (0 : Nat)), (249 : Nat), [.inr (.inr (.inl (8 : Nat))), .inr (.inr (.inl (62 : Nat)))], ([], [], []), ([((8 : Nat), (3 : Int), (3 : Int)), ((9 : Nat), (0 : Int), (23 : Int))], []), [(.inr none, (249 : Nat), ([], [], []))])
set_option maxRecDepth 100000 in
theorem pl_s885_s {X : Int → Int} {LX : Nat} : ck_Ok p2_OL X LX 58 pl_s885 := ck_okq (cuts := []) (f := 114) ⟨pl_nmu, ck_E0⟩ (by decide +kernel)
set_option maxRecDepth 100000 in
/-- GlacierMail$Rows.copyFrom -/
noncomputable def pl_s886 : ck_Sum := (((1 : Nat), (0 : Nat), (0 : Nat)), (249 : Nat), [.inr (.inr (.inl (10 : Nat))), .inr (.inr (.inl (64 : Nat)))], ([], [], []), ([((10 : Nat), (3 : Int), (3 : Int)), ((11 : Nat), (0 : Int), (167 : Int))], []), [(.inr none, (249 : Nat), ([], [], []))])
set_option maxRecDepth 100000 in
theorem pl_s886_s {X : Int → Int} {LX : Nat} : ck_Ok p2_OL X LX 58 pl_s886 := ck_okq (cuts := []) (f := 114) ⟨pl_nmu, ck_E0⟩ (by decide +kernel)
set_option maxRecDepth 100000 in
/-- GlacierMail$Rows.copyFrom -/
noncomputable def pl_s887 : ck_Sum := (((1 : Nat), (0 : Nat), (0 : Nat)), (249 : Nat), [.inr (.inr (.inl (12 : Nat))), .inr (.inr (.inl (66 : Nat)))], ([], [], []), ([((12 : Nat), (3 : Int), (3 : Int)), ((13 : Nat), (0 : Int), (35 : Int))], []), [(.inr none, (249 : Nat), ([], [], []))])
set_option maxRecDepth 100000 in
theorem pl_s887_s {X : Int → Int} {LX : Nat} : ck_Ok p2_OL X LX 58 pl_s887 := ck_okq (cuts := []) (f := 114) ⟨pl_nmu, ck_E0⟩ (by decide +kernel)
set_option maxRecDepth 100000 in
/-- GlacierMail$Rows.copyFrom -/
noncomputable def pl_s888 : ck_Sum := (((1 : Nat), (0 : Nat), (0 : Nat)), (249 : Nat), [.inr (.inr (.inl (14 : Nat))), .inr (.inr (.inl (68 : Nat)))], ([], [], []), ([((14 : Nat), (3 : Int), (3 : Int)), ((15 : Nat), (0 : Int), (71 : Int))], []), [(.inr none, (249 : Nat), ([], [], []))])
set_option maxRecDepth 100000 in
theorem pl_s888_s {X : Int → Int} {LX : Nat} : ck_Ok p2_OL X LX 58 pl_s888 := ck_okq (cuts := []) (f := 114) ⟨pl_nmu, ck_E0⟩ (by decide +kernel)
set_option maxRecDepth 100000 in
/-- GlacierMail$State.copyFrom -/
noncomputable def pl_s889 : ck_Sum := (((2 : Nat), (0 : Nat), (0 : Nat)), (249 : Nat), [.inr (.inr (.inl (3 : Nat))), .inr (.inr (.inl (57 : Nat)))], ([], [((3 : Nat), (8 : Int), (246 : Nat)), ((57 : Nat), (8 : Int), (100057 : Nat))], []), (zl1, [((3 : Nat), (8 : Int))]), [(.inr none, (249 : Nat), ([], [((3 : Nat), (8 : Int), (100057 : Nat))], []))])
set_option maxRecDepth 100000 in
theorem pl_s889_s {X : Int → Int} {LX : Nat} : ck_Ok p2_OL X LX 57 pl_s889 := ck_okq (cuts := []) (f := 204) ⟨pl_nmu, ck_E1 (ck_S1 pl_s883_s (ck_S1 pl_s884_s (ck_S1 pl_s885_s (ck_S1 pl_s886_s (ck_S1 pl_s887_s (ck_S1 pl_s888_s ck_S0)))))) ck_E0⟩ (by decide +kernel)
set_option maxRecDepth 100000 in
/-- GlacierMail$Rows.copyFrom -/
noncomputable def pl_s890 : ck_Sum := (((1 : Nat), (0 : Nat), (0 : Nat)), (249 : Nat), [.inr (.inr (.inl (4 : Nat))), .inr (.inr (.inl (71 : Nat)))], ([], [], []), ([((4 : Nat), (3 : Int), (3 : Int)), ((5 : Nat), (0 : Int), (55 : Int))], []), [(.inr none, (249 : Nat), ([], [], []))])
set_option maxRecDepth 100000 in
theorem pl_s890_s {X : Int → Int} {LX : Nat} : ck_Ok p2_OL X LX 58 pl_s890 := ck_okq (cuts := []) (f := 114) ⟨pl_nmu, ck_E0⟩ (by decide +kernel)
set_option maxRecDepth 100000 in
/-- GlacierMail$Rows.copyFrom -/
noncomputable def pl_s891 : ck_Sum := (((1 : Nat), (0 : Nat), (0 : Nat)), (249 : Nat), [.inr (.inr (.inl (6 : Nat))), .inr (.inr (.inl (73 : Nat)))], ([], [], []), ([((6 : Nat), (3 : Int), (3 : Int)), ((7 : Nat), (0 : Int), (23 : Int))], []), [(.inr none, (249 : Nat), ([], [], []))])
set_option maxRecDepth 100000 in
theorem pl_s891_s {X : Int → Int} {LX : Nat} : ck_Ok p2_OL X LX 58 pl_s891 := ck_okq (cuts := []) (f := 114) ⟨pl_nmu, ck_E0⟩ (by decide +kernel)
set_option maxRecDepth 100000 in
/-- GlacierMail$Rows.copyFrom -/
noncomputable def pl_s892 : ck_Sum := (((1 : Nat), (0 : Nat), (0 : Nat)), (249 : Nat), [.inr (.inr (.inl (8 : Nat))), .inr (.inr (.inl (75 : Nat)))], ([], [], []), ([((8 : Nat), (3 : Int), (3 : Int)), ((9 : Nat), (0 : Int), (23 : Int))], []), [(.inr none, (249 : Nat), ([], [], []))])
set_option maxRecDepth 100000 in
theorem pl_s892_s {X : Int → Int} {LX : Nat} : ck_Ok p2_OL X LX 58 pl_s892 := ck_okq (cuts := []) (f := 114) ⟨pl_nmu, ck_E0⟩ (by decide +kernel)
set_option maxRecDepth 100000 in
/-- GlacierMail$Rows.copyFrom -/
noncomputable def pl_s893 : ck_Sum := (((1 : Nat), (0 : Nat), (0 : Nat)), (249 : Nat), [.inr (.inr (.inl (10 : Nat))), .inr (.inr (.inl (77 : Nat)))], ([], [], []), ([((10 : Nat), (3 : Int), (3 : Int)), ((11 : Nat), (0 : Int), (167 : Int))], []), [(.inr none, (249 : Nat), ([], [], []))])
set_option maxRecDepth 100000 in
theorem pl_s893_s {X : Int → Int} {LX : Nat} : ck_Ok p2_OL X LX 58 pl_s893 := ck_okq (cuts := []) (f := 114) ⟨pl_nmu, ck_E0⟩ (by decide +kernel)
set_option maxRecDepth 100000 in
/-- GlacierMail$Rows.copyFrom -/
noncomputable def pl_s894 : ck_Sum := (((1 : Nat), (0 : Nat), (0 : Nat)), (249 : Nat), [.inr (.inr (.inl (12 : Nat))), .inr (.inr (.inl (79 : Nat)))], ([], [], []), ([((12 : Nat), (3 : Int), (3 : Int)), ((13 : Nat), (0 : Int), (35 : Int))], []), [(.inr none, (249 : Nat), ([], [], []))])
set_option maxRecDepth 100000 in
theorem pl_s894_s {X : Int → Int} {LX : Nat} : ck_Ok p2_OL X LX 58 pl_s894 := ck_okq (cuts := []) (f := 114) ⟨pl_nmu, ck_E0⟩ (by decide +kernel)
set_option maxRecDepth 100000 in
/-- GlacierMail$Rows.copyFrom -/
noncomputable def pl_s895 : ck_Sum := (((1 : Nat), (0 : Nat), (0 : Nat)), (249 : Nat), [.inr (.inr (.inl (14 : Nat))), .inr (.inr (.inl (81 : Nat)))], ([], [], []), ([((14 : Nat), (3 : Int), (3 : Int)), ((15 : Nat), (0 : Int), (71 : Int))], []), [(.inr none, (249 : Nat), ([], [], []))])
set_option maxRecDepth 100000 in
theorem pl_s895_s {X : Int → Int} {LX : Nat} : ck_Ok p2_OL X LX 58 pl_s895 := ck_okq (cuts := []) (f := 114) ⟨pl_nmu, ck_E0⟩ (by decide +kernel)
set_option maxRecDepth 100000 in
/-- GlacierMail$State.copyFrom -/
noncomputable def pl_s896 : ck_Sum := (((2 : Nat), (0 : Nat), (0 : Nat)), (249 : Nat), [.inr (.inr (.inl (3 : Nat))), .inr (.inr (.inl (70 : Nat)))], ([], [((3 : Nat), (8 : Int), (246 : Nat)), ((70 : Nat), (8 : Int), (100070 : Nat))], []), (zl1, [((3 : Nat), (8 : Int))]), [(.inr none, (249 : Nat), ([], [((3 : Nat), (8 : Int), (100070 : Nat))], []))])
set_option maxRecDepth 100000 in
theorem pl_s896_s {X : Int → Int} {LX : Nat} : ck_Ok p2_OL X LX 57 pl_s896 := ck_okq (cuts := []) (f := 204) ⟨pl_nmu, ck_E1 (ck_S1 pl_s890_s (ck_S1 pl_s891_s (ck_S1 pl_s892_s (ck_S1 pl_s893_s (ck_S1 pl_s894_s (ck_S1 pl_s895_s ck_S0)))))) ck_E0⟩ (by decide +kernel)
set_option maxRecDepth 100000 in
/-- GlacierMail$Rows.copyFrom -/
noncomputable def pl_s897 : ck_Sum := (((1 : Nat), (0 : Nat), (0 : Nat)), (249 : Nat), [.inr (.inr (.inl (4 : Nat))), .inr (.inr (.inl (84 : Nat)))], ([], [], []), ([((4 : Nat), (3 : Int), (3 : Int)), ((5 : Nat), (0 : Int), (55 : Int))], []), [(.inr none, (249 : Nat), ([], [], []))])
set_option maxRecDepth 100000 in
theorem pl_s897_s {X : Int → Int} {LX : Nat} : ck_Ok p2_OL X LX 58 pl_s897 := ck_okq (cuts := []) (f := 114) ⟨pl_nmu, ck_E0⟩ (by decide +kernel)
set_option maxRecDepth 100000 in
/-- GlacierMail$Rows.copyFrom -/
noncomputable def pl_s898 : ck_Sum := (((1 : Nat), (0 : Nat), (0 : Nat)), (249 : Nat), [.inr (.inr (.inl (6 : Nat))), .inr (.inr (.inl (86 : Nat)))], ([], [], []), ([((6 : Nat), (3 : Int), (3 : Int)), ((7 : Nat), (0 : Int), (23 : Int))], []), [(.inr none, (249 : Nat), ([], [], []))])
set_option maxRecDepth 100000 in
theorem pl_s898_s {X : Int → Int} {LX : Nat} : ck_Ok p2_OL X LX 58 pl_s898 := ck_okq (cuts := []) (f := 114) ⟨pl_nmu, ck_E0⟩ (by decide +kernel)
set_option maxRecDepth 100000 in
/-- GlacierMail$Rows.copyFrom -/
noncomputable def pl_s899 : ck_Sum := (((1 : Nat), (0 : Nat), (0 : Nat)), (249 : Nat), [.inr (.inr (.inl (8 : Nat))), .inr (.inr (.inl (88 : Nat)))], ([], [], []), ([((8 : Nat), (3 : Int), (3 : Int)), ((9 : Nat), (0 : Int), (23 : Int))], []), [(.inr none, (249 : Nat), ([], [], []))])
set_option maxRecDepth 100000 in
theorem pl_s899_s {X : Int → Int} {LX : Nat} : ck_Ok p2_OL X LX 58 pl_s899 := ck_okq (cuts := []) (f := 114) ⟨pl_nmu, ck_E0⟩ (by decide +kernel)
set_option maxRecDepth 100000 in
/-- GlacierMail$Rows.copyFrom -/
noncomputable def pl_s900 : ck_Sum := (((1 : Nat), (0 : Nat), (0 : Nat)), (249 : Nat), [.inr (.inr (.inl (10 : Nat))), .inr (.inr (.inl (90 : Nat)))], ([], [], []), ([((10 : Nat), (3 : Int), (3 : Int)), ((11 : Nat), (0 : Int), (167 : Int))], []), [(.inr none, (249 : Nat), ([], [], []))])
set_option maxRecDepth 100000 in
theorem pl_s900_s {X : Int → Int} {LX : Nat} : ck_Ok p2_OL X LX 58 pl_s900 := ck_okq (cuts := []) (f := 114) ⟨pl_nmu, ck_E0⟩ (by decide +kernel)
set_option maxRecDepth 100000 in
/-- GlacierMail$Rows.copyFrom -/
noncomputable def pl_s901 : ck_Sum := (((1 : Nat), (0 : Nat), (0 : Nat)), (249 : Nat), [.inr (.inr (.inl (12 : Nat))), .inr (.inr (.inl (92 : Nat)))], ([], [], []), ([((12 : Nat), (3 : Int), (3 : Int)), ((13 : Nat), (0 : Int), (35 : Int))], []), [(.inr none, (249 : Nat), ([], [], []))])
set_option maxRecDepth 100000 in
theorem pl_s901_s {X : Int → Int} {LX : Nat} : ck_Ok p2_OL X LX 58 pl_s901 := ck_okq (cuts := []) (f := 114) ⟨pl_nmu, ck_E0⟩ (by decide +kernel)
set_option maxRecDepth 100000 in
/-- GlacierMail$Rows.copyFrom -/
noncomputable def pl_s902 : ck_Sum := (((1 : Nat), (0 : Nat), (0 : Nat)), (249 : Nat), [.inr (.inr (.inl (14 : Nat))), .inr (.inr (.inl (94 : Nat)))], ([], [], []), ([((14 : Nat), (3 : Int), (3 : Int)), ((15 : Nat), (0 : Int), (71 : Int))], []), [(.inr none, (249 : Nat), ([], [], []))])
set_option maxRecDepth 100000 in
theorem pl_s902_s {X : Int → Int} {LX : Nat} : ck_Ok p2_OL X LX 58 pl_s902 := ck_okq (cuts := []) (f := 114) ⟨pl_nmu, ck_E0⟩ (by decide +kernel)
set_option maxRecDepth 100000 in
/-- GlacierMail$State.copyFrom -/
noncomputable def pl_s903 : ck_Sum := (((2 : Nat), (0 : Nat), (0 : Nat)), (249 : Nat), [.inr (.inr (.inl (3 : Nat))), .inr (.inr (.inl (83 : Nat)))], ([], [((3 : Nat), (8 : Int), (246 : Nat)), ((83 : Nat), (8 : Int), (100083 : Nat))], []), (zl1, [((3 : Nat), (8 : Int))]), [(.inr none, (249 : Nat), ([], [((3 : Nat), (8 : Int), (100083 : Nat))], []))])
set_option maxRecDepth 100000 in
theorem pl_s903_s {X : Int → Int} {LX : Nat} : ck_Ok p2_OL X LX 57 pl_s903 := ck_okq (cuts := []) (f := 204) ⟨pl_nmu, ck_E1 (ck_S1 pl_s897_s (ck_S1 pl_s898_s (ck_S1 pl_s899_s (ck_S1 pl_s900_s (ck_S1 pl_s901_s (ck_S1 pl_s902_s ck_S0)))))) ck_E0⟩ (by decide +kernel)
set_option maxRecDepth 100000 in
/-- GlacierMail$Rows.copyFrom -/
noncomputable def pl_s904 : ck_Sum := (((1 : Nat), (0 : Nat), (0 : Nat)), (249 : Nat), [.inr (.inr (.inl (4 : Nat))), .inr (.inr (.inl (97 : Nat)))], ([], [], []), ([((4 : Nat), (3 : Int), (3 : Int)), ((5 : Nat), (0 : Int), (55 : Int))], []), [(.inr none, (249 : Nat), ([], [], []))])
set_option maxRecDepth 100000 in
theorem pl_s904_s {X : Int → Int} {LX : Nat} : ck_Ok p2_OL X LX 58 pl_s904 := ck_okq (cuts := []) (f := 114) ⟨pl_nmu, ck_E0⟩ (by decide +kernel)
set_option maxRecDepth 100000 in
/-- GlacierMail$Rows.copyFrom -/
noncomputable def pl_s905 : ck_Sum := (((1 : Nat), (0 : Nat), (0 : Nat)), (249 : Nat), [.inr (.inr (.inl (6 : Nat))), .inr (.inr (.inl (99 : Nat)))], ([], [], []), ([((6 : Nat), (3 : Int), (3 : Int)), ((7 : Nat), (0 : Int), (23 : Int))], []), [(.inr none, (249 : Nat), ([], [], []))])
set_option maxRecDepth 100000 in
theorem pl_s905_s {X : Int → Int} {LX : Nat} : ck_Ok p2_OL X LX 58 pl_s905 := ck_okq (cuts := []) (f := 114) ⟨pl_nmu, ck_E0⟩ (by decide +kernel)
set_option maxRecDepth 100000 in
/-- GlacierMail$Rows.copyFrom -/
noncomputable def pl_s906 : ck_Sum := (((1 : Nat), (0 : Nat), (0 : Nat)), (249 : Nat), [.inr (.inr (.inl (8 : Nat))), .inr (.inr (.inl (101 : Nat)))], ([], [], []), ([((8 : Nat), (3 : Int), (3 : Int)), ((9 : Nat), (0 : Int), (23 : Int))], []), [(.inr none, (249 : Nat), ([], [], []))])
set_option maxRecDepth 100000 in
theorem pl_s906_s {X : Int → Int} {LX : Nat} : ck_Ok p2_OL X LX 58 pl_s906 := ck_okq (cuts := []) (f := 114) ⟨pl_nmu, ck_E0⟩ (by decide +kernel)
set_option maxRecDepth 100000 in
/-- GlacierMail$Rows.copyFrom -/
noncomputable def pl_s907 : ck_Sum := (((1 : Nat), (0 : Nat), (0 : Nat)), (249 : Nat), [.inr (.inr (.inl (10 : Nat))), .inr (.inr (.inl (103 : Nat)))], ([], [], []), ([((10 : Nat), (3 : Int), (3 : Int)), ((11 : Nat), (0 : Int), (167 : Int))], []), [(.inr none, (249 : Nat), ([], [], []))])
set_option maxRecDepth 100000 in
theorem pl_s907_s {X : Int → Int} {LX : Nat} : ck_Ok p2_OL X LX 58 pl_s907 := ck_okq (cuts := []) (f := 114) ⟨pl_nmu, ck_E0⟩ (by decide +kernel)
set_option maxRecDepth 100000 in
/-- GlacierMail$Rows.copyFrom -/
noncomputable def pl_s908 : ck_Sum := (((1 : Nat), (0 : Nat), (0 : Nat)), (249 : Nat), [.inr (.inr (.inl (12 : Nat))), .inr (.inr (.inl (105 : Nat)))], ([], [], []), ([((12 : Nat), (3 : Int), (3 : Int)), ((13 : Nat), (0 : Int), (35 : Int))], []), [(.inr none, (249 : Nat), ([], [], []))])
set_option maxRecDepth 100000 in
theorem pl_s908_s {X : Int → Int} {LX : Nat} : ck_Ok p2_OL X LX 58 pl_s908 := ck_okq (cuts := []) (f := 114) ⟨pl_nmu, ck_E0⟩ (by decide +kernel)
set_option maxRecDepth 100000 in
/-- GlacierMail$Rows.copyFrom -/
noncomputable def pl_s909 : ck_Sum := (((1 : Nat), (0 : Nat), (0 : Nat)), (249 : Nat), [.inr (.inr (.inl (14 : Nat))), .inr (.inr (.inl (107 : Nat)))], ([], [], []), ([((14 : Nat), (3 : Int), (3 : Int)), ((15 : Nat), (0 : Int), (71 : Int))], []), [(.inr none, (249 : Nat), ([], [], []))])
set_option maxRecDepth 100000 in
theorem pl_s909_s {X : Int → Int} {LX : Nat} : ck_Ok p2_OL X LX 58 pl_s909 := ck_okq (cuts := []) (f := 114) ⟨pl_nmu, ck_E0⟩ (by decide +kernel)
set_option maxRecDepth 100000 in
/-- GlacierMail$State.copyFrom -/
noncomputable def pl_s910 : ck_Sum := (((2 : Nat), (0 : Nat), (0 : Nat)), (249 : Nat), [.inr (.inr (.inl (3 : Nat))), .inr (.inr (.inl (96 : Nat)))], ([], [((3 : Nat), (8 : Int), (246 : Nat)), ((96 : Nat), (8 : Int), (100096 : Nat))], []), (zl1, [((3 : Nat), (8 : Int))]), [(.inr none, (249 : Nat), ([], [((3 : Nat), (8 : Int), (100096 : Nat))], []))])
set_option maxRecDepth 100000 in
theorem pl_s910_s {X : Int → Int} {LX : Nat} : ck_Ok p2_OL X LX 57 pl_s910 := ck_okq (cuts := []) (f := 204) ⟨pl_nmu, ck_E1 (ck_S1 pl_s904_s (ck_S1 pl_s905_s (ck_S1 pl_s906_s (ck_S1 pl_s907_s (ck_S1 pl_s908_s (ck_S1 pl_s909_s ck_S0)))))) ck_E0⟩ (by decide +kernel)
set_option maxRecDepth 100000 in
/-- GlacierMail$Rows.copyFrom -/
noncomputable def pl_s911 : ck_Sum := (((1 : Nat), (0 : Nat), (0 : Nat)), (249 : Nat), [.inr (.inr (.inl (4 : Nat))), .inr (.inr (.inl (110 : Nat)))], ([], [], []), ([((4 : Nat), (3 : Int), (3 : Int)), ((5 : Nat), (0 : Int), (55 : Int))], []), [(.inr none, (249 : Nat), ([], [], []))])
set_option maxRecDepth 100000 in
theorem pl_s911_s {X : Int → Int} {LX : Nat} : ck_Ok p2_OL X LX 58 pl_s911 := ck_okq (cuts := []) (f := 114) ⟨pl_nmu, ck_E0⟩ (by decide +kernel)
set_option maxRecDepth 100000 in
/-- GlacierMail$Rows.copyFrom -/
noncomputable def pl_s912 : ck_Sum := (((1 : Nat), (0 : Nat), (0 : Nat)), (249 : Nat), [.inr (.inr (.inl (6 : Nat))), .inr (.inr (.inl (112 : Nat)))], ([], [], []), ([((6 : Nat), (3 : Int), (3 : Int)), ((7 : Nat), (0 : Int), (23 : Int))], []), [(.inr none, (249 : Nat), ([], [], []))])
set_option maxRecDepth 100000 in
theorem pl_s912_s {X : Int → Int} {LX : Nat} : ck_Ok p2_OL X LX 58 pl_s912 := ck_okq (cuts := []) (f := 114) ⟨pl_nmu, ck_E0⟩ (by decide +kernel)
set_option maxRecDepth 100000 in
/-- GlacierMail$Rows.copyFrom -/
noncomputable def pl_s913 : ck_Sum := (((1 : Nat), (0 : Nat), (0 : Nat)), (249 : Nat), [.inr (.inr (.inl (8 : Nat))), .inr (.inr (.inl (114 : Nat)))], ([], [], []), ([((8 : Nat), (3 : Int), (3 : Int)), ((9 : Nat), (0 : Int), (23 : Int))], []), [(.inr none, (249 : Nat), ([], [], []))])
set_option maxRecDepth 100000 in
theorem pl_s913_s {X : Int → Int} {LX : Nat} : ck_Ok p2_OL X LX 58 pl_s913 := ck_okq (cuts := []) (f := 114) ⟨pl_nmu, ck_E0⟩ (by decide +kernel)
set_option maxRecDepth 100000 in
/-- GlacierMail$Rows.copyFrom -/
noncomputable def pl_s914 : ck_Sum := (((1 : Nat), (0 : Nat), (0 : Nat)), (249 : Nat), [.inr (.inr (.inl (10 : Nat))), .inr (.inr (.inl (116 : Nat)))], ([], [], []), ([((10 : Nat), (3 : Int), (3 : Int)), ((11 : Nat), (0 : Int), (167 : Int))], []), [(.inr none, (249 : Nat), ([], [], []))])
set_option maxRecDepth 100000 in
theorem pl_s914_s {X : Int → Int} {LX : Nat} : ck_Ok p2_OL X LX 58 pl_s914 := ck_okq (cuts := []) (f := 114) ⟨pl_nmu, ck_E0⟩ (by decide +kernel)
set_option maxRecDepth 100000 in
/-- GlacierMail$Rows.copyFrom -/
noncomputable def pl_s915 : ck_Sum := (((1 : Nat), (0 : Nat), (0 : Nat)), (249 : Nat), [.inr (.inr (.inl (12 : Nat))), .inr (.inr (.inl (118 : Nat)))], ([], [], []), ([((12 : Nat), (3 : Int), (3 : Int)), ((13 : Nat), (0 : Int), (35 : Int))], []), [(.inr none, (249 : Nat), ([], [], []))])
set_option maxRecDepth 100000 in
theorem pl_s915_s {X : Int → Int} {LX : Nat} : ck_Ok p2_OL X LX 58 pl_s915 := ck_okq (cuts := []) (f := 114) ⟨pl_nmu, ck_E0⟩ (by decide +kernel)
set_option maxRecDepth 100000 in
/-- GlacierMail$Rows.copyFrom -/
noncomputable def pl_s916 : ck_Sum := (((1 : Nat), (0 : Nat), (0 : Nat)), (249 : Nat), [.inr (.inr (.inl (14 : Nat))), .inr (.inr (.inl (120 : Nat)))], ([], [], []), ([((14 : Nat), (3 : Int), (3 : Int)), ((15 : Nat), (0 : Int), (71 : Int))], []), [(.inr none, (249 : Nat), ([], [], []))])
set_option maxRecDepth 100000 in
theorem pl_s916_s {X : Int → Int} {LX : Nat} : ck_Ok p2_OL X LX 58 pl_s916 := ck_okq (cuts := []) (f := 114) ⟨pl_nmu, ck_E0⟩ (by decide +kernel)
set_option maxRecDepth 100000 in
/-- GlacierMail$State.copyFrom -/
noncomputable def pl_s917 : ck_Sum := (((2 : Nat), (0 : Nat), (0 : Nat)), (249 : Nat), [.inr (.inr (.inl (3 : Nat))), .inr (.inr (.inl (109 : Nat)))], ([], [((3 : Nat), (8 : Int), (246 : Nat)), ((109 : Nat), (8 : Int), (100109 : Nat))], []), (zl1, [((3 : Nat), (8 : Int))]), [(.inr none, (249 : Nat), ([], [((3 : Nat), (8 : Int), (100109 : Nat))], []))])
set_option maxRecDepth 100000 in
theorem pl_s917_s {X : Int → Int} {LX : Nat} : ck_Ok p2_OL X LX 57 pl_s917 := ck_okq (cuts := []) (f := 204) ⟨pl_nmu, ck_E1 (ck_S1 pl_s911_s (ck_S1 pl_s912_s (ck_S1 pl_s913_s (ck_S1 pl_s914_s (ck_S1 pl_s915_s (ck_S1 pl_s916_s ck_S0)))))) ck_E0⟩ (by decide +kernel)
set_option maxRecDepth 100000 in
/-- GlacierMail$Rows.copyFrom -/
noncomputable def pl_s918 : ck_Sum := (((1 : Nat), (0 : Nat), (0 : Nat)), (249 : Nat), [.inr (.inr (.inl (4 : Nat))), .inr (.inr (.inl (123 : Nat)))], ([], [], []), ([((4 : Nat), (3 : Int), (3 : Int)), ((5 : Nat), (0 : Int), (55 : Int))], []), [(.inr none, (249 : Nat), ([], [], []))])
set_option maxRecDepth 100000 in
theorem pl_s918_s {X : Int → Int} {LX : Nat} : ck_Ok p2_OL X LX 58 pl_s918 := ck_okq (cuts := []) (f := 114) ⟨pl_nmu, ck_E0⟩ (by decide +kernel)
set_option maxRecDepth 100000 in
/-- GlacierMail$Rows.copyFrom -/
noncomputable def pl_s919 : ck_Sum := (((1 : Nat), (0 : Nat), (0 : Nat)), (249 : Nat), [.inr (.inr (.inl (6 : Nat))), .inr (.inr (.inl (125 : Nat)))], ([], [], []), ([((6 : Nat), (3 : Int), (3 : Int)), ((7 : Nat), (0 : Int), (23 : Int))], []), [(.inr none, (249 : Nat), ([], [], []))])
set_option maxRecDepth 100000 in
theorem pl_s919_s {X : Int → Int} {LX : Nat} : ck_Ok p2_OL X LX 58 pl_s919 := ck_okq (cuts := []) (f := 114) ⟨pl_nmu, ck_E0⟩ (by decide +kernel)
set_option maxRecDepth 100000 in
/-- GlacierMail$Rows.copyFrom -/
noncomputable def pl_s920 : ck_Sum := (((1 : Nat), (0 : Nat), (0 : Nat)), (249 : Nat), [.inr (.inr (.inl (8 : Nat))), .inr (.inr (.inl (127 : Nat)))], ([], [], []), ([((8 : Nat), (3 : Int), (3 : Int)), ((9 : Nat), (0 : Int), (23 : Int))], []), [(.inr none, (249 : Nat), ([], [], []))])
set_option maxRecDepth 100000 in
theorem pl_s920_s {X : Int → Int} {LX : Nat} : ck_Ok p2_OL X LX 58 pl_s920 := ck_okq (cuts := []) (f := 114) ⟨pl_nmu, ck_E0⟩ (by decide +kernel)
set_option maxRecDepth 100000 in
/-- GlacierMail$Rows.copyFrom -/
noncomputable def pl_s921 : ck_Sum := (((1 : Nat), (0 : Nat), (0 : Nat)), (249 : Nat), [.inr (.inr (.inl (10 : Nat))), .inr (.inr (.inl (129 : Nat)))], ([], [], []), ([((10 : Nat), (3 : Int), (3 : Int)), ((11 : Nat), (0 : Int), (167 : Int))], []), [(.inr none, (249 : Nat), ([], [], []))])
set_option maxRecDepth 100000 in
theorem pl_s921_s {X : Int → Int} {LX : Nat} : ck_Ok p2_OL X LX 58 pl_s921 := ck_okq (cuts := []) (f := 114) ⟨pl_nmu, ck_E0⟩ (by decide +kernel)
set_option maxRecDepth 100000 in
/-- GlacierMail$Rows.copyFrom -/
noncomputable def pl_s922 : ck_Sum := (((1 : Nat), (0 : Nat), (0 : Nat)), (249 : Nat), [.inr (.inr (.inl (12 : Nat))), .inr (.inr (.inl (131 : Nat)))], ([], [], []), ([((12 : Nat), (3 : Int), (3 : Int)), ((13 : Nat), (0 : Int), (35 : Int))], []), [(.inr none, (249 : Nat), ([], [], []))])
set_option maxRecDepth 100000 in
theorem pl_s922_s {X : Int → Int} {LX : Nat} : ck_Ok p2_OL X LX 58 pl_s922 := ck_okq (cuts := []) (f := 114) ⟨pl_nmu, ck_E0⟩ (by decide +kernel)
set_option maxRecDepth 100000 in
/-- GlacierMail$Rows.copyFrom -/
noncomputable def pl_s923 : ck_Sum := (((1 : Nat), (0 : Nat), (0 : Nat)), (249 : Nat), [.inr (.inr (.inl (14 : Nat))), .inr (.inr (.inl (133 : Nat)))], ([], [], []), ([((14 : Nat), (3 : Int), (3 : Int)), ((15 : Nat), (0 : Int), (71 : Int))], []), [(.inr none, (249 : Nat), ([], [], []))])
set_option maxRecDepth 100000 in
theorem pl_s923_s {X : Int → Int} {LX : Nat} : ck_Ok p2_OL X LX 58 pl_s923 := ck_okq (cuts := []) (f := 114) ⟨pl_nmu, ck_E0⟩ (by decide +kernel)
set_option maxRecDepth 100000 in
/-- GlacierMail$State.copyFrom -/
noncomputable def pl_s924 : ck_Sum := (((2 : Nat), (0 : Nat), (0 : Nat)), (249 : Nat), [.inr (.inr (.inl (3 : Nat))), .inr (.inr (.inl (122 : Nat)))], ([], [((3 : Nat), (8 : Int), (246 : Nat)), ((122 : Nat), (8 : Int), (100122 : Nat))], []), (zl1, [((3 : Nat), (8 : Int))]), [(.inr none, (249 : Nat), ([], [((3 : Nat), (8 : Int), (100122 : Nat))], []))])
set_option maxRecDepth 100000 in
theorem pl_s924_s {X : Int → Int} {LX : Nat} : ck_Ok p2_OL X LX 57 pl_s924 := ck_okq (cuts := []) (f := 204) ⟨pl_nmu, ck_E1 (ck_S1 pl_s918_s (ck_S1 pl_s919_s (ck_S1 pl_s920_s (ck_S1 pl_s921_s (ck_S1 pl_s922_s (ck_S1 pl_s923_s ck_S0)))))) ck_E0⟩ (by decide +kernel)
set_option maxRecDepth 100000 in
/-- GlacierMail$Rows.copyFrom -/
noncomputable def pl_s925 : ck_Sum := (((1 : Nat), (0 : Nat), (0 : Nat)), (249 : Nat), [.inr (.inr (.inl (4 : Nat))), .inr (.inr (.inl (136 : Nat)))], ([], [], []), ([((4 : Nat), (3 : Int), (3 : Int)), ((5 : Nat), (0 : Int), (55 : Int))], []), [(.inr none, (249 : Nat), ([], [], []))])
set_option maxRecDepth 100000 in
theorem pl_s925_s {X : Int → Int} {LX : Nat} : ck_Ok p2_OL X LX 58 pl_s925 := ck_okq (cuts := []) (f := 114) ⟨pl_nmu, ck_E0⟩ (by decide +kernel)
set_option maxRecDepth 100000 in
/-- GlacierMail$Rows.copyFrom -/
noncomputable def pl_s926 : ck_Sum := (((1 : Nat), (0 : Nat), (0 : Nat)), (249 : Nat), [.inr (.inr (.inl (6 : Nat))), .inr (.inr (.inl (138 : Nat)))], ([], [], []), ([((6 : Nat), (3 : Int), (3 : Int)), ((7 : Nat), (0 : Int), (23 : Int))], []), [(.inr none, (249 : Nat), ([], [], []))])
set_option maxRecDepth 100000 in
theorem pl_s926_s {X : Int → Int} {LX : Nat} : ck_Ok p2_OL X LX 58 pl_s926 := ck_okq (cuts := []) (f := 114) ⟨pl_nmu, ck_E0⟩ (by decide +kernel)
set_option maxRecDepth 100000 in
/-- GlacierMail$Rows.copyFrom -/
noncomputable def pl_s927 : ck_Sum := (((1 : Nat), (0 : Nat), (0 : Nat)), (249 : Nat), [.inr (.inr (.inl (8 : Nat))), .inr (.inr (.inl (140 : Nat)))], ([], [], []), ([((8 : Nat), (3 : Int), (3 : Int)), ((9 : Nat), (0 : Int), (23 : Int))], []), [(.inr none, (249 : Nat), ([], [], []))])
set_option maxRecDepth 100000 in
theorem pl_s927_s {X : Int → Int} {LX : Nat} : ck_Ok p2_OL X LX 58 pl_s927 := ck_okq (cuts := []) (f := 114) ⟨pl_nmu, ck_E0⟩ (by decide +kernel)
set_option maxRecDepth 100000 in
/-- GlacierMail$Rows.copyFrom -/
noncomputable def pl_s928 : ck_Sum := (((1 : Nat), (0 : Nat), (0 : Nat)), (249 : Nat), [.inr (.inr (.inl (10 : Nat))), .inr (.inr (.inl (142 : Nat)))], ([], [], []), ([((10 : Nat), (3 : Int), (3 : Int)), ((11 : Nat), (0 : Int), (167 : Int))], []), [(.inr none, (249 : Nat), ([], [], []))])
set_option maxRecDepth 100000 in
theorem pl_s928_s {X : Int → Int} {LX : Nat} : ck_Ok p2_OL X LX 58 pl_s928 := ck_okq (cuts := []) (f := 114) ⟨pl_nmu, ck_E0⟩ (by decide +kernel)
set_option maxRecDepth 100000 in
/-- GlacierMail$Rows.copyFrom -/
noncomputable def pl_s929 : ck_Sum := (((1 : Nat), (0 : Nat), (0 : Nat)), (249 : Nat), [.inr (.inr (.inl (12 : Nat))), .inr (.inr (.inl (144 : Nat)))], ([], [], []), ([((12 : Nat), (3 : Int), (3 : Int)), ((13 : Nat), (0 : Int), (35 : Int))], []), [(.inr none, (249 : Nat), ([], [], []))])
set_option maxRecDepth 100000 in
theorem pl_s929_s {X : Int → Int} {LX : Nat} : ck_Ok p2_OL X LX 58 pl_s929 := ck_okq (cuts := []) (f := 114) ⟨pl_nmu, ck_E0⟩ (by decide +kernel)
set_option maxRecDepth 100000 in
/-- GlacierMail$Rows.copyFrom -/
noncomputable def pl_s930 : ck_Sum := (((1 : Nat), (0 : Nat), (0 : Nat)), (249 : Nat), [.inr (.inr (.inl (14 : Nat))), .inr (.inr (.inl (146 : Nat)))], ([], [], []), ([((14 : Nat), (3 : Int), (3 : Int)), ((15 : Nat), (0 : Int), (71 : Int))], []), [(.inr none, (249 : Nat), ([], [], []))])
set_option maxRecDepth 100000 in
theorem pl_s930_s {X : Int → Int} {LX : Nat} : ck_Ok p2_OL X LX 58 pl_s930 := ck_okq (cuts := []) (f := 114) ⟨pl_nmu, ck_E0⟩ (by decide +kernel)
set_option maxRecDepth 100000 in
/-- GlacierMail$State.copyFrom -/
noncomputable def pl_s931 : ck_Sum := (((2 : Nat), (0 : Nat), (0 : Nat)), (249 : Nat), [.inr (.inr (.inl (3 : Nat))), .inr (.inr (.inl (135 : Nat)))], ([], [((3 : Nat), (8 : Int), (246 : Nat)), ((135 : Nat), (8 : Int), (100135 : Nat))], []), (zl1, [((3 : Nat), (8 : Int))]), [(.inr none, (249 : Nat), ([], [((3 : Nat), (8 : Int), (100135 : Nat))], []))])
set_option maxRecDepth 100000 in
theorem pl_s931_s {X : Int → Int} {LX : Nat} : ck_Ok p2_OL X LX 57 pl_s931 := ck_okq (cuts := []) (f := 204) ⟨pl_nmu, ck_E1 (ck_S1 pl_s925_s (ck_S1 pl_s926_s (ck_S1 pl_s927_s (ck_S1 pl_s928_s (ck_S1 pl_s929_s (ck_S1 pl_s930_s ck_S0)))))) ck_E0⟩ (by decide +kernel)
set_option maxRecDepth 100000 in
/-- GlacierMail$Rows.copyFrom -/
noncomputable def pl_s932 : ck_Sum := (((1 : Nat), (0 : Nat), (0 : Nat)), (249 : Nat), [.inr (.inr (.inl (4 : Nat))), .inr (.inr (.inl (149 : Nat)))], ([], [], []), ([((4 : Nat), (3 : Int), (3 : Int)), ((5 : Nat), (0 : Int), (55 : Int))], []), [(.inr none, (249 : Nat), ([], [], []))])
set_option maxRecDepth 100000 in
theorem pl_s932_s {X : Int → Int} {LX : Nat} : ck_Ok p2_OL X LX 58 pl_s932 := ck_okq (cuts := []) (f := 114) ⟨pl_nmu, ck_E0⟩ (by decide +kernel)
set_option maxRecDepth 100000 in
/-- GlacierMail$Rows.copyFrom -/
noncomputable def pl_s933 : ck_Sum := (((1 : Nat), (0 : Nat), (0 : Nat)), (249 : Nat), [.inr (.inr (.inl (6 : Nat))), .inr (.inr (.inl (151 : Nat)))], ([], [], []), ([((6 : Nat), (3 : Int), (3 : Int)), ((7 : Nat), (0 : Int), (23 : Int))], []), [(.inr none, (249 : Nat), ([], [], []))])
set_option maxRecDepth 100000 in
theorem pl_s933_s {X : Int → Int} {LX : Nat} : ck_Ok p2_OL X LX 58 pl_s933 := ck_okq (cuts := []) (f := 114) ⟨pl_nmu, ck_E0⟩ (by decide +kernel)
set_option maxRecDepth 100000 in
/-- GlacierMail$Rows.copyFrom -/
noncomputable def pl_s934 : ck_Sum := (((1 : Nat), (0 : Nat), (0 : Nat)), (249 : Nat), [.inr (.inr (.inl (8 : Nat))), .inr (.inr (.inl (153 : Nat)))], ([], [], []), ([((8 : Nat), (3 : Int), (3 : Int)), ((9 : Nat), (0 : Int), (23 : Int))], []), [(.inr none, (249 : Nat), ([], [], []))])
set_option maxRecDepth 100000 in
theorem pl_s934_s {X : Int → Int} {LX : Nat} : ck_Ok p2_OL X LX 58 pl_s934 := ck_okq (cuts := []) (f := 114) ⟨pl_nmu, ck_E0⟩ (by decide +kernel)
set_option maxRecDepth 100000 in
/-- GlacierMail$Rows.copyFrom -/
noncomputable def pl_s935 : ck_Sum := (((1 : Nat), (0 : Nat), (0 : Nat)), (249 : Nat), [.inr (.inr (.inl (10 : Nat))), .inr (.inr (.inl (155 : Nat)))], ([], [], []), ([((10 : Nat), (3 : Int), (3 : Int)), ((11 : Nat), (0 : Int), (167 : Int))], []), [(.inr none, (249 : Nat), ([], [], []))])
set_option maxRecDepth 100000 in
theorem pl_s935_s {X : Int → Int} {LX : Nat} : ck_Ok p2_OL X LX 58 pl_s935 := ck_okq (cuts := []) (f := 114) ⟨pl_nmu, ck_E0⟩ (by decide +kernel)
set_option maxRecDepth 100000 in
/-- GlacierMail$Rows.copyFrom -/
noncomputable def pl_s936 : ck_Sum := (((1 : Nat), (0 : Nat), (0 : Nat)), (249 : Nat), [.inr (.inr (.inl (12 : Nat))), .inr (.inr (.inl (157 : Nat)))], ([], [], []), ([((12 : Nat), (3 : Int), (3 : Int)), ((13 : Nat), (0 : Int), (35 : Int))], []), [(.inr none, (249 : Nat), ([], [], []))])
set_option maxRecDepth 100000 in
theorem pl_s936_s {X : Int → Int} {LX : Nat} : ck_Ok p2_OL X LX 58 pl_s936 := ck_okq (cuts := []) (f := 114) ⟨pl_nmu, ck_E0⟩ (by decide +kernel)
set_option maxRecDepth 100000 in
/-- GlacierMail$Rows.copyFrom -/
noncomputable def pl_s937 : ck_Sum := (((1 : Nat), (0 : Nat), (0 : Nat)), (249 : Nat), [.inr (.inr (.inl (14 : Nat))), .inr (.inr (.inl (159 : Nat)))], ([], [], []), ([((14 : Nat), (3 : Int), (3 : Int)), ((15 : Nat), (0 : Int), (71 : Int))], []), [(.inr none, (249 : Nat), ([], [], []))])
set_option maxRecDepth 100000 in
theorem pl_s937_s {X : Int → Int} {LX : Nat} : ck_Ok p2_OL X LX 58 pl_s937 := ck_okq (cuts := []) (f := 114) ⟨pl_nmu, ck_E0⟩ (by decide +kernel)
set_option maxRecDepth 100000 in
/-- GlacierMail$State.copyFrom -/
noncomputable def pl_s938 : ck_Sum := (((2 : Nat), (0 : Nat), (0 : Nat)), (249 : Nat), [.inr (.inr (.inl (3 : Nat))), .inr (.inr (.inl (148 : Nat)))], ([], [((3 : Nat), (8 : Int), (246 : Nat)), ((148 : Nat), (8 : Int), (100148 : Nat))], []), (zl1, [((3 : Nat), (8 : Int))]), [(.inr none, (249 : Nat), ([], [((3 : Nat), (8 : Int), (100148 : Nat))], []))])
set_option maxRecDepth 100000 in
theorem pl_s938_s {X : Int → Int} {LX : Nat} : ck_Ok p2_OL X LX 57 pl_s938 := ck_okq (cuts := []) (f := 204) ⟨pl_nmu, ck_E1 (ck_S1 pl_s932_s (ck_S1 pl_s933_s (ck_S1 pl_s934_s (ck_S1 pl_s935_s (ck_S1 pl_s936_s (ck_S1 pl_s937_s ck_S0)))))) ck_E0⟩ (by decide +kernel)
set_option maxRecDepth 100000 in
/-- GlacierMail$Rows.copyFrom -/
noncomputable def pl_s939 : ck_Sum := (((1 : Nat), (0 : Nat), (0 : Nat)), (249 : Nat), [.inr (.inr (.inl (4 : Nat))), .inr (.inr (.inl (162 : Nat)))], ([], [], []), ([((4 : Nat), (3 : Int), (3 : Int)), ((5 : Nat), (0 : Int), (55 : Int))], []), [(.inr none, (249 : Nat), ([], [], []))])
set_option maxRecDepth 100000 in
theorem pl_s939_s {X : Int → Int} {LX : Nat} : ck_Ok p2_OL X LX 58 pl_s939 := ck_okq (cuts := []) (f := 114) ⟨pl_nmu, ck_E0⟩ (by decide +kernel)
set_option maxRecDepth 100000 in
/-- GlacierMail$Rows.copyFrom -/
noncomputable def pl_s940 : ck_Sum := (((1 : Nat), (0 : Nat), (0 : Nat)), (249 : Nat), [.inr (.inr (.inl (6 : Nat))), .inr (.inr (.inl (164 : Nat)))], ([], [], []), ([((6 : Nat), (3 : Int), (3 : Int)), ((7 : Nat), (0 : Int), (23 : Int))], []), [(.inr none, (249 : Nat), ([], [], []))])
set_option maxRecDepth 100000 in
theorem pl_s940_s {X : Int → Int} {LX : Nat} : ck_Ok p2_OL X LX 58 pl_s940 := ck_okq (cuts := []) (f := 114) ⟨pl_nmu, ck_E0⟩ (by decide +kernel)
set_option maxRecDepth 100000 in
/-- GlacierMail$Rows.copyFrom -/
noncomputable def pl_s941 : ck_Sum := (((1 : Nat), (0 : Nat), (0 : Nat)), (249 : Nat), [.inr (.inr (.inl (8 : Nat))), .inr (.inr (.inl (166 : Nat)))], ([], [], []), ([((8 : Nat), (3 : Int), (3 : Int)), ((9 : Nat), (0 : Int), (23 : Int))], []), [(.inr none, (249 : Nat), ([], [], []))])
set_option maxRecDepth 100000 in
theorem pl_s941_s {X : Int → Int} {LX : Nat} : ck_Ok p2_OL X LX 58 pl_s941 := ck_okq (cuts := []) (f := 114) ⟨pl_nmu, ck_E0⟩ (by decide +kernel)
set_option maxRecDepth 100000 in
/-- GlacierMail$Rows.copyFrom -/
noncomputable def pl_s942 : ck_Sum := (((1 : Nat), (0 : Nat), (0 : Nat)), (249 : Nat), [.inr (.inr (.inl (10 : Nat))), .inr (.inr (.inl (168 : Nat)))], ([], [], []), ([((10 : Nat), (3 : Int), (3 : Int)), ((11 : Nat), (0 : Int), (167 : Int))], []), [(.inr none, (249 : Nat), ([], [], []))])
set_option maxRecDepth 100000 in
theorem pl_s942_s {X : Int → Int} {LX : Nat} : ck_Ok p2_OL X LX 58 pl_s942 := ck_okq (cuts := []) (f := 114) ⟨pl_nmu, ck_E0⟩ (by decide +kernel)
set_option maxRecDepth 100000 in
/-- GlacierMail$Rows.copyFrom -/
noncomputable def pl_s943 : ck_Sum := (((1 : Nat), (0 : Nat), (0 : Nat)), (249 : Nat), [.inr (.inr (.inl (12 : Nat))), .inr (.inr (.inl (170 : Nat)))], ([], [], []), ([((12 : Nat), (3 : Int), (3 : Int)), ((13 : Nat), (0 : Int), (35 : Int))], []), [(.inr none, (249 : Nat), ([], [], []))])
set_option maxRecDepth 100000 in
theorem pl_s943_s {X : Int → Int} {LX : Nat} : ck_Ok p2_OL X LX 58 pl_s943 := ck_okq (cuts := []) (f := 114) ⟨pl_nmu, ck_E0⟩ (by decide +kernel)
set_option maxRecDepth 100000 in
/-- GlacierMail$Rows.copyFrom -/
noncomputable def pl_s944 : ck_Sum := (((1 : Nat), (0 : Nat), (0 : Nat)), (249 : Nat), [.inr (.inr (.inl (14 : Nat))), .inr (.inr (.inl (172 : Nat)))], ([], [], []), ([((14 : Nat), (3 : Int), (3 : Int)), ((15 : Nat), (0 : Int), (71 : Int))], []), [(.inr none, (249 : Nat), ([], [], []))])
set_option maxRecDepth 100000 in
theorem pl_s944_s {X : Int → Int} {LX : Nat} : ck_Ok p2_OL X LX 58 pl_s944 := ck_okq (cuts := []) (f := 114) ⟨pl_nmu, ck_E0⟩ (by decide +kernel)
set_option maxRecDepth 100000 in
/-- GlacierMail$State.copyFrom -/
noncomputable def pl_s945 : ck_Sum := (((2 : Nat), (0 : Nat), (0 : Nat)), (249 : Nat), [.inr (.inr (.inl (3 : Nat))), .inr (.inr (.inl (161 : Nat)))], ([], [((3 : Nat), (8 : Int), (246 : Nat)), ((161 : Nat), (8 : Int), (100161 : Nat))], []), (zl1, [((3 : Nat), (8 : Int))]), [(.inr none, (249 : Nat), ([], [((3 : Nat), (8 : Int), (100161 : Nat))], []))])
set_option maxRecDepth 100000 in
theorem pl_s945_s {X : Int → Int} {LX : Nat} : ck_Ok p2_OL X LX 57 pl_s945 := ck_okq (cuts := []) (f := 204) ⟨pl_nmu, ck_E1 (ck_S1 pl_s939_s (ck_S1 pl_s940_s (ck_S1 pl_s941_s (ck_S1 pl_s942_s (ck_S1 pl_s943_s (ck_S1 pl_s944_s ck_S0)))))) ck_E0⟩ (by decide +kernel)
set_option maxRecDepth 100000 in
/-- GlacierMail$Rows.copyFrom -/
noncomputable def pl_s946 : ck_Sum := (((1 : Nat), (0 : Nat), (0 : Nat)), (249 : Nat), [.inr (.inr (.inl (4 : Nat))), .inr (.inr (.inl (175 : Nat)))], ([], [], []), ([((4 : Nat), (3 : Int), (3 : Int)), ((5 : Nat), (0 : Int), (55 : Int))], []), [(.inr none, (249 : Nat), ([], [], []))])
set_option maxRecDepth 100000 in
theorem pl_s946_s {X : Int → Int} {LX : Nat} : ck_Ok p2_OL X LX 58 pl_s946 := ck_okq (cuts := []) (f := 114) ⟨pl_nmu, ck_E0⟩ (by decide +kernel)
set_option maxRecDepth 100000 in
/-- GlacierMail$Rows.copyFrom -/
noncomputable def pl_s947 : ck_Sum := (((1 : Nat), (0 : Nat), (0 : Nat)), (249 : Nat), [.inr (.inr (.inl (6 : Nat))), .inr (.inr (.inl (177 : Nat)))], ([], [], []), ([((6 : Nat), (3 : Int), (3 : Int)), ((7 : Nat), (0 : Int), (23 : Int))], []), [(.inr none, (249 : Nat), ([], [], []))])
set_option maxRecDepth 100000 in
theorem pl_s947_s {X : Int → Int} {LX : Nat} : ck_Ok p2_OL X LX 58 pl_s947 := ck_okq (cuts := []) (f := 114) ⟨pl_nmu, ck_E0⟩ (by decide +kernel)
end
/-! 78r86a13.sl -/
section
/-! EVERY CALL OF THE CLASS ENDS, under a law (laid by wip/am/p2l.py). -/
set_option maxRecDepth 100000 in
/-- GlacierMail$Rows.copyFrom -/
noncomputable def pl_s948 : ck_Sum := (((1 : Nat), (0 : Nat), (0 : Nat)), (249 : Nat), [.inr (.inr (.inl (8 : Nat))), .inr (.inr (.inl (179 : Nat)))], ([], [], []), ([((8 : Nat), (3 : Int), (3 : Int)), ((9 : Nat), (0 : Int), (23 : Int))], []), [(.inr none, (249 : Nat), ([], [], []))])
set_option maxRecDepth 100000 in
theorem pl_s948_s {X : Int → Int} {LX : Nat} : ck_Ok p2_OL X LX 58 pl_s948 := ck_okq (cuts := []) (f := 114) ⟨pl_nmu, ck_E0⟩ (by decide +kernel)
set_option maxRecDepth 100000 in
/-- GlacierMail$Rows.copyFrom -/
noncomputable def pl_s949 : ck_Sum := (((1 : Nat), (0 : Nat), (0 : Nat)), (249 : Nat), [.inr (.inr (.inl (10 : Nat))), .inr (.inr (.inl (181 : Nat)))], ([], [], []), ([((10 : Nat), (3 : Int), (3 : Int)), ((11 : Nat), (0 : Int), (167 : Int))], []), [(.inr none, (249 : Nat), ([], [], []))])
set_option maxRecDepth 100000 in
theorem pl_s949_s {X : Int → Int} {LX : Nat} : ck_Ok p2_OL X LX 58 pl_s949 := ck_okq (cuts := []) (f := 114) ⟨pl_nmu, ck_E0⟩ (by decide +kernel)
set_option maxRecDepth 100000 in
/-- GlacierMail$Rows.copyFrom -/
noncomputable def pl_s950 : ck_Sum := (((1 : Nat), (0 : Nat), (0 : Nat)), (249 : Nat), [.inr (.inr (.inl (12 : Nat))), .inr (.inr (.inl (183 : Nat)))], ([], [], []), ([((12 : Nat), (3 : Int), (3 : Int)), ((13 : Nat), (0 : Int), (35 : Int))], []), [(.inr none, (249 : Nat), ([], [], []))])
set_option maxRecDepth 100000 in
theorem pl_s950_s {X : Int → Int} {LX : Nat} : ck_Ok p2_OL X LX 58 pl_s950 := ck_okq (cuts := []) (f := 114) ⟨pl_nmu, ck_E0⟩ (by decide +kernel)
set_option maxRecDepth 100000 in
/-- GlacierMail$Rows.copyFrom -/
noncomputable def pl_s951 : ck_Sum := (((1 : Nat), (0 : Nat), (0 : Nat)), (249 : Nat), [.inr (.inr (.inl (14 : Nat))), .inr (.inr (.inl (185 : Nat)))], ([], [], []), ([((14 : Nat), (3 : Int), (3 : Int)), ((15 : Nat), (0 : Int), (71 : Int))], []), [(.inr none, (249 : Nat), ([], [], []))])
set_option maxRecDepth 100000 in
theorem pl_s951_s {X : Int → Int} {LX : Nat} : ck_Ok p2_OL X LX 58 pl_s951 := ck_okq (cuts := []) (f := 114) ⟨pl_nmu, ck_E0⟩ (by decide +kernel)
set_option maxRecDepth 100000 in
/-- GlacierMail$State.copyFrom -/
noncomputable def pl_s952 : ck_Sum := (((2 : Nat), (0 : Nat), (0 : Nat)), (249 : Nat), [.inr (.inr (.inl (3 : Nat))), .inr (.inr (.inl (174 : Nat)))], ([], [((3 : Nat), (8 : Int), (246 : Nat)), ((174 : Nat), (8 : Int), (100174 : Nat))], []), (zl1, [((3 : Nat), (8 : Int))]), [(.inr none, (249 : Nat), ([], [((3 : Nat), (8 : Int), (100174 : Nat))], []))])
set_option maxRecDepth 100000 in
theorem pl_s952_s {X : Int → Int} {LX : Nat} : ck_Ok p2_OL X LX 57 pl_s952 := ck_okq (cuts := []) (f := 204) ⟨pl_nmu, ck_E1 (ck_S1 pl_s946_s (ck_S1 pl_s947_s (ck_S1 pl_s948_s (ck_S1 pl_s949_s (ck_S1 pl_s950_s (ck_S1 pl_s951_s ck_S0)))))) ck_E0⟩ (by decide +kernel)
set_option maxRecDepth 100000 in
/-- GlacierMail$Rows.copyFrom -/
noncomputable def pl_s953 : ck_Sum := (((1 : Nat), (0 : Nat), (0 : Nat)), (249 : Nat), [.inr (.inr (.inl (4 : Nat))), .inr (.inr (.inl (188 : Nat)))], ([], [], []), ([((4 : Nat), (3 : Int), (3 : Int)), ((5 : Nat), (0 : Int), (55 : Int))], []), [(.inr none, (249 : Nat), ([], [], []))])
set_option maxRecDepth 100000 in
theorem pl_s953_s {X : Int → Int} {LX : Nat} : ck_Ok p2_OL X LX 58 pl_s953 := ck_okq (cuts := []) (f := 114) ⟨pl_nmu, ck_E0⟩ (by decide +kernel)
set_option maxRecDepth 100000 in
/-- GlacierMail$Rows.copyFrom -/
noncomputable def pl_s954 : ck_Sum := (((1 : Nat), (0 : Nat), (0 : Nat)), (249 : Nat), [.inr (.inr (.inl (6 : Nat))), .inr (.inr (.inl (190 : Nat)))], ([], [], []), ([((6 : Nat), (3 : Int), (3 : Int)), ((7 : Nat), (0 : Int), (23 : Int))], []), [(.inr none, (249 : Nat), ([], [], []))])
set_option maxRecDepth 100000 in
theorem pl_s954_s {X : Int → Int} {LX : Nat} : ck_Ok p2_OL X LX 58 pl_s954 := ck_okq (cuts := []) (f := 114) ⟨pl_nmu, ck_E0⟩ (by decide +kernel)
set_option maxRecDepth 100000 in
/-- GlacierMail$Rows.copyFrom -/
noncomputable def pl_s955 : ck_Sum := (((1 : Nat), (0 : Nat), (0 : Nat)), (249 : Nat), [.inr (.inr (.inl (8 : Nat))), .inr (.inr (.inl (192 : Nat)))], ([], [], []), ([((8 : Nat), (3 : Int), (3 : Int)), ((9 : Nat), (0 : Int), (23 : Int))], []), [(.inr none, (249 : Nat), ([], [], []))])
set_option maxRecDepth 100000 in
theorem pl_s955_s {X : Int → Int} {LX : Nat} : ck_Ok p2_OL X LX 58 pl_s955 := ck_okq (cuts := []) (f := 114) ⟨pl_nmu, ck_E0⟩ (by decide +kernel)
set_option maxRecDepth 100000 in
/-- GlacierMail$Rows.copyFrom -/
noncomputable def pl_s956 : ck_Sum := (((1 : Nat), (0 : Nat), (0 : Nat)), (249 : Nat), [.inr (.inr (.inl (10 : Nat))), .inr (.inr (.inl (194 : Nat)))], ([], [], []), ([((10 : Nat), (3 : Int), (3 : Int)), ((11 : Nat), (0 : Int), (167 : Int))], []), [(.inr none, (249 : Nat), ([], [], []))])
set_option maxRecDepth 100000 in
theorem pl_s956_s {X : Int → Int} {LX : Nat} : ck_Ok p2_OL X LX 58 pl_s956 := ck_okq (cuts := []) (f := 114) ⟨pl_nmu, ck_E0⟩ (by decide +kernel)
set_option maxRecDepth 100000 in
/-- GlacierMail$Rows.copyFrom -/
noncomputable def pl_s957 : ck_Sum := (((1 : Nat), (0 : Nat), (0 : Nat)), (249 : Nat), [.inr (.inr (.inl (12 : Nat))), .inr (.inr (.inl (196 : Nat)))], ([], [], []), ([((12 : Nat), (3 : Int), (3 : Int)), ((13 : Nat), (0 : Int), (35 : Int))], []), [(.inr none, (249 : Nat), ([], [], []))])
set_option maxRecDepth 100000 in
theorem pl_s957_s {X : Int → Int} {LX : Nat} : ck_Ok p2_OL X LX 58 pl_s957 := ck_okq (cuts := []) (f := 114) ⟨pl_nmu, ck_E0⟩ (by decide +kernel)
set_option maxRecDepth 100000 in
/-- GlacierMail$Rows.copyFrom -/
noncomputable def pl_s958 : ck_Sum := (((1 : Nat), (0 : Nat), (0 : Nat)), (249 : Nat), [.inr (.inr (.inl (14 : Nat))), .inr (.inr (.inl (198 : Nat)))], ([], [], []), ([((14 : Nat), (3 : Int), (3 : Int)), ((15 : Nat), (0 : Int), (71 : Int))], []), [(.inr none, (249 : Nat), ([], [], []))])
set_option maxRecDepth 100000 in
theorem pl_s958_s {X : Int → Int} {LX : Nat} : ck_Ok p2_OL X LX 58 pl_s958 := ck_okq (cuts := []) (f := 114) ⟨pl_nmu, ck_E0⟩ (by decide +kernel)
set_option maxRecDepth 100000 in
/-- GlacierMail$State.copyFrom -/
noncomputable def pl_s959 : ck_Sum := (((2 : Nat), (0 : Nat), (0 : Nat)), (249 : Nat), [.inr (.inr (.inl (3 : Nat))), .inr (.inr (.inl (187 : Nat)))], ([], [((3 : Nat), (8 : Int), (246 : Nat)), ((187 : Nat), (8 : Int), (100187 : Nat))], []), (zl1, [((3 : Nat), (8 : Int))]), [(.inr none, (249 : Nat), ([], [((3 : Nat), (8 : Int), (100187 : Nat))], []))])
set_option maxRecDepth 100000 in
theorem pl_s959_s {X : Int → Int} {LX : Nat} : ck_Ok p2_OL X LX 57 pl_s959 := ck_okq (cuts := []) (f := 204) ⟨pl_nmu, ck_E1 (ck_S1 pl_s953_s (ck_S1 pl_s954_s (ck_S1 pl_s955_s (ck_S1 pl_s956_s (ck_S1 pl_s957_s (ck_S1 pl_s958_s ck_S0)))))) ck_E0⟩ (by decide +kernel)
set_option maxRecDepth 100000 in
/-- GlacierMail$History.takeBack -/
noncomputable def pl_s960 : ck_Sum := (((3 : Nat), (0 : Nat), (0 : Nat)), (249 : Nat), [.inr (.inr (.inl (42 : Nat))), .inr (.inr (.inl (3 : Nat)))], ([], zl230, []), (zl208, [((3 : Nat), (8 : Int))]), [(.inr (some (.inl (ck_one 1))), (249 : Nat), ([], [((3 : Nat), (8 : Int), (100044 : Nat))], zl209)), (.inr (some (.inl (ck_one 1))), (249 : Nat), ([], [((3 : Nat), (8 : Int), (100057 : Nat))], zl209)), (.inr (some (.inl (ck_one 1))), (249 : Nat), ([], [((3 : Nat), (8 : Int), (100070 : Nat))], zl209)), (.inr (some (.inl (ck_one 1))), (249 : Nat), ([], [((3 : Nat), (8 : Int), (100083 : Nat))], zl209)), (.inr (some (.inl (ck_one 1))), (249 : Nat), ([], [((3 : Nat), (8 : Int), (100096 : Nat))], zl209)), (.inr (some (.inl (ck_one 1))), (249 : Nat), ([], [((3 : Nat), (8 : Int), (100109 : Nat))], zl209)), (.inr (some (.inl (ck_one 1))), (249 : Nat), ([], [((3 : Nat), (8 : Int), (100122 : Nat))], zl209)), (.inr (some (.inl (ck_one 1))), (249 : Nat), ([], [((3 : Nat), (8 : Int), (100135 : Nat))], zl209)), (.inr (some (.inl (ck_one 1))), (249 : Nat), ([], [((3 : Nat), (8 : Int), (100148 : Nat))], zl209)), (.inr (some (.inl (ck_one 1))), (249 : Nat), ([], [((3 : Nat), (8 : Int), (100161 : Nat))], zl209)), (.inr (some (.inl (ck_one 1))), (249 : Nat), ([], [((3 : Nat), (8 : Int), (100174 : Nat))], zl209)), (.inr (some (.inl (ck_one 1))), (249 : Nat), ([], [((3 : Nat), (8 : Int), (100187 : Nat))], zl209)), (.inr (some (.inl (ck_one 0))), (249 : Nat), ([], [((3 : Nat), (8 : Int), (246 : Nat))], [((42 : Nat), (2 : Int), (2 : Int), ck_one 0)]))])
set_option maxRecDepth 100000 in
theorem pl_s960_s {X : Int → Int} {LX : Nat} : ck_Ok p2_OL X LX 55 pl_s960 := ck_okq (cuts := []) (f := 132) ⟨pl_nmu, ck_E1 (ck_S1 pl_s875_s ck_S0) (ck_E1 (ck_S1 pl_s882_s (ck_S1 pl_s889_s (ck_S1 pl_s896_s (ck_S1 pl_s903_s (ck_S1 pl_s910_s (ck_S1 pl_s917_s (ck_S1 pl_s924_s (ck_S1 pl_s931_s (ck_S1 pl_s938_s (ck_S1 pl_s945_s (ck_S1 pl_s952_s (ck_S1 pl_s959_s ck_S0)))))))))))) ck_E0)⟩ (by decide +kernel)
set_option maxRecDepth 100000 in
/-- GlacierMail.undo -/
noncomputable def pl_s961 : ck_Sum := (((4 : Nat), (0 : Nat), (0 : Nat)), (249 : Nat), [.inr (.inr (.inl (1 : Nat)))], ([], zl230, []), (zl210, [((3 : Nat), (8 : Int))]), [(.inr (some (.inl (ck_one 1))), (249 : Nat), ([], [((3 : Nat), (8 : Int), (100044 : Nat))], zl211)), (.inr (some (.inl (ck_one 0))), (249 : Nat), ([], [((3 : Nat), (8 : Int), (246 : Nat))], [((42 : Nat), (2 : Int), (2 : Int), ck_one 0), ((1 : Nat), (15 : Int), (15 : Int), ck_one 0)])), (.inr (some (.inl (ck_one 1))), (249 : Nat), ([], [((3 : Nat), (8 : Int), (100187 : Nat))], zl211)), (.inr (some (.inl (ck_one 1))), (249 : Nat), ([], [((3 : Nat), (8 : Int), (100174 : Nat))], zl211)), (.inr (some (.inl (ck_one 1))), (249 : Nat), ([], [((3 : Nat), (8 : Int), (100161 : Nat))], zl211)), (.inr (some (.inl (ck_one 1))), (249 : Nat), ([], [((3 : Nat), (8 : Int), (100148 : Nat))], zl211)), (.inr (some (.inl (ck_one 1))), (249 : Nat), ([], [((3 : Nat), (8 : Int), (100135 : Nat))], zl211)), (.inr (some (.inl (ck_one 1))), (249 : Nat), ([], [((3 : Nat), (8 : Int), (100122 : Nat))], zl211)), (.inr (some (.inl (ck_one 1))), (249 : Nat), ([], [((3 : Nat), (8 : Int), (100109 : Nat))], zl211)), (.inr (some (.inl (ck_one 1))), (249 : Nat), ([], [((3 : Nat), (8 : Int), (100096 : Nat))], zl211)), (.inr (some (.inl (ck_one 1))), (249 : Nat), ([], [((3 : Nat), (8 : Int), (100083 : Nat))], zl211)), (.inr (some (.inl (ck_one 1))), (249 : Nat), ([], [((3 : Nat), (8 : Int), (100070 : Nat))], zl211)), (.inr (some (.inl (ck_one 1))), (249 : Nat), ([], [((3 : Nat), (8 : Int), (100057 : Nat))], zl211))])
set_option maxRecDepth 100000 in
theorem pl_s961_s {X : Int → Int} {LX : Nat} : ck_Ok p2_OL X LX 54 pl_s961 := ck_okq (cuts := []) (f := 88) ⟨pl_nmu, ck_E1 (ck_S1 pl_s960_s ck_S0) ck_E0⟩ (by decide +kernel)
set_option maxRecDepth 100000 in
/-- GlacierMail$Rows.copyFrom -/
noncomputable def pl_s962 : ck_Sum := (((1 : Nat), (0 : Nat), (0 : Nat)), (249 : Nat), [.inr (.inr (.inl (30 : Nat))), .inr (.inr (.inl (4 : Nat)))], ([], [], []), ([((30 : Nat), (3 : Int), (3 : Int)), ((31 : Nat), (0 : Int), (55 : Int))], []), [(.inr none, (249 : Nat), ([], [], []))])
set_option maxRecDepth 100000 in
theorem pl_s962_s {X : Int → Int} {LX : Nat} : ck_Ok p2_OL X LX 58 pl_s962 := ck_okq (cuts := []) (f := 114) ⟨pl_nmu, ck_E0⟩ (by decide +kernel)
set_option maxRecDepth 100000 in
/-- GlacierMail$Rows.copyFrom -/
noncomputable def pl_s963 : ck_Sum := (((1 : Nat), (0 : Nat), (0 : Nat)), (249 : Nat), [.inr (.inr (.inl (32 : Nat))), .inr (.inr (.inl (6 : Nat)))], ([], [], []), ([((32 : Nat), (3 : Int), (3 : Int)), ((33 : Nat), (0 : Int), (23 : Int))], []), [(.inr none, (249 : Nat), ([], [], []))])
set_option maxRecDepth 100000 in
theorem pl_s963_s {X : Int → Int} {LX : Nat} : ck_Ok p2_OL X LX 58 pl_s963 := ck_okq (cuts := []) (f := 114) ⟨pl_nmu, ck_E0⟩ (by decide +kernel)
set_option maxRecDepth 100000 in
/-- GlacierMail$Rows.copyFrom -/
noncomputable def pl_s964 : ck_Sum := (((1 : Nat), (0 : Nat), (0 : Nat)), (249 : Nat), [.inr (.inr (.inl (34 : Nat))), .inr (.inr (.inl (8 : Nat)))], ([], [], []), ([((34 : Nat), (3 : Int), (3 : Int)), ((35 : Nat), (0 : Int), (23 : Int))], []), [(.inr none, (249 : Nat), ([], [], []))])
set_option maxRecDepth 100000 in
theorem pl_s964_s {X : Int → Int} {LX : Nat} : ck_Ok p2_OL X LX 58 pl_s964 := ck_okq (cuts := []) (f := 114) ⟨pl_nmu, ck_E0⟩ (by decide +kernel)
set_option maxRecDepth 100000 in
/-- GlacierMail$Rows.copyFrom -/
noncomputable def pl_s965 : ck_Sum := (((1 : Nat), (0 : Nat), (0 : Nat)), (249 : Nat), [.inr (.inr (.inl (36 : Nat))), .inr (.inr (.inl (10 : Nat)))], ([], [], []), ([((36 : Nat), (3 : Int), (3 : Int)), ((37 : Nat), (0 : Int), (167 : Int))], []), [(.inr none, (249 : Nat), ([], [], []))])
set_option maxRecDepth 100000 in
theorem pl_s965_s {X : Int → Int} {LX : Nat} : ck_Ok p2_OL X LX 58 pl_s965 := ck_okq (cuts := []) (f := 114) ⟨pl_nmu, ck_E0⟩ (by decide +kernel)
set_option maxRecDepth 100000 in
/-- GlacierMail$Rows.copyFrom -/
noncomputable def pl_s966 : ck_Sum := (((1 : Nat), (0 : Nat), (0 : Nat)), (249 : Nat), [.inr (.inr (.inl (38 : Nat))), .inr (.inr (.inl (12 : Nat)))], ([], [], []), ([((38 : Nat), (3 : Int), (3 : Int)), ((39 : Nat), (0 : Int), (35 : Int))], []), [(.inr none, (249 : Nat), ([], [], []))])
set_option maxRecDepth 100000 in
theorem pl_s966_s {X : Int → Int} {LX : Nat} : ck_Ok p2_OL X LX 58 pl_s966 := ck_okq (cuts := []) (f := 114) ⟨pl_nmu, ck_E0⟩ (by decide +kernel)
set_option maxRecDepth 100000 in
/-- GlacierMail$Rows.copyFrom -/
noncomputable def pl_s967 : ck_Sum := (((1 : Nat), (0 : Nat), (0 : Nat)), (249 : Nat), [.inr (.inr (.inl (40 : Nat))), .inr (.inr (.inl (14 : Nat)))], ([], [], []), ([((40 : Nat), (3 : Int), (3 : Int)), ((41 : Nat), (0 : Int), (71 : Int))], []), [(.inr none, (249 : Nat), ([], [], []))])
set_option maxRecDepth 100000 in
theorem pl_s967_s {X : Int → Int} {LX : Nat} : ck_Ok p2_OL X LX 58 pl_s967 := ck_okq (cuts := []) (f := 114) ⟨pl_nmu, ck_E0⟩ (by decide +kernel)
set_option maxRecDepth 100000 in
/-- GlacierMail$State.copyFrom -/
noncomputable def pl_s968 : ck_Sum := (((2 : Nat), (0 : Nat), (0 : Nat)), (249 : Nat), [.inr (.inr (.inl (29 : Nat))), .inr (.inr (.inl (3 : Nat)))], ([], [((3 : Nat), (8 : Int), (246 : Nat)), ((29 : Nat), (8 : Int), (100029 : Nat))], [((3 : Nat), (6 : Int), (6 : Int), ((0 : Int), (299 : Int), [((10 : Nat), (0 : Int))]))]), (zl212, [((29 : Nat), (8 : Int))]), [(.inr none, (249 : Nat), ([], [((29 : Nat), (8 : Int), (246 : Nat))], [((29 : Nat), (6 : Int), (6 : Int), ((0 : Int), (299 : Int), [((10 : Nat), (0 : Int))]))]))])
set_option maxRecDepth 100000 in
theorem pl_s968_s {X : Int → Int} {LX : Nat} : ck_Ok p2_OL X LX 57 pl_s968 := ck_okq (cuts := []) (f := 204) ⟨pl_nmu, ck_E1 (ck_S1 pl_s962_s (ck_S1 pl_s963_s (ck_S1 pl_s964_s (ck_S1 pl_s965_s (ck_S1 pl_s966_s (ck_S1 pl_s967_s ck_S0)))))) ck_E0⟩ (by decide +kernel)
set_option maxRecDepth 100000 in
/-- GlacierMail.image -/
noncomputable def pl_s969 : ck_Sum := (((3 : Nat), (0 : Nat), (0 : Nat)), (249 : Nat), [.inr (.inr (.inl (1 : Nat)))], ([], [((3 : Nat), (8 : Int), (246 : Nat)), ((29 : Nat), (8 : Int), (100029 : Nat))], [((3 : Nat), (6 : Int), (6 : Int), ((0 : Int), (299 : Int), [((10 : Nat), (0 : Int))]))]), (zl213, [((29 : Nat), (8 : Int))]), [(.inr none, (249 : Nat), ([], [((29 : Nat), (8 : Int), (246 : Nat))], zl214))])
set_option maxRecDepth 100000 in
theorem pl_s969_s {X : Int → Int} {LX : Nat} : ck_Ok p2_OL X LX 59 pl_s969 := ck_okq (cuts := []) (f := 88) ⟨pl_nmu, ck_E1 (ck_S1 pl_s968_s ck_S0) ck_E0⟩ (by decide +kernel)
set_option maxRecDepth 100000 in
/-- GlacierMail$Rows.copyFrom -/
noncomputable def pl_s970 : ck_Sum := (((1 : Nat), (0 : Nat), (0 : Nat)), (249 : Nat), [.inr (.inr (.inl (4 : Nat))), .inr (.inr (.inl (30 : Nat)))], ([], [], []), ([((4 : Nat), (3 : Int), (3 : Int)), ((5 : Nat), (0 : Int), (55 : Int))], []), [(.inr none, (249 : Nat), ([], [], []))])
set_option maxRecDepth 100000 in
theorem pl_s970_s {X : Int → Int} {LX : Nat} : ck_Ok p2_OL X LX 58 pl_s970 := ck_okq (cuts := []) (f := 114) ⟨pl_nmu, ck_E0⟩ (by decide +kernel)
set_option maxRecDepth 100000 in
/-- GlacierMail$Rows.copyFrom -/
noncomputable def pl_s971 : ck_Sum := (((1 : Nat), (0 : Nat), (0 : Nat)), (249 : Nat), [.inr (.inr (.inl (6 : Nat))), .inr (.inr (.inl (32 : Nat)))], ([], [], []), ([((6 : Nat), (3 : Int), (3 : Int)), ((7 : Nat), (0 : Int), (23 : Int))], []), [(.inr none, (249 : Nat), ([], [], []))])
set_option maxRecDepth 100000 in
theorem pl_s971_s {X : Int → Int} {LX : Nat} : ck_Ok p2_OL X LX 58 pl_s971 := ck_okq (cuts := []) (f := 114) ⟨pl_nmu, ck_E0⟩ (by decide +kernel)
set_option maxRecDepth 100000 in
/-- GlacierMail$Rows.copyFrom -/
noncomputable def pl_s972 : ck_Sum := (((1 : Nat), (0 : Nat), (0 : Nat)), (249 : Nat), [.inr (.inr (.inl (8 : Nat))), .inr (.inr (.inl (34 : Nat)))], ([], [], []), ([((8 : Nat), (3 : Int), (3 : Int)), ((9 : Nat), (0 : Int), (23 : Int))], []), [(.inr none, (249 : Nat), ([], [], []))])
set_option maxRecDepth 100000 in
theorem pl_s972_s {X : Int → Int} {LX : Nat} : ck_Ok p2_OL X LX 58 pl_s972 := ck_okq (cuts := []) (f := 114) ⟨pl_nmu, ck_E0⟩ (by decide +kernel)
set_option maxRecDepth 100000 in
/-- GlacierMail$Rows.copyFrom -/
noncomputable def pl_s973 : ck_Sum := (((1 : Nat), (0 : Nat), (0 : Nat)), (249 : Nat), [.inr (.inr (.inl (10 : Nat))), .inr (.inr (.inl (36 : Nat)))], ([], [], []), ([((10 : Nat), (3 : Int), (3 : Int)), ((11 : Nat), (0 : Int), (167 : Int))], []), [(.inr none, (249 : Nat), ([], [], []))])
set_option maxRecDepth 100000 in
theorem pl_s973_s {X : Int → Int} {LX : Nat} : ck_Ok p2_OL X LX 58 pl_s973 := ck_okq (cuts := []) (f := 114) ⟨pl_nmu, ck_E0⟩ (by decide +kernel)
set_option maxRecDepth 100000 in
/-- GlacierMail$Rows.copyFrom -/
noncomputable def pl_s974 : ck_Sum := (((1 : Nat), (0 : Nat), (0 : Nat)), (249 : Nat), [.inr (.inr (.inl (12 : Nat))), .inr (.inr (.inl (38 : Nat)))], ([], [], []), ([((12 : Nat), (3 : Int), (3 : Int)), ((13 : Nat), (0 : Int), (35 : Int))], []), [(.inr none, (249 : Nat), ([], [], []))])
set_option maxRecDepth 100000 in
theorem pl_s974_s {X : Int → Int} {LX : Nat} : ck_Ok p2_OL X LX 58 pl_s974 := ck_okq (cuts := []) (f := 114) ⟨pl_nmu, ck_E0⟩ (by decide +kernel)
set_option maxRecDepth 100000 in
/-- GlacierMail$Rows.copyFrom -/
noncomputable def pl_s975 : ck_Sum := (((1 : Nat), (0 : Nat), (0 : Nat)), (249 : Nat), [.inr (.inr (.inl (14 : Nat))), .inr (.inr (.inl (40 : Nat)))], ([], [], []), ([((14 : Nat), (3 : Int), (3 : Int)), ((15 : Nat), (0 : Int), (71 : Int))], []), [(.inr none, (249 : Nat), ([], [], []))])
set_option maxRecDepth 100000 in
theorem pl_s975_s {X : Int → Int} {LX : Nat} : ck_Ok p2_OL X LX 58 pl_s975 := ck_okq (cuts := []) (f := 114) ⟨pl_nmu, ck_E0⟩ (by decide +kernel)
set_option maxRecDepth 100000 in
/-- GlacierMail$State.copyFrom -/
noncomputable def pl_s976 : ck_Sum := (((2 : Nat), (0 : Nat), (0 : Nat)), (249 : Nat), [.inr (.inr (.inl (3 : Nat))), .inr (.inr (.inl (29 : Nat)))], ([], [((3 : Nat), (8 : Int), (246 : Nat)), ((29 : Nat), (8 : Int), (100029 : Nat))], []), (zl1, [((3 : Nat), (8 : Int))]), [(.inr none, (249 : Nat), ([], [((3 : Nat), (8 : Int), (100029 : Nat))], []))])
set_option maxRecDepth 100000 in
theorem pl_s976_s {X : Int → Int} {LX : Nat} : ck_Ok p2_OL X LX 57 pl_s976 := ck_okq (cuts := []) (f := 204) ⟨pl_nmu, ck_E1 (ck_S1 pl_s970_s (ck_S1 pl_s971_s (ck_S1 pl_s972_s (ck_S1 pl_s973_s (ck_S1 pl_s974_s (ck_S1 pl_s975_s ck_S0)))))) ck_E0⟩ (by decide +kernel)
set_option maxRecDepth 100000 in
/-- GlacierMail.back -/
noncomputable def pl_s977 : ck_Sum := (((4 : Nat), (0 : Nat), (0 : Nat)), (249 : Nat), [.inr (.inr (.inl (1 : Nat)))], ([], [((3 : Nat), (8 : Int), (246 : Nat)), ((29 : Nat), (8 : Int), (100029 : Nat))], [((1 : Nat), (6 : Int), (6 : Int), ((0 : Int), (1 : Int), [((9 : Nat), (0 : Int))]))]), (zl215, [((3 : Nat), (8 : Int))]), [(.inr (some (.inl (ck_one 1))), (249 : Nat), ([], [((3 : Nat), (8 : Int), (100029 : Nat))], zl216)), (.inr (some (.inl (ck_one 0))), (249 : Nat), ([], [((3 : Nat), (8 : Int), (246 : Nat))], [((1 : Nat), (6 : Int), (6 : Int), ((0 : Int), (0 : Int), [((9 : Nat), (0 : Int))]))]))])
set_option maxRecDepth 100000 in
theorem pl_s977_s {X : Int → Int} {LX : Nat} : ck_Ok p2_OL X LX 60 pl_s977 := ck_okq (cuts := []) (f := 94) ⟨pl_nmu, ck_E1 (ck_S1 pl_s976_s ck_S0) (ck_E1 (ck_S1 pl_s142_s ck_S0) ck_E0)⟩ (by decide +kernel)
set_option maxRecDepth 100000 in
/-- GlacierMail.count -/
noncomputable def pl_s978 : ck_Sum := (((0 : Nat), (0 : Nat), (0 : Nat)), (249 : Nat), [.inr (.inr (.inl (1 : Nat))), .inl ((-2147483648 : Int), (-1 : Int), [])], ([], [], []), ([], []), [(.inr (some (.inl (ck_one (-1)))), (249 : Nat), ([], [], []))])
set_option maxRecDepth 100000 in
theorem pl_s978_s {X : Int → Int} {LX : Nat} : ck_Ok p2_OL X LX 63 pl_s978 := ck_okq (cuts := []) (f := 78) ⟨pl_nmu, ck_E0⟩ (by decide +kernel)
set_option maxRecDepth 100000 in
/-- GlacierMail$History.size -/
noncomputable def pl_s979 : ck_Sum := (((0 : Nat), (0 : Nat), (0 : Nat)), (249 : Nat), [.inr (.inr (.inl (42 : Nat)))], ([], [], []), ([], []), [(.inr (some (.inl ((0 : Int), (12 : Int), []))), (249 : Nat), ([], [], []))])
set_option maxRecDepth 100000 in
theorem pl_s979_s {X : Int → Int} {LX : Nat} : ck_Ok p2_OL X LX 69 pl_s979 := ck_okq (cuts := []) (f := 76) ⟨pl_nmu, ck_E0⟩ (by decide +kernel)
set_option maxRecDepth 100000 in
/-- GlacierMail$Rows.size -/
noncomputable def pl_s982 : ck_Sum := (((0 : Nat), (0 : Nat), (0 : Nat)), (249 : Nat), [.inr (.inr (.inl (14 : Nat)))], ([], [], []), ([], []), [(.inr (some (.inl ((0 : Int), (24 : Int), []))), (249 : Nat), ([], [], []))])
set_option maxRecDepth 100000 in
theorem pl_s982_s {X : Int → Int} {LX : Nat} : ck_Ok p2_OL X LX 9 pl_s982 := ck_okq (cuts := []) (f := 76) ⟨pl_nmu, ck_E0⟩ (by decide +kernel)
set_option maxRecDepth 100000 in
/-- GlacierMail.lawLines -/
noncomputable def pl_s984 : ck_Sum := (((1 : Nat), (0 : Nat), (0 : Nat)), (249 : Nat), [.inr (.inr (.inl (1 : Nat)))], ([], [((3 : Nat), (8 : Int), (246 : Nat))], []), ([], []), [(.inr (some (.inl ((0 : Int), (12 : Int), []))), (249 : Nat), ([], [], []))])
set_option maxRecDepth 100000 in
theorem pl_s984_s {X : Int → Int} {LX : Nat} : ck_Ok p2_OL X LX 64 pl_s984 := ck_okq (cuts := []) (f := 90) ⟨pl_nmu, ck_E1 (ck_S1 pl_s182_s ck_S0) ck_E0⟩ (by decide +kernel)
set_option maxRecDepth 100000 in
/-- GlacierMail.count -/
noncomputable def pl_s985 : ck_Sum := (((2 : Nat), (0 : Nat), (0 : Nat)), (249 : Nat), [.inr (.inr (.inl (1 : Nat))), .inl ((0 : Int), (9 : Int), [])], ([], [((3 : Nat), (8 : Int), (246 : Nat))], [((3 : Nat), (6 : Int), (6 : Int), ((0 : Int), (299 : Int), [((10 : Nat), (0 : Int))]))]), ([], []), [(.inr (some (.inl ((0 : Int), (2147483647 : Int), []))), (249 : Nat), ([], [], [])), (.inr (some (.inl ((-2147483648 : Int), (-1 : Int), []))), (249 : Nat), ([], [], [((3 : Nat), (7 : Int), (7 : Int), ((-2147483648 : Int), (-1 : Int), []))]))])
set_option maxRecDepth 100000 in
theorem pl_s985_s {X : Int → Int} {LX : Nat} : ck_Ok p2_OL X LX 63 pl_s985 := ck_okq (cuts := []) (f := 84) ⟨pl_nmu, ck_E1 (ck_S1 pl_s984_s ck_S0) (ck_E1 (ck_S1 pl_s754_s (ck_S1 pl_s137_s (ck_S1 pl_s200_s (ck_S1 pl_s189_s (ck_S1 pl_s133_s ck_S0))))) ck_E0)⟩ (by decide +kernel)
end
/-! 78r88a00.hp -/
section
/-! THE LAW'S OWN METHODS (laid by wip/am/p2n.py). -/
set_option maxRecDepth 100000 in
/-- GlacierMailLaw.valley -/
noncomputable def p2_h0 : ck_Sum := (((13 : Nat), (1 : Nat), (6 : Nat)), (245 : Nat), [.inr (.inr (.inl (1 : Nat))), .inr (.inr (.inl (245 : Nat)))], ([], [((3 : Nat), (8 : Int), (0 : Nat)), ((16 : Nat), (8 : Int), (100016 : Nat))], zl44), (zl253, [((3 : Nat), (8 : Int)), ((16 : Nat), (8 : Int))]), [(.inr (some (.inl (ck_one 0))), (245 : Nat), ([], [((3 : Nat), (8 : Int), (0 : Nat)), ((16 : Nat), (8 : Int), (0 : Nat))], zl254)), (.inr (some (.inl (ck_one 1))), (245 : Nat), ([], [((3 : Nat), (8 : Int), (0 : Nat)), ((16 : Nat), (8 : Int), (0 : Nat))], zl49)), (.inr (some (.inl (ck_one 2))), (245 : Nat), ([], [((3 : Nat), (8 : Int), (0 : Nat)), ((16 : Nat), (8 : Int), (0 : Nat))], zl48))])
set_option maxRecDepth 100000 in
theorem p2_h0_s {X : Int → Int} {LX : Nat} : ck_Ok p2_O X LX 70 p2_h0 := ck_okq (cuts := []) (f := 88) ⟨p2_nmu, ck_E1 (ck_S1 p2_s145_s ck_S0) ck_E0⟩ (by decide +kernel)
set_option maxRecDepth 100000 in
/-- GlacierMailLaw.heat -/
noncomputable def p2_h1 : ck_Sum := (((8 : Nat), (1 : Nat), (6 : Nat)), (245 : Nat), [.inr (.inr (.inl (1 : Nat))), .inl ((-2147483648 : Int), (-1 : Int), []), .inr (.inr (.inl (245 : Nat)))], ([], [], []), ([], []), [(.inr (some (.inl (ck_one 1))), (245 : Nat), ([], [], []))])
set_option maxRecDepth 100000 in
theorem p2_h1_s {X : Int → Int} {LX : Nat} : ck_Ok p2_O X LX 127 p2_h1 := ck_okq (cuts := []) (f := 86) ⟨p2_nmu, ck_E1 (ck_S1 p2_s250_s ck_S0) ck_E0⟩ (by decide +kernel)
set_option maxRecDepth 100000 in
/-- GlacierMailLaw.heat -/
noncomputable def p2_h2 : ck_Sum := (((8 : Nat), (1 : Nat), (6 : Nat)), (245 : Nat), [.inr (.inr (.inl (1 : Nat))), .inl ((300 : Int), (2147483647 : Int), []), .inr (.inr (.inl (245 : Nat)))], ([], [], []), ([], []), [(.inr (some (.inl (ck_one 1))), (245 : Nat), ([], [], []))])
set_option maxRecDepth 100000 in
theorem p2_h2_s {X : Int → Int} {LX : Nat} : ck_Ok p2_O X LX 127 p2_h2 := ck_okq (cuts := []) (f := 86) ⟨p2_nmu, ck_E1 (ck_S1 p2_s252_s ck_S0) ck_E0⟩ (by decide +kernel)
set_option maxRecDepth 100000 in
/-- GlacierMailLaw.heat -/
noncomputable def p2_h3 : ck_Sum := (((2 : Nat), (0 : Nat), (0 : Nat)), (245 : Nat), [.inr (.inr (.inl (1 : Nat))), .inl ((0 : Int), (299 : Int), []), .inr (.inr (.inl (245 : Nat)))], ([], [], []), ([((245 : Nat), (0 : Int), (0 : Int))], []), [(.inr (some (.inl (ck_one 0))), (245 : Nat), ([], [], [((245 : Nat), (0 : Int), (0 : Int), ((0 : Int), (9 : Int), []))]))])
set_option maxRecDepth 100000 in
theorem p2_h3_s {X : Int → Int} {LX : Nat} : ck_Ok p2_O X LX 127 p2_h3 := ck_okq (cuts := []) (f := 90) ⟨p2_nmu, ck_E1 (ck_S1 p2_s255_s ck_S0) ck_E0⟩ (by decide +kernel)
set_option maxRecDepth 100000 in
/-- GlacierMailLaw.speed -/
noncomputable def p2_h4 : ck_Sum := (((9 : Nat), (1 : Nat), (6 : Nat)), (245 : Nat), [.inr (.inr (.inl (1 : Nat))), .inl ((-2147483648 : Int), (-1 : Int), []), .inl ((-2147483648 : Int), (2147483647 : Int), []), .inr (.inr (.inl (245 : Nat)))], ([], [], []), ([], []), [(.inr (some (.inl (ck_one 1))), (245 : Nat), ([], [], []))])
set_option maxRecDepth 100000 in
theorem p2_h4_s {X : Int → Int} {LX : Nat} : ck_Ok p2_O X LX 130 p2_h4 := ck_okq (cuts := []) (f := 88) ⟨p2_nmu, ck_E1 (ck_S1 p2_s267_s ck_S0) ck_E0⟩ (by decide +kernel)
set_option maxRecDepth 100000 in
/-- GlacierMailLaw.speed -/
noncomputable def p2_h5 : ck_Sum := (((9 : Nat), (1 : Nat), (6 : Nat)), (245 : Nat), [.inr (.inr (.inl (1 : Nat))), .inl ((6 : Int), (2147483647 : Int), []), .inl ((-2147483648 : Int), (2147483647 : Int), []), .inr (.inr (.inl (245 : Nat)))], ([], [], []), ([], []), [(.inr (some (.inl (ck_one 1))), (245 : Nat), ([], [], []))])
set_option maxRecDepth 100000 in
theorem p2_h5_s {X : Int → Int} {LX : Nat} : ck_Ok p2_O X LX 130 p2_h5 := ck_okq (cuts := []) (f := 88) ⟨p2_nmu, ck_E1 (ck_S1 p2_s270_s ck_S0) ck_E0⟩ (by decide +kernel)
set_option maxRecDepth 100000 in
/-- GlacierMailLaw.speed -/
noncomputable def p2_h6 : ck_Sum := (((9 : Nat), (2 : Nat), (12 : Nat)), (245 : Nat), [.inr (.inr (.inl (1 : Nat))), .inl ((0 : Int), (5 : Int), []), .inl ((-2147483648 : Int), (-1 : Int), []), .inr (.inr (.inl (245 : Nat)))], ([], [], []), ([], []), [(.inr (some (.inl (ck_one 1))), (245 : Nat), ([], [], []))])
set_option maxRecDepth 100000 in
theorem p2_h6_s {X : Int → Int} {LX : Nat} : ck_Ok p2_O X LX 130 p2_h6 := ck_okq (cuts := []) (f := 88) ⟨p2_nmu, ck_E1 (ck_S1 p2_s275_s ck_S0) ck_E0⟩ (by decide +kernel)
set_option maxRecDepth 100000 in
/-- GlacierMailLaw.speed -/
noncomputable def p2_h7 : ck_Sum := (((9 : Nat), (2 : Nat), (12 : Nat)), (245 : Nat), [.inr (.inr (.inl (1 : Nat))), .inl ((0 : Int), (5 : Int), []), .inl ((99 : Int), (2147483647 : Int), []), .inr (.inr (.inl (245 : Nat)))], ([], [], []), ([], []), [(.inr (some (.inl (ck_one 1))), (245 : Nat), ([], [], []))])
set_option maxRecDepth 100000 in
theorem p2_h7_s {X : Int → Int} {LX : Nat} : ck_Ok p2_O X LX 130 p2_h7 := ck_okq (cuts := []) (f := 88) ⟨p2_nmu, ck_E1 (ck_S1 p2_s278_s ck_S0) ck_E0⟩ (by decide +kernel)
set_option maxRecDepth 100000 in
/-- GlacierMailLaw.speed -/
noncomputable def p2_h8 : ck_Sum := (((9 : Nat), (2 : Nat), (12 : Nat)), (245 : Nat), [.inr (.inr (.inl (1 : Nat))), .inl ((0 : Int), (5 : Int), []), .inl ((0 : Int), (98 : Int), []), .inr (.inr (.inl (245 : Nat)))], ([], [], []), ([((245 : Nat), (0 : Int), (0 : Int))], []), [(.inr (some (.inl (ck_one 1))), (245 : Nat), ([], [], [])), (.inr (some (.inl (ck_one 0))), (245 : Nat), ([], [], [((245 : Nat), (0 : Int), (0 : Int), ((-1 : Int), (98 : Int), []))]))])
set_option maxRecDepth 100000 in
theorem p2_h8_s {X : Int → Int} {LX : Nat} : ck_Ok p2_O X LX 130 p2_h8 := ck_okq (cuts := []) (f := 92) ⟨p2_nmu, ck_E1 (ck_S1 p2_s282_s ck_S0) ck_E0⟩ (by decide +kernel)
set_option maxRecDepth 100000 in
/-- GlacierMailLaw.flow -/
noncomputable def p2_h9 : ck_Sum := (((9 : Nat), (1 : Nat), (6 : Nat)), (245 : Nat), [.inr (.inr (.inl (1 : Nat))), .inl ((-2147483648 : Int), (-1 : Int), []), .inl ((-2147483648 : Int), (2147483647 : Int), []), .inl ((-2147483648 : Int), (2147483647 : Int), []), .inr (.inr (.inl (245 : Nat)))], ([], [], []), ([], []), [(.inr (some (.inl (ck_one 1))), (245 : Nat), ([], [], []))])
set_option maxRecDepth 100000 in
theorem p2_h9_s {X : Int → Int} {LX : Nat} : ck_Ok p2_O X LX 135 p2_h9 := ck_okq (cuts := []) (f := 90) ⟨p2_nmu, ck_E1 (ck_S1 p2_s301_s ck_S0) ck_E0⟩ (by decide +kernel)
set_option maxRecDepth 100000 in
/-- GlacierMailLaw.flow -/
noncomputable def p2_h10 : ck_Sum := (((9 : Nat), (1 : Nat), (6 : Nat)), (245 : Nat), [.inr (.inr (.inl (1 : Nat))), .inl ((6 : Int), (2147483647 : Int), []), .inl ((-2147483648 : Int), (2147483647 : Int), []), .inl ((-2147483648 : Int), (2147483647 : Int), []), .inr (.inr (.inl (245 : Nat)))], ([], [], []), ([], []), [(.inr (some (.inl (ck_one 1))), (245 : Nat), ([], [], []))])
set_option maxRecDepth 100000 in
theorem p2_h10_s {X : Int → Int} {LX : Nat} : ck_Ok p2_O X LX 135 p2_h10 := ck_okq (cuts := []) (f := 90) ⟨p2_nmu, ck_E1 (ck_S1 p2_s302_s ck_S0) ck_E0⟩ (by decide +kernel)
set_option maxRecDepth 100000 in
/-- GlacierMailLaw.flow -/
noncomputable def p2_h11 : ck_Sum := (((9 : Nat), (2 : Nat), (12 : Nat)), (245 : Nat), [.inr (.inr (.inl (1 : Nat))), .inl ((0 : Int), (5 : Int), []), .inl ((-2147483648 : Int), (-1 : Int), []), .inl ((-2147483648 : Int), (2147483647 : Int), []), .inr (.inr (.inl (245 : Nat)))], ([], [], []), ([], []), [(.inr (some (.inl (ck_one 1))), (245 : Nat), ([], [], []))])
set_option maxRecDepth 100000 in
theorem p2_h11_s {X : Int → Int} {LX : Nat} : ck_Ok p2_O X LX 135 p2_h11 := ck_okq (cuts := []) (f := 90) ⟨p2_nmu, ck_E1 (ck_S1 p2_s303_s ck_S0) ck_E0⟩ (by decide +kernel)
set_option maxRecDepth 100000 in
/-- GlacierMailLaw.flow -/
noncomputable def p2_h12 : ck_Sum := (((9 : Nat), (2 : Nat), (12 : Nat)), (245 : Nat), [.inr (.inr (.inl (1 : Nat))), .inl ((0 : Int), (5 : Int), []), .inl ((99 : Int), (2147483647 : Int), []), .inl ((-2147483648 : Int), (2147483647 : Int), []), .inr (.inr (.inl (245 : Nat)))], ([], [], []), ([], []), [(.inr (some (.inl (ck_one 1))), (245 : Nat), ([], [], []))])
set_option maxRecDepth 100000 in
theorem p2_h12_s {X : Int → Int} {LX : Nat} : ck_Ok p2_O X LX 135 p2_h12 := ck_okq (cuts := []) (f := 90) ⟨p2_nmu, ck_E1 (ck_S1 p2_s304_s ck_S0) ck_E0⟩ (by decide +kernel)
set_option maxRecDepth 100000 in
/-- GlacierMailLaw.flow -/
noncomputable def p2_h13 : ck_Sum := (((9 : Nat), (3 : Nat), (18 : Nat)), (245 : Nat), [.inr (.inr (.inl (1 : Nat))), .inl ((0 : Int), (5 : Int), []), .inl ((0 : Int), (98 : Int), []), .inl ((-2147483648 : Int), (-1 : Int), []), .inr (.inr (.inl (245 : Nat)))], ([], [], []), ([], []), [(.inr (some (.inl (ck_one 1))), (245 : Nat), ([], [], [])), (.inr (some (.inl (ck_one 2))), (245 : Nat), ([], [], []))])
set_option maxRecDepth 100000 in
theorem p2_h13_s {X : Int → Int} {LX : Nat} : ck_Ok p2_O X LX 135 p2_h13 := ck_okq (cuts := []) (f := 90) ⟨p2_nmu, ck_E1 (ck_S1 p2_s305_s ck_S0) ck_E0⟩ (by decide +kernel)
set_option maxRecDepth 100000 in
/-- GlacierMailLaw.flow -/
noncomputable def p2_h14 : ck_Sum := (((9 : Nat), (3 : Nat), (18 : Nat)), (245 : Nat), [.inr (.inr (.inl (1 : Nat))), .inl ((0 : Int), (5 : Int), []), .inl ((0 : Int), (98 : Int), []), .inl ((300 : Int), (2147483647 : Int), []), .inr (.inr (.inl (245 : Nat)))], ([], [], []), ([], []), [(.inr (some (.inl (ck_one 1))), (245 : Nat), ([], [], [])), (.inr (some (.inl (ck_one 2))), (245 : Nat), ([], [], []))])
set_option maxRecDepth 100000 in
theorem p2_h14_s {X : Int → Int} {LX : Nat} : ck_Ok p2_O X LX 135 p2_h14 := ck_okq (cuts := []) (f := 90) ⟨p2_nmu, ck_E1 (ck_S1 p2_s306_s ck_S0) ck_E0⟩ (by decide +kernel)
set_option maxRecDepth 100000 in
/-- GlacierMailLaw.flow -/
noncomputable def p2_h15 : ck_Sum := (((9 : Nat), (2 : Nat), (12 : Nat)), (245 : Nat), [.inr (.inr (.inl (1 : Nat))), .inl ((0 : Int), (5 : Int), []), .inl ((0 : Int), (98 : Int), []), .inl ((0 : Int), (299 : Int), []), .inr (.inr (.inl (245 : Nat)))], ([], [((3 : Nat), (8 : Int), (0 : Nat))], []), ([((245 : Nat), (0 : Int), (0 : Int))], []), [(.inr (some (.inl (ck_one 1))), (245 : Nat), ([], [], [])), (.inr (some (.inl (ck_one 0))), (245 : Nat), ([], [], [((245 : Nat), (0 : Int), (0 : Int), ((-1 : Int), (98 : Int), []))]))])
set_option maxRecDepth 100000 in
theorem p2_h15_s {X : Int → Int} {LX : Nat} : ck_Ok p2_O X LX 135 p2_h15 := ck_okq (cuts := []) (f := 94) ⟨p2_nmu, ck_E1 (ck_S1 p2_s309_s ck_S0) ck_E0⟩ (by decide +kernel)
set_option maxRecDepth 100000 in
/-- GlacierMailLaw.person -/
noncomputable def p2_h16 : ck_Sum := (((9 : Nat), (1 : Nat), (6 : Nat)), (245 : Nat), [.inr (.inr (.inl (1 : Nat))), .inl ((-2147483648 : Int), (-1 : Int), []), .inl ((-2147483648 : Int), (2147483647 : Int), []), .inr (.inr (.inl (245 : Nat)))], ([], [], []), ([], []), [(.inr (some (.inl (ck_one 1))), (245 : Nat), ([], [], []))])
set_option maxRecDepth 100000 in
theorem p2_h16_s {X : Int → Int} {LX : Nat} : ck_Ok p2_O X LX 137 p2_h16 := ck_okq (cuts := []) (f := 88) ⟨p2_nmu, ck_E1 (ck_S1 p2_s323_s ck_S0) ck_E0⟩ (by decide +kernel)
set_option maxRecDepth 100000 in
/-- GlacierMailLaw.person -/
noncomputable def p2_h17 : ck_Sum := (((9 : Nat), (1 : Nat), (6 : Nat)), (245 : Nat), [.inr (.inr (.inl (1 : Nat))), .inl ((8 : Int), (2147483647 : Int), []), .inl ((-2147483648 : Int), (2147483647 : Int), []), .inr (.inr (.inl (245 : Nat)))], ([], [], []), ([], []), [(.inr (some (.inl (ck_one 1))), (245 : Nat), ([], [], []))])
set_option maxRecDepth 100000 in
theorem p2_h17_s {X : Int → Int} {LX : Nat} : ck_Ok p2_O X LX 137 p2_h17 := ck_okq (cuts := []) (f := 88) ⟨p2_nmu, ck_E1 (ck_S1 p2_s326_s ck_S0) ck_E0⟩ (by decide +kernel)
set_option maxRecDepth 100000 in
/-- GlacierMailLaw.person -/
noncomputable def p2_h18 : ck_Sum := (((9 : Nat), (2 : Nat), (12 : Nat)), (245 : Nat), [.inr (.inr (.inl (1 : Nat))), .inl ((0 : Int), (7 : Int), []), .inl ((-2147483648 : Int), (-1 : Int), []), .inr (.inr (.inl (245 : Nat)))], ([], [], []), ([], []), [(.inr (some (.inl (ck_one 1))), (245 : Nat), ([], [], [])), (.inr (some (.inl (ck_one 2))), (245 : Nat), ([], [], []))])
set_option maxRecDepth 100000 in
theorem p2_h18_s {X : Int → Int} {LX : Nat} : ck_Ok p2_O X LX 137 p2_h18 := ck_okq (cuts := []) (f := 88) ⟨p2_nmu, ck_E1 (ck_S1 p2_s329_s ck_S0) ck_E0⟩ (by decide +kernel)
set_option maxRecDepth 100000 in
/-- GlacierMailLaw.person -/
noncomputable def p2_h19 : ck_Sum := (((9 : Nat), (2 : Nat), (12 : Nat)), (245 : Nat), [.inr (.inr (.inl (1 : Nat))), .inl ((0 : Int), (7 : Int), []), .inl ((10 : Int), (2147483647 : Int), []), .inr (.inr (.inl (245 : Nat)))], ([], [], []), ([], []), [(.inr (some (.inl (ck_one 1))), (245 : Nat), ([], [], [])), (.inr (some (.inl (ck_one 2))), (245 : Nat), ([], [], []))])
set_option maxRecDepth 100000 in
theorem p2_h19_s {X : Int → Int} {LX : Nat} : ck_Ok p2_O X LX 137 p2_h19 := ck_okq (cuts := []) (f := 88) ⟨p2_nmu, ck_E1 (ck_S1 p2_s330_s ck_S0) ck_E0⟩ (by decide +kernel)
set_option maxRecDepth 100000 in
/-- GlacierMailLaw.letter -/
noncomputable def p2_h21 : ck_Sum := (((9 : Nat), (1 : Nat), (6 : Nat)), (245 : Nat), [.inr (.inr (.inl (1 : Nat))), .inl ((-2147483648 : Int), (-1 : Int), []), .inl ((-2147483648 : Int), (2147483647 : Int), []), .inr (.inr (.inl (245 : Nat)))], ([], [], []), ([], []), [(.inr (some (.inl (ck_one 1))), (245 : Nat), ([], [], []))])
set_option maxRecDepth 100000 in
theorem p2_h21_s {X : Int → Int} {LX : Nat} : ck_Ok p2_O X LX 141 p2_h21 := ck_okq (cuts := []) (f := 88) ⟨p2_nmu, ck_E1 (ck_S1 p2_s388_s ck_S0) ck_E0⟩ (by decide +kernel)
set_option maxRecDepth 100000 in
/-- GlacierMailLaw.letter -/
noncomputable def p2_h22 : ck_Sum := (((9 : Nat), (1 : Nat), (6 : Nat)), (245 : Nat), [.inr (.inr (.inl (1 : Nat))), .inl ((24 : Int), (2147483647 : Int), []), .inl ((-2147483648 : Int), (2147483647 : Int), []), .inr (.inr (.inl (245 : Nat)))], ([], [], []), ([], []), [(.inr (some (.inl (ck_one 1))), (245 : Nat), ([], [], []))])
set_option maxRecDepth 100000 in
theorem p2_h22_s {X : Int → Int} {LX : Nat} : ck_Ok p2_O X LX 141 p2_h22 := ck_okq (cuts := []) (f := 88) ⟨p2_nmu, ck_E1 (ck_S1 p2_s391_s ck_S0) ck_E0⟩ (by decide +kernel)
set_option maxRecDepth 100000 in
/-- GlacierMailLaw.letter -/
noncomputable def p2_h23 : ck_Sum := (((9 : Nat), (2 : Nat), (12 : Nat)), (245 : Nat), [.inr (.inr (.inl (1 : Nat))), .inl ((0 : Int), (23 : Int), []), .inl ((-2147483648 : Int), (-1 : Int), []), .inr (.inr (.inl (245 : Nat)))], ([], [], []), ([], []), [(.inr (some (.inl (ck_one 1))), (245 : Nat), ([], [], [])), (.inr (some (.inl (ck_one 2))), (245 : Nat), ([], [], []))])
set_option maxRecDepth 100000 in
theorem p2_h23_s {X : Int → Int} {LX : Nat} : ck_Ok p2_O X LX 141 p2_h23 := ck_okq (cuts := []) (f := 88) ⟨p2_nmu, ck_E1 (ck_S1 p2_s394_s ck_S0) ck_E0⟩ (by decide +kernel)
set_option maxRecDepth 100000 in
/-- GlacierMailLaw.letter -/
noncomputable def p2_h24 : ck_Sum := (((9 : Nat), (2 : Nat), (12 : Nat)), (245 : Nat), [.inr (.inr (.inl (1 : Nat))), .inl ((0 : Int), (23 : Int), []), .inl ((10 : Int), (2147483647 : Int), []), .inr (.inr (.inl (245 : Nat)))], ([], [], []), ([], []), [(.inr (some (.inl (ck_one 1))), (245 : Nat), ([], [], [])), (.inr (some (.inl (ck_one 2))), (245 : Nat), ([], [], []))])
set_option maxRecDepth 100000 in
theorem p2_h24_s {X : Int → Int} {LX : Nat} : ck_Ok p2_O X LX 141 p2_h24 := ck_okq (cuts := []) (f := 88) ⟨p2_nmu, ck_E1 (ck_S1 p2_s395_s ck_S0) ck_E0⟩ (by decide +kernel)
set_option maxRecDepth 100000 in
/-- GlacierMailLaw.letter -/
noncomputable def p2_h25 : ck_Sum := (((9 : Nat), (1 : Nat), (6 : Nat)), (245 : Nat), [.inr (.inr (.inl (1 : Nat))), .inl ((0 : Int), (23 : Int), []), .inl ((0 : Int), (9 : Int), []), .inr (.inr (.inl (245 : Nat)))], ([], [((3 : Nat), (8 : Int), (0 : Nat))], []), ([((206 : Nat), (2 : Int), (8 : Int)), ((245 : Nat), (0 : Int), (0 : Int))], []), [(.inr (some (.inl (ck_one 1))), (245 : Nat), ([], [], [])), (.inr (some (.inl (ck_one 0))), (245 : Nat), ([], [], [((245 : Nat), (0 : Int), (0 : Int), ((-2147483648 : Int), (299 : Int), []))]))])
set_option maxRecDepth 100000 in
theorem p2_h25_s {X : Int → Int} {LX : Nat} : ck_Ok p2_O X LX 141 p2_h25 := ck_okq (cuts := []) (f := 92) ⟨p2_nmu, ck_E1 (ck_S1 p2_s398_s ck_S0) ck_E0⟩ (by decide +kernel)
set_option maxRecDepth 100000 in
/-- GlacierMailLaw.where -/
noncomputable def p2_h26 : ck_Sum := (((9 : Nat), (1 : Nat), (6 : Nat)), (245 : Nat), [.inr (.inr (.inl (1 : Nat))), .inl ((-2147483648 : Int), (-1 : Int), []), .inl ((-2147483648 : Int), (2147483647 : Int), []), .inr (.inr (.inl (245 : Nat)))], ([], [], []), ([], []), [(.inr (some (.inl (ck_one 1))), (245 : Nat), ([], [], []))])
set_option maxRecDepth 100000 in
theorem p2_h26_s {X : Int → Int} {LX : Nat} : ck_Ok p2_O X LX 146 p2_h26 := ck_okq (cuts := []) (f := 88) ⟨p2_nmu, ck_E1 (ck_S1 p2_s417_s ck_S0) ck_E0⟩ (by decide +kernel)
set_option maxRecDepth 100000 in
/-- GlacierMailLaw.where -/
noncomputable def p2_h27 : ck_Sum := (((9 : Nat), (1 : Nat), (6 : Nat)), (245 : Nat), [.inr (.inr (.inl (1 : Nat))), .inl ((24 : Int), (2147483647 : Int), []), .inl ((-2147483648 : Int), (2147483647 : Int), []), .inr (.inr (.inl (245 : Nat)))], ([], [], []), ([], []), [(.inr (some (.inl (ck_one 1))), (245 : Nat), ([], [], []))])
set_option maxRecDepth 100000 in
theorem p2_h27_s {X : Int → Int} {LX : Nat} : ck_Ok p2_O X LX 146 p2_h27 := ck_okq (cuts := []) (f := 88) ⟨p2_nmu, ck_E1 (ck_S1 p2_s418_s ck_S0) ck_E0⟩ (by decide +kernel)
set_option maxRecDepth 100000 in
/-- GlacierMailLaw.where -/
noncomputable def p2_h28 : ck_Sum := (((9 : Nat), (2 : Nat), (12 : Nat)), (245 : Nat), [.inr (.inr (.inl (1 : Nat))), .inl ((0 : Int), (23 : Int), []), .inl ((-2147483648 : Int), (-1 : Int), []), .inr (.inr (.inl (245 : Nat)))], ([], [], []), ([], []), [(.inr (some (.inl (ck_one 1))), (245 : Nat), ([], [], [])), (.inr (some (.inl (ck_one 2))), (245 : Nat), ([], [], []))])
set_option maxRecDepth 100000 in
theorem p2_h28_s {X : Int → Int} {LX : Nat} : ck_Ok p2_O X LX 146 p2_h28 := ck_okq (cuts := []) (f := 88) ⟨p2_nmu, ck_E1 (ck_S1 p2_s419_s ck_S0) ck_E0⟩ (by decide +kernel)
set_option maxRecDepth 100000 in
/-- GlacierMailLaw.where -/
noncomputable def p2_h29 : ck_Sum := (((9 : Nat), (2 : Nat), (12 : Nat)), (245 : Nat), [.inr (.inr (.inl (1 : Nat))), .inl ((0 : Int), (23 : Int), []), .inl ((300 : Int), (2147483647 : Int), []), .inr (.inr (.inl (245 : Nat)))], ([], [], []), ([], []), [(.inr (some (.inl (ck_one 1))), (245 : Nat), ([], [], [])), (.inr (some (.inl (ck_one 2))), (245 : Nat), ([], [], []))])
set_option maxRecDepth 100000 in
theorem p2_h29_s {X : Int → Int} {LX : Nat} : ck_Ok p2_O X LX 146 p2_h29 := ck_okq (cuts := []) (f := 88) ⟨p2_nmu, ck_E1 (ck_S1 p2_s420_s ck_S0) ck_E0⟩ (by decide +kernel)
set_option maxRecDepth 100000 in
/-- GlacierMailLaw.where -/
noncomputable def p2_h30 : ck_Sum := (((9 : Nat), (1 : Nat), (6 : Nat)), (245 : Nat), [.inr (.inr (.inl (1 : Nat))), .inl ((0 : Int), (23 : Int), []), .inl ((0 : Int), (299 : Int), []), .inr (.inr (.inl (245 : Nat)))], ([], [((3 : Nat), (8 : Int), (0 : Nat))], []), ([((206 : Nat), (2 : Int), (8 : Int)), ((245 : Nat), (0 : Int), (0 : Int))], []), [(.inr (some (.inl (ck_one 1))), (245 : Nat), ([], [], [])), (.inr (some (.inl (ck_one 0))), (245 : Nat), ([], [], [((245 : Nat), (0 : Int), (0 : Int), ((-2147483648 : Int), (99 : Int), []))]))])
set_option maxRecDepth 100000 in
theorem p2_h30_s {X : Int → Int} {LX : Nat} : ck_Ok p2_O X LX 146 p2_h30 := ck_okq (cuts := []) (f := 92) ⟨p2_nmu, ck_E1 (ck_S1 p2_s422_s ck_S0) ck_E0⟩ (by decide +kernel)
set_option maxRecDepth 100000 in
/-- GlacierMailLaw.deep -/
noncomputable def p2_h31 : ck_Sum := (((9 : Nat), (1 : Nat), (6 : Nat)), (245 : Nat), [.inr (.inr (.inl (1 : Nat))), .inl ((-2147483648 : Int), (-1 : Int), []), .inl ((-2147483648 : Int), (2147483647 : Int), []), .inr (.inr (.inl (245 : Nat)))], ([], [], []), ([], []), [(.inr (some (.inl (ck_one 1))), (245 : Nat), ([], [], []))])
set_option maxRecDepth 100000 in
theorem p2_h31_s {X : Int → Int} {LX : Nat} : ck_Ok p2_O X LX 149 p2_h31 := ck_okq (cuts := []) (f := 88) ⟨p2_nmu, ck_E1 (ck_S1 p2_s428_s ck_S0) ck_E0⟩ (by decide +kernel)
set_option maxRecDepth 100000 in
/-- GlacierMailLaw.deep -/
noncomputable def p2_h32 : ck_Sum := (((9 : Nat), (1 : Nat), (6 : Nat)), (245 : Nat), [.inr (.inr (.inl (1 : Nat))), .inl ((24 : Int), (2147483647 : Int), []), .inl ((-2147483648 : Int), (2147483647 : Int), []), .inr (.inr (.inl (245 : Nat)))], ([], [], []), ([], []), [(.inr (some (.inl (ck_one 1))), (245 : Nat), ([], [], []))])
set_option maxRecDepth 100000 in
theorem p2_h32_s {X : Int → Int} {LX : Nat} : ck_Ok p2_O X LX 149 p2_h32 := ck_okq (cuts := []) (f := 88) ⟨p2_nmu, ck_E1 (ck_S1 p2_s429_s ck_S0) ck_E0⟩ (by decide +kernel)
set_option maxRecDepth 100000 in
/-- GlacierMailLaw.deep -/
noncomputable def p2_h33 : ck_Sum := (((9 : Nat), (2 : Nat), (12 : Nat)), (245 : Nat), [.inr (.inr (.inl (1 : Nat))), .inl ((0 : Int), (23 : Int), []), .inl ((-2147483648 : Int), (-1 : Int), []), .inr (.inr (.inl (245 : Nat)))], ([], [], []), ([], []), [(.inr (some (.inl (ck_one 1))), (245 : Nat), ([], [], [])), (.inr (some (.inl (ck_one 2))), (245 : Nat), ([], [], []))])
set_option maxRecDepth 100000 in
theorem p2_h33_s {X : Int → Int} {LX : Nat} : ck_Ok p2_O X LX 149 p2_h33 := ck_okq (cuts := []) (f := 88) ⟨p2_nmu, ck_E1 (ck_S1 p2_s430_s ck_S0) ck_E0⟩ (by decide +kernel)
set_option maxRecDepth 100000 in
/-- GlacierMailLaw.deep -/
noncomputable def p2_h34 : ck_Sum := (((9 : Nat), (2 : Nat), (12 : Nat)), (245 : Nat), [.inr (.inr (.inl (1 : Nat))), .inl ((0 : Int), (23 : Int), []), .inl ((300 : Int), (2147483647 : Int), []), .inr (.inr (.inl (245 : Nat)))], ([], [], []), ([], []), [(.inr (some (.inl (ck_one 1))), (245 : Nat), ([], [], [])), (.inr (some (.inl (ck_one 2))), (245 : Nat), ([], [], []))])
set_option maxRecDepth 100000 in
theorem p2_h34_s {X : Int → Int} {LX : Nat} : ck_Ok p2_O X LX 149 p2_h34 := ck_okq (cuts := []) (f := 88) ⟨p2_nmu, ck_E1 (ck_S1 p2_s431_s ck_S0) ck_E0⟩ (by decide +kernel)
set_option maxRecDepth 100000 in
/-- GlacierMailLaw.deep -/
noncomputable def p2_h35 : ck_Sum := (((9 : Nat), (1 : Nat), (6 : Nat)), (245 : Nat), [.inr (.inr (.inl (1 : Nat))), .inl ((0 : Int), (23 : Int), []), .inl ((0 : Int), (299 : Int), []), .inr (.inr (.inl (245 : Nat)))], ([], [((3 : Nat), (8 : Int), (0 : Nat))], []), ([((206 : Nat), (2 : Int), (8 : Int)), ((245 : Nat), (0 : Int), (0 : Int))], []), [(.inr (some (.inl (ck_one 1))), (245 : Nat), ([], [], [])), (.inr (some (.inl (ck_one 0))), (245 : Nat), ([], [], [((245 : Nat), (0 : Int), (0 : Int), ((-1 : Int), (99 : Int), []))]))])
set_option maxRecDepth 100000 in
theorem p2_h35_s {X : Int → Int} {LX : Nat} : ck_Ok p2_O X LX 149 p2_h35 := ck_okq (cuts := []) (f := 92) ⟨p2_nmu, ck_E1 (ck_S1 p2_s432_s ck_S0) ck_E0⟩ (by decide +kernel)
set_option maxRecDepth 100000 in
/-- GlacierMailLaw.post -/
noncomputable def p2_h36 : ck_Sum := (((9 : Nat), (1 : Nat), (6 : Nat)), (245 : Nat), [.inr (.inr (.inl (1 : Nat))), .inl ((-2147483648 : Int), (-1 : Int), []), .inl ((-2147483648 : Int), (2147483647 : Int), []), .inr (.inr (.inl (245 : Nat)))], ([], [], []), ([], []), [(.inr (some (.inl (ck_one 1))), (245 : Nat), ([], [], []))])
set_option maxRecDepth 100000 in
theorem p2_h36_s {X : Int → Int} {LX : Nat} : ck_Ok p2_O X LX 151 p2_h36 := ck_okq (cuts := []) (f := 88) ⟨p2_nmu, ck_E1 (ck_S1 p2_s438_s ck_S0) ck_E0⟩ (by decide +kernel)
set_option maxRecDepth 100000 in
/-- GlacierMailLaw.post -/
noncomputable def p2_h37 : ck_Sum := (((9 : Nat), (1 : Nat), (6 : Nat)), (245 : Nat), [.inr (.inr (.inl (1 : Nat))), .inl ((8 : Int), (2147483647 : Int), []), .inl ((-2147483648 : Int), (2147483647 : Int), []), .inr (.inr (.inl (245 : Nat)))], ([], [], []), ([], []), [(.inr (some (.inl (ck_one 1))), (245 : Nat), ([], [], []))])
set_option maxRecDepth 100000 in
theorem p2_h37_s {X : Int → Int} {LX : Nat} : ck_Ok p2_O X LX 151 p2_h37 := ck_okq (cuts := []) (f := 88) ⟨p2_nmu, ck_E1 (ck_S1 p2_s439_s ck_S0) ck_E0⟩ (by decide +kernel)
set_option maxRecDepth 100000 in
/-- GlacierMailLaw.post -/
noncomputable def p2_h38 : ck_Sum := (((9 : Nat), (2 : Nat), (12 : Nat)), (245 : Nat), [.inr (.inr (.inl (1 : Nat))), .inl ((0 : Int), (7 : Int), []), .inl ((-2147483648 : Int), (-1 : Int), []), .inr (.inr (.inl (245 : Nat)))], ([], [], []), ([], []), [(.inr (some (.inl (ck_one 1))), (245 : Nat), ([], [], []))])
set_option maxRecDepth 100000 in
theorem p2_h38_s {X : Int → Int} {LX : Nat} : ck_Ok p2_O X LX 151 p2_h38 := ck_okq (cuts := []) (f := 88) ⟨p2_nmu, ck_E1 (ck_S1 p2_s440_s ck_S0) ck_E0⟩ (by decide +kernel)
set_option maxRecDepth 100000 in
/-- GlacierMailLaw.post -/
noncomputable def p2_h39 : ck_Sum := (((9 : Nat), (2 : Nat), (12 : Nat)), (245 : Nat), [.inr (.inr (.inl (1 : Nat))), .inl ((0 : Int), (7 : Int), []), .inl ((8 : Int), (2147483647 : Int), []), .inr (.inr (.inl (245 : Nat)))], ([], [], []), ([], []), [(.inr (some (.inl (ck_one 1))), (245 : Nat), ([], [], []))])
set_option maxRecDepth 100000 in
theorem p2_h39_s {X : Int → Int} {LX : Nat} : ck_Ok p2_O X LX 151 p2_h39 := ck_okq (cuts := []) (f := 88) ⟨p2_nmu, ck_E1 (ck_S1 p2_s441_s ck_S0) ck_E0⟩ (by decide +kernel)
set_option maxRecDepth 100000 in
/-- GlacierMailLaw.post -/
noncomputable def p2_h40 : ck_Sum := (((9 : Nat), (4 : Nat), (24 : Nat)), (245 : Nat), [.inr (.inr (.inl (1 : Nat))), .inl ((0 : Int), (7 : Int), []), .inl ((0 : Int), (7 : Int), []), .inr (.inr (.inl (245 : Nat)))], ([], zl102, [((3 : Nat), (6 : Int), (6 : Int), ((0 : Int), (299 : Int), [((10 : Nat), (0 : Int))]))]), (zl256, zl104), [(.inr (some (.inl (ck_one 1))), (245 : Nat), ([], zl105, [])), (.inr (some (.inl (ck_one 3))), (245 : Nat), ([], zl105, [((10 : Nat), (3 : Int), (3 : Int), ck_one 24)])), (.inr (some (.inl (ck_one 0))), (245 : Nat), ([], zl107, zl257)), (.inr (some (.inl (ck_one 0))), (245 : Nat), ([], zl109, zl258)), (.inr (some (.inl (ck_one 0))), (245 : Nat), ([], zl111, zl259)), (.inr (some (.inl (ck_one 0))), (245 : Nat), ([], zl113, zl260)), (.inr (some (.inl (ck_one 0))), (245 : Nat), ([], zl115, zl261)), (.inr (some (.inl (ck_one 0))), (245 : Nat), ([], zl117, zl262)), (.inr (some (.inl (ck_one 0))), (245 : Nat), ([], zl119, zl263)), (.inr (some (.inl (ck_one 0))), (245 : Nat), ([], zl121, zl264)), (.inr (some (.inl (ck_one 0))), (245 : Nat), ([], zl123, zl265)), (.inr (some (.inl (ck_one 0))), (245 : Nat), ([], zl125, zl266)), (.inr (some (.inl (ck_one 0))), (245 : Nat), ([], zl127, zl267)), (.inr (some (.inl (ck_one 0))), (245 : Nat), ([], zl129, zl268)), (.inr (some (.inl (ck_one 0))), (245 : Nat), ([], zl105, zl269)), (.inr (some (.inl (ck_one 2))), (245 : Nat), ([], zl105, []))])
set_option maxRecDepth 100000 in
theorem p2_h40_s {X : Int → Int} {LX : Nat} : ck_Ok p2_O X LX 151 p2_h40 := ck_okq (cuts := []) (f := 92) ⟨p2_nmu, ck_E1 (ck_S1 p2_s546_s ck_S0) ck_E0⟩ (by decide +kernel)
set_option maxRecDepth 100000 in
/-- GlacierMailLaw.watch -/
noncomputable def p2_h41 : ck_Sum := (((9 : Nat), (1 : Nat), (6 : Nat)), (245 : Nat), [.inr (.inr (.inl (1 : Nat))), .inl ((-2147483648 : Int), (-1 : Int), []), .inl ((-2147483648 : Int), (2147483647 : Int), []), .inr (.inr (.inl (245 : Nat)))], ([], [], []), ([], []), [(.inr (some (.inl (ck_one 1))), (245 : Nat), ([], [], []))])
set_option maxRecDepth 100000 in
theorem p2_h41_s {X : Int → Int} {LX : Nat} : ck_Ok p2_O X LX 155 p2_h41 := ck_okq (cuts := []) (f := 88) ⟨p2_nmu, ck_E1 (ck_S1 p2_s558_s ck_S0) ck_E0⟩ (by decide +kernel)
set_option maxRecDepth 100000 in
/-- GlacierMailLaw.watch -/
noncomputable def p2_h42 : ck_Sum := (((9 : Nat), (1 : Nat), (6 : Nat)), (245 : Nat), [.inr (.inr (.inl (1 : Nat))), .inl ((8 : Int), (2147483647 : Int), []), .inl ((-2147483648 : Int), (2147483647 : Int), []), .inr (.inr (.inl (245 : Nat)))], ([], [], []), ([], []), [(.inr (some (.inl (ck_one 1))), (245 : Nat), ([], [], []))])
set_option maxRecDepth 100000 in
theorem p2_h42_s {X : Int → Int} {LX : Nat} : ck_Ok p2_O X LX 155 p2_h42 := ck_okq (cuts := []) (f := 88) ⟨p2_nmu, ck_E1 (ck_S1 p2_s559_s ck_S0) ck_E0⟩ (by decide +kernel)
set_option maxRecDepth 100000 in
/-- GlacierMailLaw.watch -/
noncomputable def p2_h43 : ck_Sum := (((9 : Nat), (2 : Nat), (12 : Nat)), (245 : Nat), [.inr (.inr (.inl (1 : Nat))), .inl ((0 : Int), (7 : Int), []), .inl ((-2147483648 : Int), (-1 : Int), []), .inr (.inr (.inl (245 : Nat)))], ([], zl102, [((3 : Nat), (6 : Int), (6 : Int), ((0 : Int), (299 : Int), [((10 : Nat), (0 : Int))]))]), (zl270, zl104), zl271)
set_option maxRecDepth 100000 in
theorem p2_h43_s {X : Int → Int} {LX : Nat} : ck_Ok p2_O X LX 155 p2_h43 := ck_okq (cuts := []) (f := 92) ⟨p2_nmu, ck_E1 (ck_S1 p2_s563_s ck_S0) ck_E0⟩ (by decide +kernel)
set_option maxRecDepth 100000 in
/-- GlacierMailLaw.watch -/
noncomputable def p2_h44 : ck_Sum := (((9 : Nat), (2 : Nat), (12 : Nat)), (245 : Nat), [.inr (.inr (.inl (1 : Nat))), .inl ((0 : Int), (7 : Int), []), .inl ((6 : Int), (2147483647 : Int), []), .inr (.inr (.inl (245 : Nat)))], ([], [], []), ([], []), [(.inr (some (.inl (ck_one 1))), (245 : Nat), ([], [], []))])
set_option maxRecDepth 100000 in
theorem p2_h44_s {X : Int → Int} {LX : Nat} : ck_Ok p2_O X LX 155 p2_h44 := ck_okq (cuts := []) (f := 88) ⟨p2_nmu, ck_E1 (ck_S1 p2_s564_s ck_S0) ck_E0⟩ (by decide +kernel)
set_option maxRecDepth 100000 in
/-- GlacierMailLaw.watch -/
noncomputable def p2_h45 : ck_Sum := (((9 : Nat), (2 : Nat), (12 : Nat)), (245 : Nat), [.inr (.inr (.inl (1 : Nat))), .inl ((0 : Int), (7 : Int), []), .inl ((0 : Int), (5 : Int), []), .inr (.inr (.inl (245 : Nat)))], ([], zl102, [((3 : Nat), (6 : Int), (6 : Int), ((0 : Int), (299 : Int), [((10 : Nat), (0 : Int))]))]), (zl270, zl104), zl271)
set_option maxRecDepth 100000 in
theorem p2_h45_s {X : Int → Int} {LX : Nat} : ck_Ok p2_O X LX 155 p2_h45 := ck_okq (cuts := []) (f := 92) ⟨p2_nmu, ck_E1 (ck_S1 p2_s566_s ck_S0) ck_E0⟩ (by decide +kernel)
set_option maxRecDepth 100000 in
/-- GlacierMailLaw.open -/
noncomputable def p2_h46 : ck_Sum := (((9 : Nat), (1 : Nat), (6 : Nat)), (245 : Nat), [.inr (.inr (.inl (1 : Nat))), .inl ((-2147483648 : Int), (-1 : Int), []), .inr (.inr (.inl (245 : Nat)))], ([], [], []), ([], []), [(.inr (some (.inl (ck_one 1))), (245 : Nat), ([], [], []))])
set_option maxRecDepth 100000 in
theorem p2_h46_s {X : Int → Int} {LX : Nat} : ck_Ok p2_O X LX 157 p2_h46 := ck_okq (cuts := []) (f := 86) ⟨p2_nmu, ck_E1 (ck_S1 p2_s575_s ck_S0) ck_E0⟩ (by decide +kernel)
set_option maxRecDepth 100000 in
/-- GlacierMailLaw.open -/
noncomputable def p2_h47 : ck_Sum := (((9 : Nat), (1 : Nat), (6 : Nat)), (245 : Nat), [.inr (.inr (.inl (1 : Nat))), .inl ((24 : Int), (2147483647 : Int), []), .inr (.inr (.inl (245 : Nat)))], ([], [], []), ([], []), [(.inr (some (.inl (ck_one 1))), (245 : Nat), ([], [], []))])
set_option maxRecDepth 100000 in
theorem p2_h47_s {X : Int → Int} {LX : Nat} : ck_Ok p2_O X LX 157 p2_h47 := ck_okq (cuts := []) (f := 86) ⟨p2_nmu, ck_E1 (ck_S1 p2_s576_s ck_S0) ck_E0⟩ (by decide +kernel)
set_option maxRecDepth 100000 in
/-- GlacierMailLaw.open -/
noncomputable def p2_h48 : ck_Sum := (((9 : Nat), (2 : Nat), (12 : Nat)), (245 : Nat), [.inr (.inr (.inl (1 : Nat))), .inl (ck_one 0), .inr (.inr (.inl (245 : Nat)))], ([], zl102, [((3 : Nat), (6 : Int), (6 : Int), ((0 : Int), (299 : Int), [((10 : Nat), (0 : Int))]))]), ([((1 : Nat), (15 : Int), (15 : Int)), ((11 : Nat), (5 : Int), (6 : Int)), ((14 : Nat), (3 : Int), (3 : Int)), ((15 : Nat), (0 : Int), (71 : Int)), ((42 : Nat), (1 : Int), (2 : Int)), ((44 : Nat), (0 : Int), (7 : Int)), ((45 : Nat), (3 : Int), (3 : Int)), ((46 : Nat), (0 : Int), (55 : Int)), ((47 : Nat), (3 : Int), (3 : Int)), ((48 : Nat), (0 : Int), (23 : Int)), ((49 : Nat), (3 : Int), (3 : Int)), ((50 : Nat), (0 : Int), (23 : Int)), ((51 : Nat), (3 : Int), (3 : Int)), ((52 : Nat), (0 : Int), (167 : Int)), ((53 : Nat), (3 : Int), (3 : Int)), ((54 : Nat), (0 : Int), (35 : Int)), ((55 : Nat), (3 : Int), (3 : Int)), ((56 : Nat), (0 : Int), (71 : Int)), ((57 : Nat), (0 : Int), (7 : Int)), ((58 : Nat), (3 : Int), (3 : Int)), ((59 : Nat), (0 : Int), (55 : Int)), ((60 : Nat), (3 : Int), (3 : Int)), ((61 : Nat), (0 : Int), (23 : Int)), ((62 : Nat), (3 : Int), (3 : Int)), ((63 : Nat), (0 : Int), (23 : Int)), ((64 : Nat), (3 : Int), (3 : Int)), ((65 : Nat), (0 : Int), (167 : Int)), ((66 : Nat), (3 : Int), (3 : Int)), ((67 : Nat), (0 : Int), (35 : Int)), ((68 : Nat), (3 : Int), (3 : Int)), ((69 : Nat), (0 : Int), (71 : Int)), ((70 : Nat), (0 : Int), (7 : Int)), ((71 : Nat), (3 : Int), (3 : Int)), ((72 : Nat), (0 : Int), (55 : Int)), ((73 : Nat), (3 : Int), (3 : Int)), ((74 : Nat), (0 : Int), (23 : Int)), ((75 : Nat), (3 : Int), (3 : Int)), ((76 : Nat), (0 : Int), (23 : Int)), ((77 : Nat), (3 : Int), (3 : Int)), ((78 : Nat), (0 : Int), (167 : Int)), ((79 : Nat), (3 : Int), (3 : Int)), ((80 : Nat), (0 : Int), (35 : Int)), ((81 : Nat), (3 : Int), (3 : Int)), ((82 : Nat), (0 : Int), (71 : Int)), ((83 : Nat), (0 : Int), (7 : Int)), ((84 : Nat), (3 : Int), (3 : Int)), ((85 : Nat), (0 : Int), (55 : Int)), ((86 : Nat), (3 : Int), (3 : Int)), ((87 : Nat), (0 : Int), (23 : Int)), ((88 : Nat), (3 : Int), (3 : Int)), ((89 : Nat), (0 : Int), (23 : Int)), ((90 : Nat), (3 : Int), (3 : Int)), ((91 : Nat), (0 : Int), (167 : Int)), ((92 : Nat), (3 : Int), (3 : Int)), ((93 : Nat), (0 : Int), (35 : Int)), ((94 : Nat), (3 : Int), (3 : Int)), ((95 : Nat), (0 : Int), (71 : Int)), ((96 : Nat), (0 : Int), (7 : Int)), ((97 : Nat), (3 : Int), (3 : Int)), ((98 : Nat), (0 : Int), (55 : Int)), ((99 : Nat), (3 : Int), (3 : Int)), ((100 : Nat), (0 : Int), (23 : Int)), ((101 : Nat), (3 : Int), (3 : Int)), ((102 : Nat), (0 : Int), (23 : Int)), ((103 : Nat), (3 : Int), (3 : Int)), ((104 : Nat), (0 : Int), (167 : Int)), ((105 : Nat), (3 : Int), (3 : Int)), ((106 : Nat), (0 : Int), (35 : Int)), ((107 : Nat), (3 : Int), (3 : Int)), ((108 : Nat), (0 : Int), (71 : Int)), ((109 : Nat), (0 : Int), (7 : Int)), ((110 : Nat), (3 : Int), (3 : Int)), ((111 : Nat), (0 : Int), (55 : Int)), ((112 : Nat), (3 : Int), (3 : Int)), ((113 : Nat), (0 : Int), (23 : Int)), ((114 : Nat), (3 : Int), (3 : Int)), ((115 : Nat), (0 : Int), (23 : Int)), ((116 : Nat), (3 : Int), (3 : Int)), ((117 : Nat), (0 : Int), (167 : Int)), ((118 : Nat), (3 : Int), (3 : Int)), ((119 : Nat), (0 : Int), (35 : Int)), ((120 : Nat), (3 : Int), (3 : Int)), ((121 : Nat), (0 : Int), (71 : Int)), ((122 : Nat), (0 : Int), (7 : Int)), ((123 : Nat), (3 : Int), (3 : Int)), ((124 : Nat), (0 : Int), (55 : Int)), ((125 : Nat), (3 : Int), (3 : Int)), ((126 : Nat), (0 : Int), (23 : Int)), ((127 : Nat), (3 : Int), (3 : Int)), ((128 : Nat), (0 : Int), (23 : Int)), ((129 : Nat), (3 : Int), (3 : Int)), ((130 : Nat), (0 : Int), (167 : Int)), ((131 : Nat), (3 : Int), (3 : Int)), ((132 : Nat), (0 : Int), (35 : Int)), ((133 : Nat), (3 : Int), (3 : Int)), ((134 : Nat), (0 : Int), (71 : Int)), ((135 : Nat), (0 : Int), (7 : Int)), ((136 : Nat), (3 : Int), (3 : Int)), ((137 : Nat), (0 : Int), (55 : Int)), ((138 : Nat), (3 : Int), (3 : Int)), ((139 : Nat), (0 : Int), (23 : Int)), ((140 : Nat), (3 : Int), (3 : Int)), ((141 : Nat), (0 : Int), (23 : Int)), ((142 : Nat), (3 : Int), (3 : Int)), ((143 : Nat), (0 : Int), (167 : Int)), ((144 : Nat), (3 : Int), (3 : Int)), ((145 : Nat), (0 : Int), (35 : Int)), ((146 : Nat), (3 : Int), (3 : Int)), ((147 : Nat), (0 : Int), (71 : Int)), ((148 : Nat), (0 : Int), (7 : Int)), ((149 : Nat), (3 : Int), (3 : Int)), ((150 : Nat), (0 : Int), (55 : Int)), ((151 : Nat), (3 : Int), (3 : Int)), ((152 : Nat), (0 : Int), (23 : Int)), ((153 : Nat), (3 : Int), (3 : Int)), ((154 : Nat), (0 : Int), (23 : Int)), ((155 : Nat), (3 : Int), (3 : Int)), ((156 : Nat), (0 : Int), (167 : Int)), ((157 : Nat), (3 : Int), (3 : Int)), ((158 : Nat), (0 : Int), (35 : Int)), ((159 : Nat), (3 : Int), (3 : Int)), ((160 : Nat), (0 : Int), (71 : Int)), ((161 : Nat), (0 : Int), (7 : Int)), ((162 : Nat), (3 : Int), (3 : Int)), ((163 : Nat), (0 : Int), (55 : Int)), ((164 : Nat), (3 : Int), (3 : Int)), ((165 : Nat), (0 : Int), (23 : Int)), ((166 : Nat), (3 : Int), (3 : Int)), ((167 : Nat), (0 : Int), (23 : Int)), ((168 : Nat), (3 : Int), (3 : Int)), ((169 : Nat), (0 : Int), (167 : Int)), ((170 : Nat), (3 : Int), (3 : Int)), ((171 : Nat), (0 : Int), (35 : Int)), ((172 : Nat), (3 : Int), (3 : Int)), ((173 : Nat), (0 : Int), (71 : Int)), ((174 : Nat), (0 : Int), (7 : Int)), ((175 : Nat), (3 : Int), (3 : Int)), ((176 : Nat), (0 : Int), (55 : Int)), ((177 : Nat), (3 : Int), (3 : Int)), ((178 : Nat), (0 : Int), (23 : Int)), ((179 : Nat), (3 : Int), (3 : Int)), ((180 : Nat), (0 : Int), (23 : Int)), ((181 : Nat), (3 : Int), (3 : Int)), ((182 : Nat), (0 : Int), (167 : Int)), ((183 : Nat), (3 : Int), (3 : Int)), ((184 : Nat), (0 : Int), (35 : Int)), ((185 : Nat), (3 : Int), (3 : Int)), ((186 : Nat), (0 : Int), (71 : Int)), ((187 : Nat), (0 : Int), (7 : Int)), ((188 : Nat), (3 : Int), (3 : Int)), ((189 : Nat), (0 : Int), (55 : Int)), ((190 : Nat), (3 : Int), (3 : Int)), ((191 : Nat), (0 : Int), (23 : Int)), ((192 : Nat), (3 : Int), (3 : Int)), ((193 : Nat), (0 : Int), (23 : Int)), ((194 : Nat), (3 : Int), (3 : Int)), ((195 : Nat), (0 : Int), (167 : Int)), ((196 : Nat), (3 : Int), (3 : Int)), ((197 : Nat), (0 : Int), (35 : Int)), ((198 : Nat), (3 : Int), (3 : Int)), ((199 : Nat), (0 : Int), (71 : Int)), ((206 : Nat), (2 : Int), (8 : Int)), ((220 : Nat), (3 : Int), (3 : Int)), ((221 : Nat), (0 : Int), (47 : Int)), ((245 : Nat), (0 : Int), (0 : Int))], zl104), zl272)
set_option maxRecDepth 100000 in
theorem p2_h48_s {X : Int → Int} {LX : Nat} : ck_Ok p2_O X LX 157 p2_h48 := ck_okq (cuts := []) (f := 90) ⟨p2_nmu, ck_E1 (ck_S1 p2_s591_s ck_S0) ck_E0⟩ (by decide +kernel)
set_option maxRecDepth 100000 in
/-- GlacierMailLaw.open -/
noncomputable def p2_h49 : ck_Sum := (((9 : Nat), (2 : Nat), (12 : Nat)), (245 : Nat), [.inr (.inr (.inl (1 : Nat))), .inl (ck_one 1), .inr (.inr (.inl (245 : Nat)))], ([], zl102, [((3 : Nat), (6 : Int), (6 : Int), ((0 : Int), (299 : Int), [((10 : Nat), (0 : Int))]))]), ([((1 : Nat), (15 : Int), (15 : Int)), ((11 : Nat), (12 : Int), (13 : Int)), ((14 : Nat), (3 : Int), (3 : Int)), ((15 : Nat), (0 : Int), (71 : Int)), ((42 : Nat), (1 : Int), (2 : Int)), ((44 : Nat), (0 : Int), (7 : Int)), ((45 : Nat), (3 : Int), (3 : Int)), ((46 : Nat), (0 : Int), (55 : Int)), ((47 : Nat), (3 : Int), (3 : Int)), ((48 : Nat), (0 : Int), (23 : Int)), ((49 : Nat), (3 : Int), (3 : Int)), ((50 : Nat), (0 : Int), (23 : Int)), ((51 : Nat), (3 : Int), (3 : Int)), ((52 : Nat), (0 : Int), (167 : Int)), ((53 : Nat), (3 : Int), (3 : Int)), ((54 : Nat), (0 : Int), (35 : Int)), ((55 : Nat), (3 : Int), (3 : Int)), ((56 : Nat), (0 : Int), (71 : Int)), ((57 : Nat), (0 : Int), (7 : Int)), ((58 : Nat), (3 : Int), (3 : Int)), ((59 : Nat), (0 : Int), (55 : Int)), ((60 : Nat), (3 : Int), (3 : Int)), ((61 : Nat), (0 : Int), (23 : Int)), ((62 : Nat), (3 : Int), (3 : Int)), ((63 : Nat), (0 : Int), (23 : Int)), ((64 : Nat), (3 : Int), (3 : Int)), ((65 : Nat), (0 : Int), (167 : Int)), ((66 : Nat), (3 : Int), (3 : Int)), ((67 : Nat), (0 : Int), (35 : Int)), ((68 : Nat), (3 : Int), (3 : Int)), ((69 : Nat), (0 : Int), (71 : Int)), ((70 : Nat), (0 : Int), (7 : Int)), ((71 : Nat), (3 : Int), (3 : Int)), ((72 : Nat), (0 : Int), (55 : Int)), ((73 : Nat), (3 : Int), (3 : Int)), ((74 : Nat), (0 : Int), (23 : Int)), ((75 : Nat), (3 : Int), (3 : Int)), ((76 : Nat), (0 : Int), (23 : Int)), ((77 : Nat), (3 : Int), (3 : Int)), ((78 : Nat), (0 : Int), (167 : Int)), ((79 : Nat), (3 : Int), (3 : Int)), ((80 : Nat), (0 : Int), (35 : Int)), ((81 : Nat), (3 : Int), (3 : Int)), ((82 : Nat), (0 : Int), (71 : Int)), ((83 : Nat), (0 : Int), (7 : Int)), ((84 : Nat), (3 : Int), (3 : Int)), ((85 : Nat), (0 : Int), (55 : Int)), ((86 : Nat), (3 : Int), (3 : Int)), ((87 : Nat), (0 : Int), (23 : Int)), ((88 : Nat), (3 : Int), (3 : Int)), ((89 : Nat), (0 : Int), (23 : Int)), ((90 : Nat), (3 : Int), (3 : Int)), ((91 : Nat), (0 : Int), (167 : Int)), ((92 : Nat), (3 : Int), (3 : Int)), ((93 : Nat), (0 : Int), (35 : Int)), ((94 : Nat), (3 : Int), (3 : Int)), ((95 : Nat), (0 : Int), (71 : Int)), ((96 : Nat), (0 : Int), (7 : Int)), ((97 : Nat), (3 : Int), (3 : Int)), ((98 : Nat), (0 : Int), (55 : Int)), ((99 : Nat), (3 : Int), (3 : Int)), ((100 : Nat), (0 : Int), (23 : Int)), ((101 : Nat), (3 : Int), (3 : Int)), ((102 : Nat), (0 : Int), (23 : Int)), ((103 : Nat), (3 : Int), (3 : Int)), ((104 : Nat), (0 : Int), (167 : Int)), ((105 : Nat), (3 : Int), (3 : Int)), ((106 : Nat), (0 : Int), (35 : Int)), ((107 : Nat), (3 : Int), (3 : Int)), ((108 : Nat), (0 : Int), (71 : Int)), ((109 : Nat), (0 : Int), (7 : Int)), ((110 : Nat), (3 : Int), (3 : Int)), ((111 : Nat), (0 : Int), (55 : Int)), ((112 : Nat), (3 : Int), (3 : Int)), ((113 : Nat), (0 : Int), (23 : Int)), ((114 : Nat), (3 : Int), (3 : Int)), ((115 : Nat), (0 : Int), (23 : Int)), ((116 : Nat), (3 : Int), (3 : Int)), ((117 : Nat), (0 : Int), (167 : Int)), ((118 : Nat), (3 : Int), (3 : Int)), ((119 : Nat), (0 : Int), (35 : Int)), ((120 : Nat), (3 : Int), (3 : Int)), ((121 : Nat), (0 : Int), (71 : Int)), ((122 : Nat), (0 : Int), (7 : Int)), ((123 : Nat), (3 : Int), (3 : Int)), ((124 : Nat), (0 : Int), (55 : Int)), ((125 : Nat), (3 : Int), (3 : Int)), ((126 : Nat), (0 : Int), (23 : Int)), ((127 : Nat), (3 : Int), (3 : Int)), ((128 : Nat), (0 : Int), (23 : Int)), ((129 : Nat), (3 : Int), (3 : Int)), ((130 : Nat), (0 : Int), (167 : Int)), ((131 : Nat), (3 : Int), (3 : Int)), ((132 : Nat), (0 : Int), (35 : Int)), ((133 : Nat), (3 : Int), (3 : Int)), ((134 : Nat), (0 : Int), (71 : Int)), ((135 : Nat), (0 : Int), (7 : Int)), ((136 : Nat), (3 : Int), (3 : Int)), ((137 : Nat), (0 : Int), (55 : Int)), ((138 : Nat), (3 : Int), (3 : Int)), ((139 : Nat), (0 : Int), (23 : Int)), ((140 : Nat), (3 : Int), (3 : Int)), ((141 : Nat), (0 : Int), (23 : Int)), ((142 : Nat), (3 : Int), (3 : Int)), ((143 : Nat), (0 : Int), (167 : Int)), ((144 : Nat), (3 : Int), (3 : Int)), ((145 : Nat), (0 : Int), (35 : Int)), ((146 : Nat), (3 : Int), (3 : Int)), ((147 : Nat), (0 : Int), (71 : Int)), ((148 : Nat), (0 : Int), (7 : Int)), ((149 : Nat), (3 : Int), (3 : Int)), ((150 : Nat), (0 : Int), (55 : Int)), ((151 : Nat), (3 : Int), (3 : Int)), ((152 : Nat), (0 : Int), (23 : Int)), ((153 : Nat), (3 : Int), (3 : Int)), ((154 : Nat), (0 : Int), (23 : Int)), ((155 : Nat), (3 : Int), (3 : Int)), ((156 : Nat), (0 : Int), (167 : Int)), ((157 : Nat), (3 : Int), (3 : Int)), ((158 : Nat), (0 : Int), (35 : Int)), ((159 : Nat), (3 : Int), (3 : Int)), ((160 : Nat), (0 : Int), (71 : Int)), ((161 : Nat), (0 : Int), (7 : Int)), ((162 : Nat), (3 : Int), (3 : Int)), ((163 : Nat), (0 : Int), (55 : Int)), ((164 : Nat), (3 : Int), (3 : Int)), ((165 : Nat), (0 : Int), (23 : Int)), ((166 : Nat), (3 : Int), (3 : Int)), ((167 : Nat), (0 : Int), (23 : Int)), ((168 : Nat), (3 : Int), (3 : Int)), ((169 : Nat), (0 : Int), (167 : Int)), ((170 : Nat), (3 : Int), (3 : Int)), ((171 : Nat), (0 : Int), (35 : Int)), ((172 : Nat), (3 : Int), (3 : Int)), ((173 : Nat), (0 : Int), (71 : Int)), ((174 : Nat), (0 : Int), (7 : Int)), ((175 : Nat), (3 : Int), (3 : Int)), ((176 : Nat), (0 : Int), (55 : Int)), ((177 : Nat), (3 : Int), (3 : Int)), ((178 : Nat), (0 : Int), (23 : Int)), ((179 : Nat), (3 : Int), (3 : Int)), ((180 : Nat), (0 : Int), (23 : Int)), ((181 : Nat), (3 : Int), (3 : Int)), ((182 : Nat), (0 : Int), (167 : Int)), ((183 : Nat), (3 : Int), (3 : Int)), ((184 : Nat), (0 : Int), (35 : Int)), ((185 : Nat), (3 : Int), (3 : Int)), ((186 : Nat), (0 : Int), (71 : Int)), ((187 : Nat), (0 : Int), (7 : Int)), ((188 : Nat), (3 : Int), (3 : Int)), ((189 : Nat), (0 : Int), (55 : Int)), ((190 : Nat), (3 : Int), (3 : Int)), ((191 : Nat), (0 : Int), (23 : Int)), ((192 : Nat), (3 : Int), (3 : Int)), ((193 : Nat), (0 : Int), (23 : Int)), ((194 : Nat), (3 : Int), (3 : Int)), ((195 : Nat), (0 : Int), (167 : Int)), ((196 : Nat), (3 : Int), (3 : Int)), ((197 : Nat), (0 : Int), (35 : Int)), ((198 : Nat), (3 : Int), (3 : Int)), ((199 : Nat), (0 : Int), (71 : Int)), ((206 : Nat), (2 : Int), (8 : Int)), ((220 : Nat), (3 : Int), (3 : Int)), ((221 : Nat), (0 : Int), (47 : Int)), ((245 : Nat), (0 : Int), (0 : Int))], zl104), zl272)
set_option maxRecDepth 100000 in
theorem p2_h49_s {X : Int → Int} {LX : Nat} : ck_Ok p2_O X LX 157 p2_h49 := ck_okq (cuts := []) (f := 90) ⟨p2_nmu, ck_E1 (ck_S1 p2_s601_s ck_S0) ck_E0⟩ (by decide +kernel)
set_option maxRecDepth 100000 in
/-- GlacierMailLaw.open -/
noncomputable def p2_h50 : ck_Sum := (((9 : Nat), (2 : Nat), (12 : Nat)), (245 : Nat), [.inr (.inr (.inl (1 : Nat))), .inl (ck_one 2), .inr (.inr (.inl (245 : Nat)))], ([], zl102, [((3 : Nat), (6 : Int), (6 : Int), ((0 : Int), (299 : Int), [((10 : Nat), (0 : Int))]))]), ([((1 : Nat), (15 : Int), (15 : Int)), ((11 : Nat), (19 : Int), (20 : Int)), ((14 : Nat), (3 : Int), (3 : Int)), ((15 : Nat), (0 : Int), (71 : Int)), ((42 : Nat), (1 : Int), (2 : Int)), ((44 : Nat), (0 : Int), (7 : Int)), ((45 : Nat), (3 : Int), (3 : Int)), ((46 : Nat), (0 : Int), (55 : Int)), ((47 : Nat), (3 : Int), (3 : Int)), ((48 : Nat), (0 : Int), (23 : Int)), ((49 : Nat), (3 : Int), (3 : Int)), ((50 : Nat), (0 : Int), (23 : Int)), ((51 : Nat), (3 : Int), (3 : Int)), ((52 : Nat), (0 : Int), (167 : Int)), ((53 : Nat), (3 : Int), (3 : Int)), ((54 : Nat), (0 : Int), (35 : Int)), ((55 : Nat), (3 : Int), (3 : Int)), ((56 : Nat), (0 : Int), (71 : Int)), ((57 : Nat), (0 : Int), (7 : Int)), ((58 : Nat), (3 : Int), (3 : Int)), ((59 : Nat), (0 : Int), (55 : Int)), ((60 : Nat), (3 : Int), (3 : Int)), ((61 : Nat), (0 : Int), (23 : Int)), ((62 : Nat), (3 : Int), (3 : Int)), ((63 : Nat), (0 : Int), (23 : Int)), ((64 : Nat), (3 : Int), (3 : Int)), ((65 : Nat), (0 : Int), (167 : Int)), ((66 : Nat), (3 : Int), (3 : Int)), ((67 : Nat), (0 : Int), (35 : Int)), ((68 : Nat), (3 : Int), (3 : Int)), ((69 : Nat), (0 : Int), (71 : Int)), ((70 : Nat), (0 : Int), (7 : Int)), ((71 : Nat), (3 : Int), (3 : Int)), ((72 : Nat), (0 : Int), (55 : Int)), ((73 : Nat), (3 : Int), (3 : Int)), ((74 : Nat), (0 : Int), (23 : Int)), ((75 : Nat), (3 : Int), (3 : Int)), ((76 : Nat), (0 : Int), (23 : Int)), ((77 : Nat), (3 : Int), (3 : Int)), ((78 : Nat), (0 : Int), (167 : Int)), ((79 : Nat), (3 : Int), (3 : Int)), ((80 : Nat), (0 : Int), (35 : Int)), ((81 : Nat), (3 : Int), (3 : Int)), ((82 : Nat), (0 : Int), (71 : Int)), ((83 : Nat), (0 : Int), (7 : Int)), ((84 : Nat), (3 : Int), (3 : Int)), ((85 : Nat), (0 : Int), (55 : Int)), ((86 : Nat), (3 : Int), (3 : Int)), ((87 : Nat), (0 : Int), (23 : Int)), ((88 : Nat), (3 : Int), (3 : Int)), ((89 : Nat), (0 : Int), (23 : Int)), ((90 : Nat), (3 : Int), (3 : Int)), ((91 : Nat), (0 : Int), (167 : Int)), ((92 : Nat), (3 : Int), (3 : Int)), ((93 : Nat), (0 : Int), (35 : Int)), ((94 : Nat), (3 : Int), (3 : Int)), ((95 : Nat), (0 : Int), (71 : Int)), ((96 : Nat), (0 : Int), (7 : Int)), ((97 : Nat), (3 : Int), (3 : Int)), ((98 : Nat), (0 : Int), (55 : Int)), ((99 : Nat), (3 : Int), (3 : Int)), ((100 : Nat), (0 : Int), (23 : Int)), ((101 : Nat), (3 : Int), (3 : Int)), ((102 : Nat), (0 : Int), (23 : Int)), ((103 : Nat), (3 : Int), (3 : Int)), ((104 : Nat), (0 : Int), (167 : Int)), ((105 : Nat), (3 : Int), (3 : Int)), ((106 : Nat), (0 : Int), (35 : Int)), ((107 : Nat), (3 : Int), (3 : Int)), ((108 : Nat), (0 : Int), (71 : Int)), ((109 : Nat), (0 : Int), (7 : Int)), ((110 : Nat), (3 : Int), (3 : Int)), ((111 : Nat), (0 : Int), (55 : Int)), ((112 : Nat), (3 : Int), (3 : Int)), ((113 : Nat), (0 : Int), (23 : Int)), ((114 : Nat), (3 : Int), (3 : Int)), ((115 : Nat), (0 : Int), (23 : Int)), ((116 : Nat), (3 : Int), (3 : Int)), ((117 : Nat), (0 : Int), (167 : Int)), ((118 : Nat), (3 : Int), (3 : Int)), ((119 : Nat), (0 : Int), (35 : Int)), ((120 : Nat), (3 : Int), (3 : Int)), ((121 : Nat), (0 : Int), (71 : Int)), ((122 : Nat), (0 : Int), (7 : Int)), ((123 : Nat), (3 : Int), (3 : Int)), ((124 : Nat), (0 : Int), (55 : Int)), ((125 : Nat), (3 : Int), (3 : Int)), ((126 : Nat), (0 : Int), (23 : Int)), ((127 : Nat), (3 : Int), (3 : Int)), ((128 : Nat), (0 : Int), (23 : Int)), ((129 : Nat), (3 : Int), (3 : Int)), ((130 : Nat), (0 : Int), (167 : Int)), ((131 : Nat), (3 : Int), (3 : Int)), ((132 : Nat), (0 : Int), (35 : Int)), ((133 : Nat), (3 : Int), (3 : Int)), ((134 : Nat), (0 : Int), (71 : Int)), ((135 : Nat), (0 : Int), (7 : Int)), ((136 : Nat), (3 : Int), (3 : Int)), ((137 : Nat), (0 : Int), (55 : Int)), ((138 : Nat), (3 : Int), (3 : Int)), ((139 : Nat), (0 : Int), (23 : Int)), ((140 : Nat), (3 : Int), (3 : Int)), ((141 : Nat), (0 : Int), (23 : Int)), ((142 : Nat), (3 : Int), (3 : Int)), ((143 : Nat), (0 : Int), (167 : Int)), ((144 : Nat), (3 : Int), (3 : Int)), ((145 : Nat), (0 : Int), (35 : Int)), ((146 : Nat), (3 : Int), (3 : Int)), ((147 : Nat), (0 : Int), (71 : Int)), ((148 : Nat), (0 : Int), (7 : Int)), ((149 : Nat), (3 : Int), (3 : Int)), ((150 : Nat), (0 : Int), (55 : Int)), ((151 : Nat), (3 : Int), (3 : Int)), ((152 : Nat), (0 : Int), (23 : Int)), ((153 : Nat), (3 : Int), (3 : Int)), ((154 : Nat), (0 : Int), (23 : Int)), ((155 : Nat), (3 : Int), (3 : Int)), ((156 : Nat), (0 : Int), (167 : Int)), ((157 : Nat), (3 : Int), (3 : Int)), ((158 : Nat), (0 : Int), (35 : Int)), ((159 : Nat), (3 : Int), (3 : Int)), ((160 : Nat), (0 : Int), (71 : Int)), ((161 : Nat), (0 : Int), (7 : Int)), ((162 : Nat), (3 : Int), (3 : Int)), ((163 : Nat), (0 : Int), (55 : Int)), ((164 : Nat), (3 : Int), (3 : Int)), ((165 : Nat), (0 : Int), (23 : Int)), ((166 : Nat), (3 : Int), (3 : Int)), ((167 : Nat), (0 : Int), (23 : Int)), ((168 : Nat), (3 : Int), (3 : Int)), ((169 : Nat), (0 : Int), (167 : Int)), ((170 : Nat), (3 : Int), (3 : Int)), ((171 : Nat), (0 : Int), (35 : Int)), ((172 : Nat), (3 : Int), (3 : Int)), ((173 : Nat), (0 : Int), (71 : Int)), ((174 : Nat), (0 : Int), (7 : Int)), ((175 : Nat), (3 : Int), (3 : Int)), ((176 : Nat), (0 : Int), (55 : Int)), ((177 : Nat), (3 : Int), (3 : Int)), ((178 : Nat), (0 : Int), (23 : Int)), ((179 : Nat), (3 : Int), (3 : Int)), ((180 : Nat), (0 : Int), (23 : Int)), ((181 : Nat), (3 : Int), (3 : Int)), ((182 : Nat), (0 : Int), (167 : Int)), ((183 : Nat), (3 : Int), (3 : Int)), ((184 : Nat), (0 : Int), (35 : Int)), ((185 : Nat), (3 : Int), (3 : Int)), ((186 : Nat), (0 : Int), (71 : Int)), ((187 : Nat), (0 : Int), (7 : Int)), ((188 : Nat), (3 : Int), (3 : Int)), ((189 : Nat), (0 : Int), (55 : Int)), ((190 : Nat), (3 : Int), (3 : Int)), ((191 : Nat), (0 : Int), (23 : Int)), ((192 : Nat), (3 : Int), (3 : Int)), ((193 : Nat), (0 : Int), (23 : Int)), ((194 : Nat), (3 : Int), (3 : Int)), ((195 : Nat), (0 : Int), (167 : Int)), ((196 : Nat), (3 : Int), (3 : Int)), ((197 : Nat), (0 : Int), (35 : Int)), ((198 : Nat), (3 : Int), (3 : Int)), ((199 : Nat), (0 : Int), (71 : Int)), ((206 : Nat), (2 : Int), (8 : Int)), ((220 : Nat), (3 : Int), (3 : Int)), ((221 : Nat), (0 : Int), (47 : Int)), ((245 : Nat), (0 : Int), (0 : Int))], zl104), zl272)
set_option maxRecDepth 100000 in
theorem p2_h50_s {X : Int → Int} {LX : Nat} : ck_Ok p2_O X LX 157 p2_h50 := ck_okq (cuts := []) (f := 90) ⟨p2_nmu, ck_E1 (ck_S1 p2_s611_s ck_S0) ck_E0⟩ (by decide +kernel)
set_option maxRecDepth 100000 in
/-- GlacierMailLaw.open -/
noncomputable def p2_h51 : ck_Sum := (((9 : Nat), (2 : Nat), (12 : Nat)), (245 : Nat), [.inr (.inr (.inl (1 : Nat))), .inl (ck_one 3), .inr (.inr (.inl (245 : Nat)))], ([], zl102, [((3 : Nat), (6 : Int), (6 : Int), ((0 : Int), (299 : Int), [((10 : Nat), (0 : Int))]))]), ([((1 : Nat), (15 : Int), (15 : Int)), ((11 : Nat), (26 : Int), (27 : Int)), ((14 : Nat), (3 : Int), (3 : Int)), ((15 : Nat), (0 : Int), (71 : Int)), ((42 : Nat), (1 : Int), (2 : Int)), ((44 : Nat), (0 : Int), (7 : Int)), ((45 : Nat), (3 : Int), (3 : Int)), ((46 : Nat), (0 : Int), (55 : Int)), ((47 : Nat), (3 : Int), (3 : Int)), ((48 : Nat), (0 : Int), (23 : Int)), ((49 : Nat), (3 : Int), (3 : Int)), ((50 : Nat), (0 : Int), (23 : Int)), ((51 : Nat), (3 : Int), (3 : Int)), ((52 : Nat), (0 : Int), (167 : Int)), ((53 : Nat), (3 : Int), (3 : Int)), ((54 : Nat), (0 : Int), (35 : Int)), ((55 : Nat), (3 : Int), (3 : Int)), ((56 : Nat), (0 : Int), (71 : Int)), ((57 : Nat), (0 : Int), (7 : Int)), ((58 : Nat), (3 : Int), (3 : Int)), ((59 : Nat), (0 : Int), (55 : Int)), ((60 : Nat), (3 : Int), (3 : Int)), ((61 : Nat), (0 : Int), (23 : Int)), ((62 : Nat), (3 : Int), (3 : Int)), ((63 : Nat), (0 : Int), (23 : Int)), ((64 : Nat), (3 : Int), (3 : Int)), ((65 : Nat), (0 : Int), (167 : Int)), ((66 : Nat), (3 : Int), (3 : Int)), ((67 : Nat), (0 : Int), (35 : Int)), ((68 : Nat), (3 : Int), (3 : Int)), ((69 : Nat), (0 : Int), (71 : Int)), ((70 : Nat), (0 : Int), (7 : Int)), ((71 : Nat), (3 : Int), (3 : Int)), ((72 : Nat), (0 : Int), (55 : Int)), ((73 : Nat), (3 : Int), (3 : Int)), ((74 : Nat), (0 : Int), (23 : Int)), ((75 : Nat), (3 : Int), (3 : Int)), ((76 : Nat), (0 : Int), (23 : Int)), ((77 : Nat), (3 : Int), (3 : Int)), ((78 : Nat), (0 : Int), (167 : Int)), ((79 : Nat), (3 : Int), (3 : Int)), ((80 : Nat), (0 : Int), (35 : Int)), ((81 : Nat), (3 : Int), (3 : Int)), ((82 : Nat), (0 : Int), (71 : Int)), ((83 : Nat), (0 : Int), (7 : Int)), ((84 : Nat), (3 : Int), (3 : Int)), ((85 : Nat), (0 : Int), (55 : Int)), ((86 : Nat), (3 : Int), (3 : Int)), ((87 : Nat), (0 : Int), (23 : Int)), ((88 : Nat), (3 : Int), (3 : Int)), ((89 : Nat), (0 : Int), (23 : Int)), ((90 : Nat), (3 : Int), (3 : Int)), ((91 : Nat), (0 : Int), (167 : Int)), ((92 : Nat), (3 : Int), (3 : Int)), ((93 : Nat), (0 : Int), (35 : Int)), ((94 : Nat), (3 : Int), (3 : Int)), ((95 : Nat), (0 : Int), (71 : Int)), ((96 : Nat), (0 : Int), (7 : Int)), ((97 : Nat), (3 : Int), (3 : Int)), ((98 : Nat), (0 : Int), (55 : Int)), ((99 : Nat), (3 : Int), (3 : Int)), ((100 : Nat), (0 : Int), (23 : Int)), ((101 : Nat), (3 : Int), (3 : Int)), ((102 : Nat), (0 : Int), (23 : Int)), ((103 : Nat), (3 : Int), (3 : Int)), ((104 : Nat), (0 : Int), (167 : Int)), ((105 : Nat), (3 : Int), (3 : Int)), ((106 : Nat), (0 : Int), (35 : Int)), ((107 : Nat), (3 : Int), (3 : Int)), ((108 : Nat), (0 : Int), (71 : Int)), ((109 : Nat), (0 : Int), (7 : Int)), ((110 : Nat), (3 : Int), (3 : Int)), ((111 : Nat), (0 : Int), (55 : Int)), ((112 : Nat), (3 : Int), (3 : Int)), ((113 : Nat), (0 : Int), (23 : Int)), ((114 : Nat), (3 : Int), (3 : Int)), ((115 : Nat), (0 : Int), (23 : Int)), ((116 : Nat), (3 : Int), (3 : Int)), ((117 : Nat), (0 : Int), (167 : Int)), ((118 : Nat), (3 : Int), (3 : Int)), ((119 : Nat), (0 : Int), (35 : Int)), ((120 : Nat), (3 : Int), (3 : Int)), ((121 : Nat), (0 : Int), (71 : Int)), ((122 : Nat), (0 : Int), (7 : Int)), ((123 : Nat), (3 : Int), (3 : Int)), ((124 : Nat), (0 : Int), (55 : Int)), ((125 : Nat), (3 : Int), (3 : Int)), ((126 : Nat), (0 : Int), (23 : Int)), ((127 : Nat), (3 : Int), (3 : Int)), ((128 : Nat), (0 : Int), (23 : Int)), ((129 : Nat), (3 : Int), (3 : Int)), ((130 : Nat), (0 : Int), (167 : Int)), ((131 : Nat), (3 : Int), (3 : Int)), ((132 : Nat), (0 : Int), (35 : Int)), ((133 : Nat), (3 : Int), (3 : Int)), ((134 : Nat), (0 : Int), (71 : Int)), ((135 : Nat), (0 : Int), (7 : Int)), ((136 : Nat), (3 : Int), (3 : Int)), ((137 : Nat), (0 : Int), (55 : Int)), ((138 : Nat), (3 : Int), (3 : Int)), ((139 : Nat), (0 : Int), (23 : Int)), ((140 : Nat), (3 : Int), (3 : Int)), ((141 : Nat), (0 : Int), (23 : Int)), ((142 : Nat), (3 : Int), (3 : Int)), ((143 : Nat), (0 : Int), (167 : Int)), ((144 : Nat), (3 : Int), (3 : Int)), ((145 : Nat), (0 : Int), (35 : Int)), ((146 : Nat), (3 : Int), (3 : Int)), ((147 : Nat), (0 : Int), (71 : Int)), ((148 : Nat), (0 : Int), (7 : Int)), ((149 : Nat), (3 : Int), (3 : Int)), ((150 : Nat), (0 : Int), (55 : Int)), ((151 : Nat), (3 : Int), (3 : Int)), ((152 : Nat), (0 : Int), (23 : Int)), ((153 : Nat), (3 : Int), (3 : Int)), ((154 : Nat), (0 : Int), (23 : Int)), ((155 : Nat), (3 : Int), (3 : Int)), ((156 : Nat), (0 : Int), (167 : Int)), ((157 : Nat), (3 : Int), (3 : Int)), ((158 : Nat), (0 : Int), (35 : Int)), ((159 : Nat), (3 : Int), (3 : Int)), ((160 : Nat), (0 : Int), (71 : Int)), ((161 : Nat), (0 : Int), (7 : Int)), ((162 : Nat), (3 : Int), (3 : Int)), ((163 : Nat), (0 : Int), (55 : Int)), ((164 : Nat), (3 : Int), (3 : Int)), ((165 : Nat), (0 : Int), (23 : Int)), ((166 : Nat), (3 : Int), (3 : Int)), ((167 : Nat), (0 : Int), (23 : Int)), ((168 : Nat), (3 : Int), (3 : Int)), ((169 : Nat), (0 : Int), (167 : Int)), ((170 : Nat), (3 : Int), (3 : Int)), ((171 : Nat), (0 : Int), (35 : Int)), ((172 : Nat), (3 : Int), (3 : Int)), ((173 : Nat), (0 : Int), (71 : Int)), ((174 : Nat), (0 : Int), (7 : Int)), ((175 : Nat), (3 : Int), (3 : Int)), ((176 : Nat), (0 : Int), (55 : Int)), ((177 : Nat), (3 : Int), (3 : Int)), ((178 : Nat), (0 : Int), (23 : Int)), ((179 : Nat), (3 : Int), (3 : Int)), ((180 : Nat), (0 : Int), (23 : Int)), ((181 : Nat), (3 : Int), (3 : Int)), ((182 : Nat), (0 : Int), (167 : Int)), ((183 : Nat), (3 : Int), (3 : Int)), ((184 : Nat), (0 : Int), (35 : Int)), ((185 : Nat), (3 : Int), (3 : Int)), ((186 : Nat), (0 : Int), (71 : Int)), ((187 : Nat), (0 : Int), (7 : Int)), ((188 : Nat), (3 : Int), (3 : Int)), ((189 : Nat), (0 : Int), (55 : Int)), ((190 : Nat), (3 : Int), (3 : Int)), ((191 : Nat), (0 : Int), (23 : Int)), ((192 : Nat), (3 : Int), (3 : Int)), ((193 : Nat), (0 : Int), (23 : Int)), ((194 : Nat), (3 : Int), (3 : Int)), ((195 : Nat), (0 : Int), (167 : Int)), ((196 : Nat), (3 : Int), (3 : Int)), ((197 : Nat), (0 : Int), (35 : Int)), ((198 : Nat), (3 : Int), (3 : Int)), ((199 : Nat), (0 : Int), (71 : Int)), ((206 : Nat), (2 : Int), (8 : Int)), ((220 : Nat), (3 : Int), (3 : Int)), ((221 : Nat), (0 : Int), (47 : Int)), ((245 : Nat), (0 : Int), (0 : Int))], zl104), zl272)
set_option maxRecDepth 100000 in
theorem p2_h51_s {X : Int → Int} {LX : Nat} : ck_Ok p2_O X LX 157 p2_h51 := ck_okq (cuts := []) (f := 90) ⟨p2_nmu, ck_E1 (ck_S1 p2_s621_s ck_S0) ck_E0⟩ (by decide +kernel)
set_option maxRecDepth 100000 in
/-- GlacierMailLaw.open -/
noncomputable def p2_h52 : ck_Sum := (((9 : Nat), (2 : Nat), (12 : Nat)), (245 : Nat), [.inr (.inr (.inl (1 : Nat))), .inl (ck_one 4), .inr (.inr (.inl (245 : Nat)))], ([], zl102, [((3 : Nat), (6 : Int), (6 : Int), ((0 : Int), (299 : Int), [((10 : Nat), (0 : Int))]))]), ([((1 : Nat), (15 : Int), (15 : Int)), ((11 : Nat), (33 : Int), (34 : Int)), ((14 : Nat), (3 : Int), (3 : Int)), ((15 : Nat), (0 : Int), (71 : Int)), ((42 : Nat), (1 : Int), (2 : Int)), ((44 : Nat), (0 : Int), (7 : Int)), ((45 : Nat), (3 : Int), (3 : Int)), ((46 : Nat), (0 : Int), (55 : Int)), ((47 : Nat), (3 : Int), (3 : Int)), ((48 : Nat), (0 : Int), (23 : Int)), ((49 : Nat), (3 : Int), (3 : Int)), ((50 : Nat), (0 : Int), (23 : Int)), ((51 : Nat), (3 : Int), (3 : Int)), ((52 : Nat), (0 : Int), (167 : Int)), ((53 : Nat), (3 : Int), (3 : Int)), ((54 : Nat), (0 : Int), (35 : Int)), ((55 : Nat), (3 : Int), (3 : Int)), ((56 : Nat), (0 : Int), (71 : Int)), ((57 : Nat), (0 : Int), (7 : Int)), ((58 : Nat), (3 : Int), (3 : Int)), ((59 : Nat), (0 : Int), (55 : Int)), ((60 : Nat), (3 : Int), (3 : Int)), ((61 : Nat), (0 : Int), (23 : Int)), ((62 : Nat), (3 : Int), (3 : Int)), ((63 : Nat), (0 : Int), (23 : Int)), ((64 : Nat), (3 : Int), (3 : Int)), ((65 : Nat), (0 : Int), (167 : Int)), ((66 : Nat), (3 : Int), (3 : Int)), ((67 : Nat), (0 : Int), (35 : Int)), ((68 : Nat), (3 : Int), (3 : Int)), ((69 : Nat), (0 : Int), (71 : Int)), ((70 : Nat), (0 : Int), (7 : Int)), ((71 : Nat), (3 : Int), (3 : Int)), ((72 : Nat), (0 : Int), (55 : Int)), ((73 : Nat), (3 : Int), (3 : Int)), ((74 : Nat), (0 : Int), (23 : Int)), ((75 : Nat), (3 : Int), (3 : Int)), ((76 : Nat), (0 : Int), (23 : Int)), ((77 : Nat), (3 : Int), (3 : Int)), ((78 : Nat), (0 : Int), (167 : Int)), ((79 : Nat), (3 : Int), (3 : Int)), ((80 : Nat), (0 : Int), (35 : Int)), ((81 : Nat), (3 : Int), (3 : Int)), ((82 : Nat), (0 : Int), (71 : Int)), ((83 : Nat), (0 : Int), (7 : Int)), ((84 : Nat), (3 : Int), (3 : Int)), ((85 : Nat), (0 : Int), (55 : Int)), ((86 : Nat), (3 : Int), (3 : Int)), ((87 : Nat), (0 : Int), (23 : Int)), ((88 : Nat), (3 : Int), (3 : Int)), ((89 : Nat), (0 : Int), (23 : Int)), ((90 : Nat), (3 : Int), (3 : Int)), ((91 : Nat), (0 : Int), (167 : Int)), ((92 : Nat), (3 : Int), (3 : Int)), ((93 : Nat), (0 : Int), (35 : Int)), ((94 : Nat), (3 : Int), (3 : Int)), ((95 : Nat), (0 : Int), (71 : Int)), ((96 : Nat), (0 : Int), (7 : Int)), ((97 : Nat), (3 : Int), (3 : Int)), ((98 : Nat), (0 : Int), (55 : Int)), ((99 : Nat), (3 : Int), (3 : Int)), ((100 : Nat), (0 : Int), (23 : Int)), ((101 : Nat), (3 : Int), (3 : Int)), ((102 : Nat), (0 : Int), (23 : Int)), ((103 : Nat), (3 : Int), (3 : Int)), ((104 : Nat), (0 : Int), (167 : Int)), ((105 : Nat), (3 : Int), (3 : Int)), ((106 : Nat), (0 : Int), (35 : Int)), ((107 : Nat), (3 : Int), (3 : Int)), ((108 : Nat), (0 : Int), (71 : Int)), ((109 : Nat), (0 : Int), (7 : Int)), ((110 : Nat), (3 : Int), (3 : Int)), ((111 : Nat), (0 : Int), (55 : Int)), ((112 : Nat), (3 : Int), (3 : Int)), ((113 : Nat), (0 : Int), (23 : Int)), ((114 : Nat), (3 : Int), (3 : Int)), ((115 : Nat), (0 : Int), (23 : Int)), ((116 : Nat), (3 : Int), (3 : Int)), ((117 : Nat), (0 : Int), (167 : Int)), ((118 : Nat), (3 : Int), (3 : Int)), ((119 : Nat), (0 : Int), (35 : Int)), ((120 : Nat), (3 : Int), (3 : Int)), ((121 : Nat), (0 : Int), (71 : Int)), ((122 : Nat), (0 : Int), (7 : Int)), ((123 : Nat), (3 : Int), (3 : Int)), ((124 : Nat), (0 : Int), (55 : Int)), ((125 : Nat), (3 : Int), (3 : Int)), ((126 : Nat), (0 : Int), (23 : Int)), ((127 : Nat), (3 : Int), (3 : Int)), ((128 : Nat), (0 : Int), (23 : Int)), ((129 : Nat), (3 : Int), (3 : Int)), ((130 : Nat), (0 : Int), (167 : Int)), ((131 : Nat), (3 : Int), (3 : Int)), ((132 : Nat), (0 : Int), (35 : Int)), ((133 : Nat), (3 : Int), (3 : Int)), ((134 : Nat), (0 : Int), (71 : Int)), ((135 : Nat), (0 : Int), (7 : Int)), ((136 : Nat), (3 : Int), (3 : Int)), ((137 : Nat), (0 : Int), (55 : Int)), ((138 : Nat), (3 : Int), (3 : Int)), ((139 : Nat), (0 : Int), (23 : Int)), ((140 : Nat), (3 : Int), (3 : Int)), ((141 : Nat), (0 : Int), (23 : Int)), ((142 : Nat), (3 : Int), (3 : Int)), ((143 : Nat), (0 : Int), (167 : Int)), ((144 : Nat), (3 : Int), (3 : Int)), ((145 : Nat), (0 : Int), (35 : Int)), ((146 : Nat), (3 : Int), (3 : Int)), ((147 : Nat), (0 : Int), (71 : Int)), ((148 : Nat), (0 : Int), (7 : Int)), ((149 : Nat), (3 : Int), (3 : Int)), ((150 : Nat), (0 : Int), (55 : Int)), ((151 : Nat), (3 : Int), (3 : Int)), ((152 : Nat), (0 : Int), (23 : Int)), ((153 : Nat), (3 : Int), (3 : Int)), ((154 : Nat), (0 : Int), (23 : Int)), ((155 : Nat), (3 : Int), (3 : Int)), ((156 : Nat), (0 : Int), (167 : Int)), ((157 : Nat), (3 : Int), (3 : Int)), ((158 : Nat), (0 : Int), (35 : Int)), ((159 : Nat), (3 : Int), (3 : Int)), ((160 : Nat), (0 : Int), (71 : Int)), ((161 : Nat), (0 : Int), (7 : Int)), ((162 : Nat), (3 : Int), (3 : Int)), ((163 : Nat), (0 : Int), (55 : Int)), ((164 : Nat), (3 : Int), (3 : Int)), ((165 : Nat), (0 : Int), (23 : Int)), ((166 : Nat), (3 : Int), (3 : Int)), ((167 : Nat), (0 : Int), (23 : Int)), ((168 : Nat), (3 : Int), (3 : Int)), ((169 : Nat), (0 : Int), (167 : Int)), ((170 : Nat), (3 : Int), (3 : Int)), ((171 : Nat), (0 : Int), (35 : Int)), ((172 : Nat), (3 : Int), (3 : Int)), ((173 : Nat), (0 : Int), (71 : Int)), ((174 : Nat), (0 : Int), (7 : Int)), ((175 : Nat), (3 : Int), (3 : Int)), ((176 : Nat), (0 : Int), (55 : Int)), ((177 : Nat), (3 : Int), (3 : Int)), ((178 : Nat), (0 : Int), (23 : Int)), ((179 : Nat), (3 : Int), (3 : Int)), ((180 : Nat), (0 : Int), (23 : Int)), ((181 : Nat), (3 : Int), (3 : Int)), ((182 : Nat), (0 : Int), (167 : Int)), ((183 : Nat), (3 : Int), (3 : Int)), ((184 : Nat), (0 : Int), (35 : Int)), ((185 : Nat), (3 : Int), (3 : Int)), ((186 : Nat), (0 : Int), (71 : Int)), ((187 : Nat), (0 : Int), (7 : Int)), ((188 : Nat), (3 : Int), (3 : Int)), ((189 : Nat), (0 : Int), (55 : Int)), ((190 : Nat), (3 : Int), (3 : Int)), ((191 : Nat), (0 : Int), (23 : Int)), ((192 : Nat), (3 : Int), (3 : Int)), ((193 : Nat), (0 : Int), (23 : Int)), ((194 : Nat), (3 : Int), (3 : Int)), ((195 : Nat), (0 : Int), (167 : Int)), ((196 : Nat), (3 : Int), (3 : Int)), ((197 : Nat), (0 : Int), (35 : Int)), ((198 : Nat), (3 : Int), (3 : Int)), ((199 : Nat), (0 : Int), (71 : Int)), ((206 : Nat), (2 : Int), (8 : Int)), ((220 : Nat), (3 : Int), (3 : Int)), ((221 : Nat), (0 : Int), (47 : Int)), ((245 : Nat), (0 : Int), (0 : Int))], zl104), zl272)
set_option maxRecDepth 100000 in
theorem p2_h52_s {X : Int → Int} {LX : Nat} : ck_Ok p2_O X LX 157 p2_h52 := ck_okq (cuts := []) (f := 90) ⟨p2_nmu, ck_E1 (ck_S1 p2_s631_s ck_S0) ck_E0⟩ (by decide +kernel)
set_option maxRecDepth 100000 in
/-- GlacierMailLaw.open -/
noncomputable def p2_h53 : ck_Sum := (((9 : Nat), (2 : Nat), (12 : Nat)), (245 : Nat), [.inr (.inr (.inl (1 : Nat))), .inl (ck_one 5), .inr (.inr (.inl (245 : Nat)))], ([], zl102, [((3 : Nat), (6 : Int), (6 : Int), ((0 : Int), (299 : Int), [((10 : Nat), (0 : Int))]))]), ([((1 : Nat), (15 : Int), (15 : Int)), ((11 : Nat), (40 : Int), (41 : Int)), ((14 : Nat), (3 : Int), (3 : Int)), ((15 : Nat), (0 : Int), (71 : Int)), ((42 : Nat), (1 : Int), (2 : Int)), ((44 : Nat), (0 : Int), (7 : Int)), ((45 : Nat), (3 : Int), (3 : Int)), ((46 : Nat), (0 : Int), (55 : Int)), ((47 : Nat), (3 : Int), (3 : Int)), ((48 : Nat), (0 : Int), (23 : Int)), ((49 : Nat), (3 : Int), (3 : Int)), ((50 : Nat), (0 : Int), (23 : Int)), ((51 : Nat), (3 : Int), (3 : Int)), ((52 : Nat), (0 : Int), (167 : Int)), ((53 : Nat), (3 : Int), (3 : Int)), ((54 : Nat), (0 : Int), (35 : Int)), ((55 : Nat), (3 : Int), (3 : Int)), ((56 : Nat), (0 : Int), (71 : Int)), ((57 : Nat), (0 : Int), (7 : Int)), ((58 : Nat), (3 : Int), (3 : Int)), ((59 : Nat), (0 : Int), (55 : Int)), ((60 : Nat), (3 : Int), (3 : Int)), ((61 : Nat), (0 : Int), (23 : Int)), ((62 : Nat), (3 : Int), (3 : Int)), ((63 : Nat), (0 : Int), (23 : Int)), ((64 : Nat), (3 : Int), (3 : Int)), ((65 : Nat), (0 : Int), (167 : Int)), ((66 : Nat), (3 : Int), (3 : Int)), ((67 : Nat), (0 : Int), (35 : Int)), ((68 : Nat), (3 : Int), (3 : Int)), ((69 : Nat), (0 : Int), (71 : Int)), ((70 : Nat), (0 : Int), (7 : Int)), ((71 : Nat), (3 : Int), (3 : Int)), ((72 : Nat), (0 : Int), (55 : Int)), ((73 : Nat), (3 : Int), (3 : Int)), ((74 : Nat), (0 : Int), (23 : Int)), ((75 : Nat), (3 : Int), (3 : Int)), ((76 : Nat), (0 : Int), (23 : Int)), ((77 : Nat), (3 : Int), (3 : Int)), ((78 : Nat), (0 : Int), (167 : Int)), ((79 : Nat), (3 : Int), (3 : Int)), ((80 : Nat), (0 : Int), (35 : Int)), ((81 : Nat), (3 : Int), (3 : Int)), ((82 : Nat), (0 : Int), (71 : Int)), ((83 : Nat), (0 : Int), (7 : Int)), ((84 : Nat), (3 : Int), (3 : Int)), ((85 : Nat), (0 : Int), (55 : Int)), ((86 : Nat), (3 : Int), (3 : Int)), ((87 : Nat), (0 : Int), (23 : Int)), ((88 : Nat), (3 : Int), (3 : Int)), ((89 : Nat), (0 : Int), (23 : Int)), ((90 : Nat), (3 : Int), (3 : Int)), ((91 : Nat), (0 : Int), (167 : Int)), ((92 : Nat), (3 : Int), (3 : Int)), ((93 : Nat), (0 : Int), (35 : Int)), ((94 : Nat), (3 : Int), (3 : Int)), ((95 : Nat), (0 : Int), (71 : Int)), ((96 : Nat), (0 : Int), (7 : Int)), ((97 : Nat), (3 : Int), (3 : Int)), ((98 : Nat), (0 : Int), (55 : Int)), ((99 : Nat), (3 : Int), (3 : Int)), ((100 : Nat), (0 : Int), (23 : Int)), ((101 : Nat), (3 : Int), (3 : Int)), ((102 : Nat), (0 : Int), (23 : Int)), ((103 : Nat), (3 : Int), (3 : Int)), ((104 : Nat), (0 : Int), (167 : Int)), ((105 : Nat), (3 : Int), (3 : Int)), ((106 : Nat), (0 : Int), (35 : Int)), ((107 : Nat), (3 : Int), (3 : Int)), ((108 : Nat), (0 : Int), (71 : Int)), ((109 : Nat), (0 : Int), (7 : Int)), ((110 : Nat), (3 : Int), (3 : Int)), ((111 : Nat), (0 : Int), (55 : Int)), ((112 : Nat), (3 : Int), (3 : Int)), ((113 : Nat), (0 : Int), (23 : Int)), ((114 : Nat), (3 : Int), (3 : Int)), ((115 : Nat), (0 : Int), (23 : Int)), ((116 : Nat), (3 : Int), (3 : Int)), ((117 : Nat), (0 : Int), (167 : Int)), ((118 : Nat), (3 : Int), (3 : Int)), ((119 : Nat), (0 : Int), (35 : Int)), ((120 : Nat), (3 : Int), (3 : Int)), ((121 : Nat), (0 : Int), (71 : Int)), ((122 : Nat), (0 : Int), (7 : Int)), ((123 : Nat), (3 : Int), (3 : Int)), ((124 : Nat), (0 : Int), (55 : Int)), ((125 : Nat), (3 : Int), (3 : Int)), ((126 : Nat), (0 : Int), (23 : Int)), ((127 : Nat), (3 : Int), (3 : Int)), ((128 : Nat), (0 : Int), (23 : Int)), ((129 : Nat), (3 : Int), (3 : Int)), ((130 : Nat), (0 : Int), (167 : Int)), ((131 : Nat), (3 : Int), (3 : Int)), ((132 : Nat), (0 : Int), (35 : Int)), ((133 : Nat), (3 : Int), (3 : Int)), ((134 : Nat), (0 : Int), (71 : Int)), ((135 : Nat), (0 : Int), (7 : Int)), ((136 : Nat), (3 : Int), (3 : Int)), ((137 : Nat), (0 : Int), (55 : Int)), ((138 : Nat), (3 : Int), (3 : Int)), ((139 : Nat), (0 : Int), (23 : Int)), ((140 : Nat), (3 : Int), (3 : Int)), ((141 : Nat), (0 : Int), (23 : Int)), ((142 : Nat), (3 : Int), (3 : Int)), ((143 : Nat), (0 : Int), (167 : Int)), ((144 : Nat), (3 : Int), (3 : Int)), ((145 : Nat), (0 : Int), (35 : Int)), ((146 : Nat), (3 : Int), (3 : Int)), ((147 : Nat), (0 : Int), (71 : Int)), ((148 : Nat), (0 : Int), (7 : Int)), ((149 : Nat), (3 : Int), (3 : Int)), ((150 : Nat), (0 : Int), (55 : Int)), ((151 : Nat), (3 : Int), (3 : Int)), ((152 : Nat), (0 : Int), (23 : Int)), ((153 : Nat), (3 : Int), (3 : Int)), ((154 : Nat), (0 : Int), (23 : Int)), ((155 : Nat), (3 : Int), (3 : Int)), ((156 : Nat), (0 : Int), (167 : Int)), ((157 : Nat), (3 : Int), (3 : Int)), ((158 : Nat), (0 : Int), (35 : Int)), ((159 : Nat), (3 : Int), (3 : Int)), ((160 : Nat), (0 : Int), (71 : Int)), ((161 : Nat), (0 : Int), (7 : Int)), ((162 : Nat), (3 : Int), (3 : Int)), ((163 : Nat), (0 : Int), (55 : Int)), ((164 : Nat), (3 : Int), (3 : Int)), ((165 : Nat), (0 : Int), (23 : Int)), ((166 : Nat), (3 : Int), (3 : Int)), ((167 : Nat), (0 : Int), (23 : Int)), ((168 : Nat), (3 : Int), (3 : Int)), ((169 : Nat), (0 : Int), (167 : Int)), ((170 : Nat), (3 : Int), (3 : Int)), ((171 : Nat), (0 : Int), (35 : Int)), ((172 : Nat), (3 : Int), (3 : Int)), ((173 : Nat), (0 : Int), (71 : Int)), ((174 : Nat), (0 : Int), (7 : Int)), ((175 : Nat), (3 : Int), (3 : Int)), ((176 : Nat), (0 : Int), (55 : Int)), ((177 : Nat), (3 : Int), (3 : Int)), ((178 : Nat), (0 : Int), (23 : Int)), ((179 : Nat), (3 : Int), (3 : Int)), ((180 : Nat), (0 : Int), (23 : Int)), ((181 : Nat), (3 : Int), (3 : Int)), ((182 : Nat), (0 : Int), (167 : Int)), ((183 : Nat), (3 : Int), (3 : Int)), ((184 : Nat), (0 : Int), (35 : Int)), ((185 : Nat), (3 : Int), (3 : Int)), ((186 : Nat), (0 : Int), (71 : Int)), ((187 : Nat), (0 : Int), (7 : Int)), ((188 : Nat), (3 : Int), (3 : Int)), ((189 : Nat), (0 : Int), (55 : Int)), ((190 : Nat), (3 : Int), (3 : Int)), ((191 : Nat), (0 : Int), (23 : Int)), ((192 : Nat), (3 : Int), (3 : Int)), ((193 : Nat), (0 : Int), (23 : Int)), ((194 : Nat), (3 : Int), (3 : Int)), ((195 : Nat), (0 : Int), (167 : Int)), ((196 : Nat), (3 : Int), (3 : Int)), ((197 : Nat), (0 : Int), (35 : Int)), ((198 : Nat), (3 : Int), (3 : Int)), ((199 : Nat), (0 : Int), (71 : Int)), ((206 : Nat), (2 : Int), (8 : Int)), ((220 : Nat), (3 : Int), (3 : Int)), ((221 : Nat), (0 : Int), (47 : Int)), ((245 : Nat), (0 : Int), (0 : Int))], zl104), zl272)
set_option maxRecDepth 100000 in
theorem p2_h53_s {X : Int → Int} {LX : Nat} : ck_Ok p2_O X LX 157 p2_h53 := ck_okq (cuts := []) (f := 90) ⟨p2_nmu, ck_E1 (ck_S1 p2_s641_s ck_S0) ck_E0⟩ (by decide +kernel)
set_option maxRecDepth 100000 in
/-- GlacierMailLaw.open -/
noncomputable def p2_h54 : ck_Sum := (((9 : Nat), (2 : Nat), (12 : Nat)), (245 : Nat), [.inr (.inr (.inl (1 : Nat))), .inl (ck_one 6), .inr (.inr (.inl (245 : Nat)))], ([], zl102, [((3 : Nat), (6 : Int), (6 : Int), ((0 : Int), (299 : Int), [((10 : Nat), (0 : Int))]))]), ([((1 : Nat), (15 : Int), (15 : Int)), ((11 : Nat), (47 : Int), (48 : Int)), ((14 : Nat), (3 : Int), (3 : Int)), ((15 : Nat), (0 : Int), (71 : Int)), ((42 : Nat), (1 : Int), (2 : Int)), ((44 : Nat), (0 : Int), (7 : Int)), ((45 : Nat), (3 : Int), (3 : Int)), ((46 : Nat), (0 : Int), (55 : Int)), ((47 : Nat), (3 : Int), (3 : Int)), ((48 : Nat), (0 : Int), (23 : Int)), ((49 : Nat), (3 : Int), (3 : Int)), ((50 : Nat), (0 : Int), (23 : Int)), ((51 : Nat), (3 : Int), (3 : Int)), ((52 : Nat), (0 : Int), (167 : Int)), ((53 : Nat), (3 : Int), (3 : Int)), ((54 : Nat), (0 : Int), (35 : Int)), ((55 : Nat), (3 : Int), (3 : Int)), ((56 : Nat), (0 : Int), (71 : Int)), ((57 : Nat), (0 : Int), (7 : Int)), ((58 : Nat), (3 : Int), (3 : Int)), ((59 : Nat), (0 : Int), (55 : Int)), ((60 : Nat), (3 : Int), (3 : Int)), ((61 : Nat), (0 : Int), (23 : Int)), ((62 : Nat), (3 : Int), (3 : Int)), ((63 : Nat), (0 : Int), (23 : Int)), ((64 : Nat), (3 : Int), (3 : Int)), ((65 : Nat), (0 : Int), (167 : Int)), ((66 : Nat), (3 : Int), (3 : Int)), ((67 : Nat), (0 : Int), (35 : Int)), ((68 : Nat), (3 : Int), (3 : Int)), ((69 : Nat), (0 : Int), (71 : Int)), ((70 : Nat), (0 : Int), (7 : Int)), ((71 : Nat), (3 : Int), (3 : Int)), ((72 : Nat), (0 : Int), (55 : Int)), ((73 : Nat), (3 : Int), (3 : Int)), ((74 : Nat), (0 : Int), (23 : Int)), ((75 : Nat), (3 : Int), (3 : Int)), ((76 : Nat), (0 : Int), (23 : Int)), ((77 : Nat), (3 : Int), (3 : Int)), ((78 : Nat), (0 : Int), (167 : Int)), ((79 : Nat), (3 : Int), (3 : Int)), ((80 : Nat), (0 : Int), (35 : Int)), ((81 : Nat), (3 : Int), (3 : Int)), ((82 : Nat), (0 : Int), (71 : Int)), ((83 : Nat), (0 : Int), (7 : Int)), ((84 : Nat), (3 : Int), (3 : Int)), ((85 : Nat), (0 : Int), (55 : Int)), ((86 : Nat), (3 : Int), (3 : Int)), ((87 : Nat), (0 : Int), (23 : Int)), ((88 : Nat), (3 : Int), (3 : Int)), ((89 : Nat), (0 : Int), (23 : Int)), ((90 : Nat), (3 : Int), (3 : Int)), ((91 : Nat), (0 : Int), (167 : Int)), ((92 : Nat), (3 : Int), (3 : Int)), ((93 : Nat), (0 : Int), (35 : Int)), ((94 : Nat), (3 : Int), (3 : Int)), ((95 : Nat), (0 : Int), (71 : Int)), ((96 : Nat), (0 : Int), (7 : Int)), ((97 : Nat), (3 : Int), (3 : Int)), ((98 : Nat), (0 : Int), (55 : Int)), ((99 : Nat), (3 : Int), (3 : Int)), ((100 : Nat), (0 : Int), (23 : Int)), ((101 : Nat), (3 : Int), (3 : Int)), ((102 : Nat), (0 : Int), (23 : Int)), ((103 : Nat), (3 : Int), (3 : Int)), ((104 : Nat), (0 : Int), (167 : Int)), ((105 : Nat), (3 : Int), (3 : Int)), ((106 : Nat), (0 : Int), (35 : Int)), ((107 : Nat), (3 : Int), (3 : Int)), ((108 : Nat), (0 : Int), (71 : Int)), ((109 : Nat), (0 : Int), (7 : Int)), ((110 : Nat), (3 : Int), (3 : Int)), ((111 : Nat), (0 : Int), (55 : Int)), ((112 : Nat), (3 : Int), (3 : Int)), ((113 : Nat), (0 : Int), (23 : Int)), ((114 : Nat), (3 : Int), (3 : Int)), ((115 : Nat), (0 : Int), (23 : Int)), ((116 : Nat), (3 : Int), (3 : Int)), ((117 : Nat), (0 : Int), (167 : Int)), ((118 : Nat), (3 : Int), (3 : Int)), ((119 : Nat), (0 : Int), (35 : Int)), ((120 : Nat), (3 : Int), (3 : Int)), ((121 : Nat), (0 : Int), (71 : Int)), ((122 : Nat), (0 : Int), (7 : Int)), ((123 : Nat), (3 : Int), (3 : Int)), ((124 : Nat), (0 : Int), (55 : Int)), ((125 : Nat), (3 : Int), (3 : Int)), ((126 : Nat), (0 : Int), (23 : Int)), ((127 : Nat), (3 : Int), (3 : Int)), ((128 : Nat), (0 : Int), (23 : Int)), ((129 : Nat), (3 : Int), (3 : Int)), ((130 : Nat), (0 : Int), (167 : Int)), ((131 : Nat), (3 : Int), (3 : Int)), ((132 : Nat), (0 : Int), (35 : Int)), ((133 : Nat), (3 : Int), (3 : Int)), ((134 : Nat), (0 : Int), (71 : Int)), ((135 : Nat), (0 : Int), (7 : Int)), ((136 : Nat), (3 : Int), (3 : Int)), ((137 : Nat), (0 : Int), (55 : Int)), ((138 : Nat), (3 : Int), (3 : Int)), ((139 : Nat), (0 : Int), (23 : Int)), ((140 : Nat), (3 : Int), (3 : Int)), ((141 : Nat), (0 : Int), (23 : Int)), ((142 : Nat), (3 : Int), (3 : Int)), ((143 : Nat), (0 : Int), (167 : Int)), ((144 : Nat), (3 : Int), (3 : Int)), ((145 : Nat), (0 : Int), (35 : Int)), ((146 : Nat), (3 : Int), (3 : Int)), ((147 : Nat), (0 : Int), (71 : Int)), ((148 : Nat), (0 : Int), (7 : Int)), ((149 : Nat), (3 : Int), (3 : Int)), ((150 : Nat), (0 : Int), (55 : Int)), ((151 : Nat), (3 : Int), (3 : Int)), ((152 : Nat), (0 : Int), (23 : Int)), ((153 : Nat), (3 : Int), (3 : Int)), ((154 : Nat), (0 : Int), (23 : Int)), ((155 : Nat), (3 : Int), (3 : Int)), ((156 : Nat), (0 : Int), (167 : Int)), ((157 : Nat), (3 : Int), (3 : Int)), ((158 : Nat), (0 : Int), (35 : Int)), ((159 : Nat), (3 : Int), (3 : Int)), ((160 : Nat), (0 : Int), (71 : Int)), ((161 : Nat), (0 : Int), (7 : Int)), ((162 : Nat), (3 : Int), (3 : Int)), ((163 : Nat), (0 : Int), (55 : Int)), ((164 : Nat), (3 : Int), (3 : Int)), ((165 : Nat), (0 : Int), (23 : Int)), ((166 : Nat), (3 : Int), (3 : Int)), ((167 : Nat), (0 : Int), (23 : Int)), ((168 : Nat), (3 : Int), (3 : Int)), ((169 : Nat), (0 : Int), (167 : Int)), ((170 : Nat), (3 : Int), (3 : Int)), ((171 : Nat), (0 : Int), (35 : Int)), ((172 : Nat), (3 : Int), (3 : Int)), ((173 : Nat), (0 : Int), (71 : Int)), ((174 : Nat), (0 : Int), (7 : Int)), ((175 : Nat), (3 : Int), (3 : Int)), ((176 : Nat), (0 : Int), (55 : Int)), ((177 : Nat), (3 : Int), (3 : Int)), ((178 : Nat), (0 : Int), (23 : Int)), ((179 : Nat), (3 : Int), (3 : Int)), ((180 : Nat), (0 : Int), (23 : Int)), ((181 : Nat), (3 : Int), (3 : Int)), ((182 : Nat), (0 : Int), (167 : Int)), ((183 : Nat), (3 : Int), (3 : Int)), ((184 : Nat), (0 : Int), (35 : Int)), ((185 : Nat), (3 : Int), (3 : Int)), ((186 : Nat), (0 : Int), (71 : Int)), ((187 : Nat), (0 : Int), (7 : Int)), ((188 : Nat), (3 : Int), (3 : Int)), ((189 : Nat), (0 : Int), (55 : Int)), ((190 : Nat), (3 : Int), (3 : Int)), ((191 : Nat), (0 : Int), (23 : Int)), ((192 : Nat), (3 : Int), (3 : Int)), ((193 : Nat), (0 : Int), (23 : Int)), ((194 : Nat), (3 : Int), (3 : Int)), ((195 : Nat), (0 : Int), (167 : Int)), ((196 : Nat), (3 : Int), (3 : Int)), ((197 : Nat), (0 : Int), (35 : Int)), ((198 : Nat), (3 : Int), (3 : Int)), ((199 : Nat), (0 : Int), (71 : Int)), ((206 : Nat), (2 : Int), (8 : Int)), ((220 : Nat), (3 : Int), (3 : Int)), ((221 : Nat), (0 : Int), (47 : Int)), ((245 : Nat), (0 : Int), (0 : Int))], zl104), zl272)
set_option maxRecDepth 100000 in
theorem p2_h54_s {X : Int → Int} {LX : Nat} : ck_Ok p2_O X LX 157 p2_h54 := ck_okq (cuts := []) (f := 90) ⟨p2_nmu, ck_E1 (ck_S1 p2_s651_s ck_S0) ck_E0⟩ (by decide +kernel)
set_option maxRecDepth 100000 in
/-- GlacierMailLaw.open -/
noncomputable def p2_h55 : ck_Sum := (((9 : Nat), (2 : Nat), (12 : Nat)), (245 : Nat), [.inr (.inr (.inl (1 : Nat))), .inl (ck_one 7), .inr (.inr (.inl (245 : Nat)))], ([], zl102, [((3 : Nat), (6 : Int), (6 : Int), ((0 : Int), (299 : Int), [((10 : Nat), (0 : Int))]))]), ([((1 : Nat), (15 : Int), (15 : Int)), ((11 : Nat), (54 : Int), (55 : Int)), ((14 : Nat), (3 : Int), (3 : Int)), ((15 : Nat), (0 : Int), (71 : Int)), ((42 : Nat), (1 : Int), (2 : Int)), ((44 : Nat), (0 : Int), (7 : Int)), ((45 : Nat), (3 : Int), (3 : Int)), ((46 : Nat), (0 : Int), (55 : Int)), ((47 : Nat), (3 : Int), (3 : Int)), ((48 : Nat), (0 : Int), (23 : Int)), ((49 : Nat), (3 : Int), (3 : Int)), ((50 : Nat), (0 : Int), (23 : Int)), ((51 : Nat), (3 : Int), (3 : Int)), ((52 : Nat), (0 : Int), (167 : Int)), ((53 : Nat), (3 : Int), (3 : Int)), ((54 : Nat), (0 : Int), (35 : Int)), ((55 : Nat), (3 : Int), (3 : Int)), ((56 : Nat), (0 : Int), (71 : Int)), ((57 : Nat), (0 : Int), (7 : Int)), ((58 : Nat), (3 : Int), (3 : Int)), ((59 : Nat), (0 : Int), (55 : Int)), ((60 : Nat), (3 : Int), (3 : Int)), ((61 : Nat), (0 : Int), (23 : Int)), ((62 : Nat), (3 : Int), (3 : Int)), ((63 : Nat), (0 : Int), (23 : Int)), ((64 : Nat), (3 : Int), (3 : Int)), ((65 : Nat), (0 : Int), (167 : Int)), ((66 : Nat), (3 : Int), (3 : Int)), ((67 : Nat), (0 : Int), (35 : Int)), ((68 : Nat), (3 : Int), (3 : Int)), ((69 : Nat), (0 : Int), (71 : Int)), ((70 : Nat), (0 : Int), (7 : Int)), ((71 : Nat), (3 : Int), (3 : Int)), ((72 : Nat), (0 : Int), (55 : Int)), ((73 : Nat), (3 : Int), (3 : Int)), ((74 : Nat), (0 : Int), (23 : Int)), ((75 : Nat), (3 : Int), (3 : Int)), ((76 : Nat), (0 : Int), (23 : Int)), ((77 : Nat), (3 : Int), (3 : Int)), ((78 : Nat), (0 : Int), (167 : Int)), ((79 : Nat), (3 : Int), (3 : Int)), ((80 : Nat), (0 : Int), (35 : Int)), ((81 : Nat), (3 : Int), (3 : Int)), ((82 : Nat), (0 : Int), (71 : Int)), ((83 : Nat), (0 : Int), (7 : Int)), ((84 : Nat), (3 : Int), (3 : Int)), ((85 : Nat), (0 : Int), (55 : Int)), ((86 : Nat), (3 : Int), (3 : Int)), ((87 : Nat), (0 : Int), (23 : Int)), ((88 : Nat), (3 : Int), (3 : Int)), ((89 : Nat), (0 : Int), (23 : Int)), ((90 : Nat), (3 : Int), (3 : Int)), ((91 : Nat), (0 : Int), (167 : Int)), ((92 : Nat), (3 : Int), (3 : Int)), ((93 : Nat), (0 : Int), (35 : Int)), ((94 : Nat), (3 : Int), (3 : Int)), ((95 : Nat), (0 : Int), (71 : Int)), ((96 : Nat), (0 : Int), (7 : Int)), ((97 : Nat), (3 : Int), (3 : Int)), ((98 : Nat), (0 : Int), (55 : Int)), ((99 : Nat), (3 : Int), (3 : Int)), ((100 : Nat), (0 : Int), (23 : Int)), ((101 : Nat), (3 : Int), (3 : Int)), ((102 : Nat), (0 : Int), (23 : Int)), ((103 : Nat), (3 : Int), (3 : Int)), ((104 : Nat), (0 : Int), (167 : Int)), ((105 : Nat), (3 : Int), (3 : Int)), ((106 : Nat), (0 : Int), (35 : Int)), ((107 : Nat), (3 : Int), (3 : Int)), ((108 : Nat), (0 : Int), (71 : Int)), ((109 : Nat), (0 : Int), (7 : Int)), ((110 : Nat), (3 : Int), (3 : Int)), ((111 : Nat), (0 : Int), (55 : Int)), ((112 : Nat), (3 : Int), (3 : Int)), ((113 : Nat), (0 : Int), (23 : Int)), ((114 : Nat), (3 : Int), (3 : Int)), ((115 : Nat), (0 : Int), (23 : Int)), ((116 : Nat), (3 : Int), (3 : Int)), ((117 : Nat), (0 : Int), (167 : Int)), ((118 : Nat), (3 : Int), (3 : Int)), ((119 : Nat), (0 : Int), (35 : Int)), ((120 : Nat), (3 : Int), (3 : Int)), ((121 : Nat), (0 : Int), (71 : Int)), ((122 : Nat), (0 : Int), (7 : Int)), ((123 : Nat), (3 : Int), (3 : Int)), ((124 : Nat), (0 : Int), (55 : Int)), ((125 : Nat), (3 : Int), (3 : Int)), ((126 : Nat), (0 : Int), (23 : Int)), ((127 : Nat), (3 : Int), (3 : Int)), ((128 : Nat), (0 : Int), (23 : Int)), ((129 : Nat), (3 : Int), (3 : Int)), ((130 : Nat), (0 : Int), (167 : Int)), ((131 : Nat), (3 : Int), (3 : Int)), ((132 : Nat), (0 : Int), (35 : Int)), ((133 : Nat), (3 : Int), (3 : Int)), ((134 : Nat), (0 : Int), (71 : Int)), ((135 : Nat), (0 : Int), (7 : Int)), ((136 : Nat), (3 : Int), (3 : Int)), ((137 : Nat), (0 : Int), (55 : Int)), ((138 : Nat), (3 : Int), (3 : Int)), ((139 : Nat), (0 : Int), (23 : Int)), ((140 : Nat), (3 : Int), (3 : Int)), ((141 : Nat), (0 : Int), (23 : Int)), ((142 : Nat), (3 : Int), (3 : Int)), ((143 : Nat), (0 : Int), (167 : Int)), ((144 : Nat), (3 : Int), (3 : Int)), ((145 : Nat), (0 : Int), (35 : Int)), ((146 : Nat), (3 : Int), (3 : Int)), ((147 : Nat), (0 : Int), (71 : Int)), ((148 : Nat), (0 : Int), (7 : Int)), ((149 : Nat), (3 : Int), (3 : Int)), ((150 : Nat), (0 : Int), (55 : Int)), ((151 : Nat), (3 : Int), (3 : Int)), ((152 : Nat), (0 : Int), (23 : Int)), ((153 : Nat), (3 : Int), (3 : Int)), ((154 : Nat), (0 : Int), (23 : Int)), ((155 : Nat), (3 : Int), (3 : Int)), ((156 : Nat), (0 : Int), (167 : Int)), ((157 : Nat), (3 : Int), (3 : Int)), ((158 : Nat), (0 : Int), (35 : Int)), ((159 : Nat), (3 : Int), (3 : Int)), ((160 : Nat), (0 : Int), (71 : Int)), ((161 : Nat), (0 : Int), (7 : Int)), ((162 : Nat), (3 : Int), (3 : Int)), ((163 : Nat), (0 : Int), (55 : Int)), ((164 : Nat), (3 : Int), (3 : Int)), ((165 : Nat), (0 : Int), (23 : Int)), ((166 : Nat), (3 : Int), (3 : Int)), ((167 : Nat), (0 : Int), (23 : Int)), ((168 : Nat), (3 : Int), (3 : Int)), ((169 : Nat), (0 : Int), (167 : Int)), ((170 : Nat), (3 : Int), (3 : Int)), ((171 : Nat), (0 : Int), (35 : Int)), ((172 : Nat), (3 : Int), (3 : Int)), ((173 : Nat), (0 : Int), (71 : Int)), ((174 : Nat), (0 : Int), (7 : Int)), ((175 : Nat), (3 : Int), (3 : Int)), ((176 : Nat), (0 : Int), (55 : Int)), ((177 : Nat), (3 : Int), (3 : Int)), ((178 : Nat), (0 : Int), (23 : Int)), ((179 : Nat), (3 : Int), (3 : Int)), ((180 : Nat), (0 : Int), (23 : Int)), ((181 : Nat), (3 : Int), (3 : Int)), ((182 : Nat), (0 : Int), (167 : Int)), ((183 : Nat), (3 : Int), (3 : Int)), ((184 : Nat), (0 : Int), (35 : Int)), ((185 : Nat), (3 : Int), (3 : Int)), ((186 : Nat), (0 : Int), (71 : Int)), ((187 : Nat), (0 : Int), (7 : Int)), ((188 : Nat), (3 : Int), (3 : Int)), ((189 : Nat), (0 : Int), (55 : Int)), ((190 : Nat), (3 : Int), (3 : Int)), ((191 : Nat), (0 : Int), (23 : Int)), ((192 : Nat), (3 : Int), (3 : Int)), ((193 : Nat), (0 : Int), (23 : Int)), ((194 : Nat), (3 : Int), (3 : Int)), ((195 : Nat), (0 : Int), (167 : Int)), ((196 : Nat), (3 : Int), (3 : Int)), ((197 : Nat), (0 : Int), (35 : Int)), ((198 : Nat), (3 : Int), (3 : Int)), ((199 : Nat), (0 : Int), (71 : Int)), ((206 : Nat), (2 : Int), (8 : Int)), ((220 : Nat), (3 : Int), (3 : Int)), ((221 : Nat), (0 : Int), (47 : Int)), ((245 : Nat), (0 : Int), (0 : Int))], zl104), zl272)
set_option maxRecDepth 100000 in
theorem p2_h55_s {X : Int → Int} {LX : Nat} : ck_Ok p2_O X LX 157 p2_h55 := ck_okq (cuts := []) (f := 90) ⟨p2_nmu, ck_E1 (ck_S1 p2_s661_s ck_S0) ck_E0⟩ (by decide +kernel)
set_option maxRecDepth 100000 in
/-- GlacierMailLaw.open -/
noncomputable def p2_h56 : ck_Sum := (((9 : Nat), (2 : Nat), (12 : Nat)), (245 : Nat), [.inr (.inr (.inl (1 : Nat))), .inl (ck_one 8), .inr (.inr (.inl (245 : Nat)))], ([], zl102, [((3 : Nat), (6 : Int), (6 : Int), ((0 : Int), (299 : Int), [((10 : Nat), (0 : Int))]))]), ([((1 : Nat), (15 : Int), (15 : Int)), ((11 : Nat), (61 : Int), (62 : Int)), ((14 : Nat), (3 : Int), (3 : Int)), ((15 : Nat), (0 : Int), (71 : Int)), ((42 : Nat), (1 : Int), (2 : Int)), ((44 : Nat), (0 : Int), (7 : Int)), ((45 : Nat), (3 : Int), (3 : Int)), ((46 : Nat), (0 : Int), (55 : Int)), ((47 : Nat), (3 : Int), (3 : Int)), ((48 : Nat), (0 : Int), (23 : Int)), ((49 : Nat), (3 : Int), (3 : Int)), ((50 : Nat), (0 : Int), (23 : Int)), ((51 : Nat), (3 : Int), (3 : Int)), ((52 : Nat), (0 : Int), (167 : Int)), ((53 : Nat), (3 : Int), (3 : Int)), ((54 : Nat), (0 : Int), (35 : Int)), ((55 : Nat), (3 : Int), (3 : Int)), ((56 : Nat), (0 : Int), (71 : Int)), ((57 : Nat), (0 : Int), (7 : Int)), ((58 : Nat), (3 : Int), (3 : Int)), ((59 : Nat), (0 : Int), (55 : Int)), ((60 : Nat), (3 : Int), (3 : Int)), ((61 : Nat), (0 : Int), (23 : Int)), ((62 : Nat), (3 : Int), (3 : Int)), ((63 : Nat), (0 : Int), (23 : Int)), ((64 : Nat), (3 : Int), (3 : Int)), ((65 : Nat), (0 : Int), (167 : Int)), ((66 : Nat), (3 : Int), (3 : Int)), ((67 : Nat), (0 : Int), (35 : Int)), ((68 : Nat), (3 : Int), (3 : Int)), ((69 : Nat), (0 : Int), (71 : Int)), ((70 : Nat), (0 : Int), (7 : Int)), ((71 : Nat), (3 : Int), (3 : Int)), ((72 : Nat), (0 : Int), (55 : Int)), ((73 : Nat), (3 : Int), (3 : Int)), ((74 : Nat), (0 : Int), (23 : Int)), ((75 : Nat), (3 : Int), (3 : Int)), ((76 : Nat), (0 : Int), (23 : Int)), ((77 : Nat), (3 : Int), (3 : Int)), ((78 : Nat), (0 : Int), (167 : Int)), ((79 : Nat), (3 : Int), (3 : Int)), ((80 : Nat), (0 : Int), (35 : Int)), ((81 : Nat), (3 : Int), (3 : Int)), ((82 : Nat), (0 : Int), (71 : Int)), ((83 : Nat), (0 : Int), (7 : Int)), ((84 : Nat), (3 : Int), (3 : Int)), ((85 : Nat), (0 : Int), (55 : Int)), ((86 : Nat), (3 : Int), (3 : Int)), ((87 : Nat), (0 : Int), (23 : Int)), ((88 : Nat), (3 : Int), (3 : Int)), ((89 : Nat), (0 : Int), (23 : Int)), ((90 : Nat), (3 : Int), (3 : Int)), ((91 : Nat), (0 : Int), (167 : Int)), ((92 : Nat), (3 : Int), (3 : Int)), ((93 : Nat), (0 : Int), (35 : Int)), ((94 : Nat), (3 : Int), (3 : Int)), ((95 : Nat), (0 : Int), (71 : Int)), ((96 : Nat), (0 : Int), (7 : Int)), ((97 : Nat), (3 : Int), (3 : Int)), ((98 : Nat), (0 : Int), (55 : Int)), ((99 : Nat), (3 : Int), (3 : Int)), ((100 : Nat), (0 : Int), (23 : Int)), ((101 : Nat), (3 : Int), (3 : Int)), ((102 : Nat), (0 : Int), (23 : Int)), ((103 : Nat), (3 : Int), (3 : Int)), ((104 : Nat), (0 : Int), (167 : Int)), ((105 : Nat), (3 : Int), (3 : Int)), ((106 : Nat), (0 : Int), (35 : Int)), ((107 : Nat), (3 : Int), (3 : Int)), ((108 : Nat), (0 : Int), (71 : Int)), ((109 : Nat), (0 : Int), (7 : Int)), ((110 : Nat), (3 : Int), (3 : Int)), ((111 : Nat), (0 : Int), (55 : Int)), ((112 : Nat), (3 : Int), (3 : Int)), ((113 : Nat), (0 : Int), (23 : Int)), ((114 : Nat), (3 : Int), (3 : Int)), ((115 : Nat), (0 : Int), (23 : Int)), ((116 : Nat), (3 : Int), (3 : Int)), ((117 : Nat), (0 : Int), (167 : Int)), ((118 : Nat), (3 : Int), (3 : Int)), ((119 : Nat), (0 : Int), (35 : Int)), ((120 : Nat), (3 : Int), (3 : Int)), ((121 : Nat), (0 : Int), (71 : Int)), ((122 : Nat), (0 : Int), (7 : Int)), ((123 : Nat), (3 : Int), (3 : Int)), ((124 : Nat), (0 : Int), (55 : Int)), ((125 : Nat), (3 : Int), (3 : Int)), ((126 : Nat), (0 : Int), (23 : Int)), ((127 : Nat), (3 : Int), (3 : Int)), ((128 : Nat), (0 : Int), (23 : Int)), ((129 : Nat), (3 : Int), (3 : Int)), ((130 : Nat), (0 : Int), (167 : Int)), ((131 : Nat), (3 : Int), (3 : Int)), ((132 : Nat), (0 : Int), (35 : Int)), ((133 : Nat), (3 : Int), (3 : Int)), ((134 : Nat), (0 : Int), (71 : Int)), ((135 : Nat), (0 : Int), (7 : Int)), ((136 : Nat), (3 : Int), (3 : Int)), ((137 : Nat), (0 : Int), (55 : Int)), ((138 : Nat), (3 : Int), (3 : Int)), ((139 : Nat), (0 : Int), (23 : Int)), ((140 : Nat), (3 : Int), (3 : Int)), ((141 : Nat), (0 : Int), (23 : Int)), ((142 : Nat), (3 : Int), (3 : Int)), ((143 : Nat), (0 : Int), (167 : Int)), ((144 : Nat), (3 : Int), (3 : Int)), ((145 : Nat), (0 : Int), (35 : Int)), ((146 : Nat), (3 : Int), (3 : Int)), ((147 : Nat), (0 : Int), (71 : Int)), ((148 : Nat), (0 : Int), (7 : Int)), ((149 : Nat), (3 : Int), (3 : Int)), ((150 : Nat), (0 : Int), (55 : Int)), ((151 : Nat), (3 : Int), (3 : Int)), ((152 : Nat), (0 : Int), (23 : Int)), ((153 : Nat), (3 : Int), (3 : Int)), ((154 : Nat), (0 : Int), (23 : Int)), ((155 : Nat), (3 : Int), (3 : Int)), ((156 : Nat), (0 : Int), (167 : Int)), ((157 : Nat), (3 : Int), (3 : Int)), ((158 : Nat), (0 : Int), (35 : Int)), ((159 : Nat), (3 : Int), (3 : Int)), ((160 : Nat), (0 : Int), (71 : Int)), ((161 : Nat), (0 : Int), (7 : Int)), ((162 : Nat), (3 : Int), (3 : Int)), ((163 : Nat), (0 : Int), (55 : Int)), ((164 : Nat), (3 : Int), (3 : Int)), ((165 : Nat), (0 : Int), (23 : Int)), ((166 : Nat), (3 : Int), (3 : Int)), ((167 : Nat), (0 : Int), (23 : Int)), ((168 : Nat), (3 : Int), (3 : Int)), ((169 : Nat), (0 : Int), (167 : Int)), ((170 : Nat), (3 : Int), (3 : Int)), ((171 : Nat), (0 : Int), (35 : Int)), ((172 : Nat), (3 : Int), (3 : Int)), ((173 : Nat), (0 : Int), (71 : Int)), ((174 : Nat), (0 : Int), (7 : Int)), ((175 : Nat), (3 : Int), (3 : Int)), ((176 : Nat), (0 : Int), (55 : Int)), ((177 : Nat), (3 : Int), (3 : Int)), ((178 : Nat), (0 : Int), (23 : Int)), ((179 : Nat), (3 : Int), (3 : Int)), ((180 : Nat), (0 : Int), (23 : Int)), ((181 : Nat), (3 : Int), (3 : Int)), ((182 : Nat), (0 : Int), (167 : Int)), ((183 : Nat), (3 : Int), (3 : Int)), ((184 : Nat), (0 : Int), (35 : Int)), ((185 : Nat), (3 : Int), (3 : Int)), ((186 : Nat), (0 : Int), (71 : Int)), ((187 : Nat), (0 : Int), (7 : Int)), ((188 : Nat), (3 : Int), (3 : Int)), ((189 : Nat), (0 : Int), (55 : Int)), ((190 : Nat), (3 : Int), (3 : Int)), ((191 : Nat), (0 : Int), (23 : Int)), ((192 : Nat), (3 : Int), (3 : Int)), ((193 : Nat), (0 : Int), (23 : Int)), ((194 : Nat), (3 : Int), (3 : Int)), ((195 : Nat), (0 : Int), (167 : Int)), ((196 : Nat), (3 : Int), (3 : Int)), ((197 : Nat), (0 : Int), (35 : Int)), ((198 : Nat), (3 : Int), (3 : Int)), ((199 : Nat), (0 : Int), (71 : Int)), ((206 : Nat), (2 : Int), (8 : Int)), ((220 : Nat), (3 : Int), (3 : Int)), ((221 : Nat), (0 : Int), (47 : Int)), ((245 : Nat), (0 : Int), (0 : Int))], zl104), zl272)
set_option maxRecDepth 100000 in
theorem p2_h56_s {X : Int → Int} {LX : Nat} : ck_Ok p2_O X LX 157 p2_h56 := ck_okq (cuts := []) (f := 90) ⟨p2_nmu, ck_E1 (ck_S1 p2_s671_s ck_S0) ck_E0⟩ (by decide +kernel)
set_option maxRecDepth 100000 in
/-- GlacierMailLaw.open -/
noncomputable def p2_h57 : ck_Sum := (((9 : Nat), (2 : Nat), (12 : Nat)), (245 : Nat), [.inr (.inr (.inl (1 : Nat))), .inl (ck_one 9), .inr (.inr (.inl (245 : Nat)))], ([], zl102, [((3 : Nat), (6 : Int), (6 : Int), ((0 : Int), (299 : Int), [((10 : Nat), (0 : Int))]))]), ([((1 : Nat), (15 : Int), (15 : Int)), ((11 : Nat), (68 : Int), (69 : Int)), ((14 : Nat), (3 : Int), (3 : Int)), ((15 : Nat), (0 : Int), (71 : Int)), ((42 : Nat), (1 : Int), (2 : Int)), ((44 : Nat), (0 : Int), (7 : Int)), ((45 : Nat), (3 : Int), (3 : Int)), ((46 : Nat), (0 : Int), (55 : Int)), ((47 : Nat), (3 : Int), (3 : Int)), ((48 : Nat), (0 : Int), (23 : Int)), ((49 : Nat), (3 : Int), (3 : Int)), ((50 : Nat), (0 : Int), (23 : Int)), ((51 : Nat), (3 : Int), (3 : Int)), ((52 : Nat), (0 : Int), (167 : Int)), ((53 : Nat), (3 : Int), (3 : Int)), ((54 : Nat), (0 : Int), (35 : Int)), ((55 : Nat), (3 : Int), (3 : Int)), ((56 : Nat), (0 : Int), (71 : Int)), ((57 : Nat), (0 : Int), (7 : Int)), ((58 : Nat), (3 : Int), (3 : Int)), ((59 : Nat), (0 : Int), (55 : Int)), ((60 : Nat), (3 : Int), (3 : Int)), ((61 : Nat), (0 : Int), (23 : Int)), ((62 : Nat), (3 : Int), (3 : Int)), ((63 : Nat), (0 : Int), (23 : Int)), ((64 : Nat), (3 : Int), (3 : Int)), ((65 : Nat), (0 : Int), (167 : Int)), ((66 : Nat), (3 : Int), (3 : Int)), ((67 : Nat), (0 : Int), (35 : Int)), ((68 : Nat), (3 : Int), (3 : Int)), ((69 : Nat), (0 : Int), (71 : Int)), ((70 : Nat), (0 : Int), (7 : Int)), ((71 : Nat), (3 : Int), (3 : Int)), ((72 : Nat), (0 : Int), (55 : Int)), ((73 : Nat), (3 : Int), (3 : Int)), ((74 : Nat), (0 : Int), (23 : Int)), ((75 : Nat), (3 : Int), (3 : Int)), ((76 : Nat), (0 : Int), (23 : Int)), ((77 : Nat), (3 : Int), (3 : Int)), ((78 : Nat), (0 : Int), (167 : Int)), ((79 : Nat), (3 : Int), (3 : Int)), ((80 : Nat), (0 : Int), (35 : Int)), ((81 : Nat), (3 : Int), (3 : Int)), ((82 : Nat), (0 : Int), (71 : Int)), ((83 : Nat), (0 : Int), (7 : Int)), ((84 : Nat), (3 : Int), (3 : Int)), ((85 : Nat), (0 : Int), (55 : Int)), ((86 : Nat), (3 : Int), (3 : Int)), ((87 : Nat), (0 : Int), (23 : Int)), ((88 : Nat), (3 : Int), (3 : Int)), ((89 : Nat), (0 : Int), (23 : Int)), ((90 : Nat), (3 : Int), (3 : Int)), ((91 : Nat), (0 : Int), (167 : Int)), ((92 : Nat), (3 : Int), (3 : Int)), ((93 : Nat), (0 : Int), (35 : Int)), ((94 : Nat), (3 : Int), (3 : Int)), ((95 : Nat), (0 : Int), (71 : Int)), ((96 : Nat), (0 : Int), (7 : Int)), ((97 : Nat), (3 : Int), (3 : Int)), ((98 : Nat), (0 : Int), (55 : Int)), ((99 : Nat), (3 : Int), (3 : Int)), ((100 : Nat), (0 : Int), (23 : Int)), ((101 : Nat), (3 : Int), (3 : Int)), ((102 : Nat), (0 : Int), (23 : Int)), ((103 : Nat), (3 : Int), (3 : Int)), ((104 : Nat), (0 : Int), (167 : Int)), ((105 : Nat), (3 : Int), (3 : Int)), ((106 : Nat), (0 : Int), (35 : Int)), ((107 : Nat), (3 : Int), (3 : Int)), ((108 : Nat), (0 : Int), (71 : Int)), ((109 : Nat), (0 : Int), (7 : Int)), ((110 : Nat), (3 : Int), (3 : Int)), ((111 : Nat), (0 : Int), (55 : Int)), ((112 : Nat), (3 : Int), (3 : Int)), ((113 : Nat), (0 : Int), (23 : Int)), ((114 : Nat), (3 : Int), (3 : Int)), ((115 : Nat), (0 : Int), (23 : Int)), ((116 : Nat), (3 : Int), (3 : Int)), ((117 : Nat), (0 : Int), (167 : Int)), ((118 : Nat), (3 : Int), (3 : Int)), ((119 : Nat), (0 : Int), (35 : Int)), ((120 : Nat), (3 : Int), (3 : Int)), ((121 : Nat), (0 : Int), (71 : Int)), ((122 : Nat), (0 : Int), (7 : Int)), ((123 : Nat), (3 : Int), (3 : Int)), ((124 : Nat), (0 : Int), (55 : Int)), ((125 : Nat), (3 : Int), (3 : Int)), ((126 : Nat), (0 : Int), (23 : Int)), ((127 : Nat), (3 : Int), (3 : Int)), ((128 : Nat), (0 : Int), (23 : Int)), ((129 : Nat), (3 : Int), (3 : Int)), ((130 : Nat), (0 : Int), (167 : Int)), ((131 : Nat), (3 : Int), (3 : Int)), ((132 : Nat), (0 : Int), (35 : Int)), ((133 : Nat), (3 : Int), (3 : Int)), ((134 : Nat), (0 : Int), (71 : Int)), ((135 : Nat), (0 : Int), (7 : Int)), ((136 : Nat), (3 : Int), (3 : Int)), ((137 : Nat), (0 : Int), (55 : Int)), ((138 : Nat), (3 : Int), (3 : Int)), ((139 : Nat), (0 : Int), (23 : Int)), ((140 : Nat), (3 : Int), (3 : Int)), ((141 : Nat), (0 : Int), (23 : Int)), ((142 : Nat), (3 : Int), (3 : Int)), ((143 : Nat), (0 : Int), (167 : Int)), ((144 : Nat), (3 : Int), (3 : Int)), ((145 : Nat), (0 : Int), (35 : Int)), ((146 : Nat), (3 : Int), (3 : Int)), ((147 : Nat), (0 : Int), (71 : Int)), ((148 : Nat), (0 : Int), (7 : Int)), ((149 : Nat), (3 : Int), (3 : Int)), ((150 : Nat), (0 : Int), (55 : Int)), ((151 : Nat), (3 : Int), (3 : Int)), ((152 : Nat), (0 : Int), (23 : Int)), ((153 : Nat), (3 : Int), (3 : Int)), ((154 : Nat), (0 : Int), (23 : Int)), ((155 : Nat), (3 : Int), (3 : Int)), ((156 : Nat), (0 : Int), (167 : Int)), ((157 : Nat), (3 : Int), (3 : Int)), ((158 : Nat), (0 : Int), (35 : Int)), ((159 : Nat), (3 : Int), (3 : Int)), ((160 : Nat), (0 : Int), (71 : Int)), ((161 : Nat), (0 : Int), (7 : Int)), ((162 : Nat), (3 : Int), (3 : Int)), ((163 : Nat), (0 : Int), (55 : Int)), ((164 : Nat), (3 : Int), (3 : Int)), ((165 : Nat), (0 : Int), (23 : Int)), ((166 : Nat), (3 : Int), (3 : Int)), ((167 : Nat), (0 : Int), (23 : Int)), ((168 : Nat), (3 : Int), (3 : Int)), ((169 : Nat), (0 : Int), (167 : Int)), ((170 : Nat), (3 : Int), (3 : Int)), ((171 : Nat), (0 : Int), (35 : Int)), ((172 : Nat), (3 : Int), (3 : Int)), ((173 : Nat), (0 : Int), (71 : Int)), ((174 : Nat), (0 : Int), (7 : Int)), ((175 : Nat), (3 : Int), (3 : Int)), ((176 : Nat), (0 : Int), (55 : Int)), ((177 : Nat), (3 : Int), (3 : Int)), ((178 : Nat), (0 : Int), (23 : Int)), ((179 : Nat), (3 : Int), (3 : Int)), ((180 : Nat), (0 : Int), (23 : Int)), ((181 : Nat), (3 : Int), (3 : Int)), ((182 : Nat), (0 : Int), (167 : Int)), ((183 : Nat), (3 : Int), (3 : Int)), ((184 : Nat), (0 : Int), (35 : Int)), ((185 : Nat), (3 : Int), (3 : Int)), ((186 : Nat), (0 : Int), (71 : Int)), ((187 : Nat), (0 : Int), (7 : Int)), ((188 : Nat), (3 : Int), (3 : Int)), ((189 : Nat), (0 : Int), (55 : Int)), ((190 : Nat), (3 : Int), (3 : Int)), ((191 : Nat), (0 : Int), (23 : Int)), ((192 : Nat), (3 : Int), (3 : Int)), ((193 : Nat), (0 : Int), (23 : Int)), ((194 : Nat), (3 : Int), (3 : Int)), ((195 : Nat), (0 : Int), (167 : Int)), ((196 : Nat), (3 : Int), (3 : Int)), ((197 : Nat), (0 : Int), (35 : Int)), ((198 : Nat), (3 : Int), (3 : Int)), ((199 : Nat), (0 : Int), (71 : Int)), ((206 : Nat), (2 : Int), (8 : Int)), ((220 : Nat), (3 : Int), (3 : Int)), ((221 : Nat), (0 : Int), (47 : Int)), ((245 : Nat), (0 : Int), (0 : Int))], zl104), zl272)
set_option maxRecDepth 100000 in
theorem p2_h57_s {X : Int → Int} {LX : Nat} : ck_Ok p2_O X LX 157 p2_h57 := ck_okq (cuts := []) (f := 90) ⟨p2_nmu, ck_E1 (ck_S1 p2_s681_s ck_S0) ck_E0⟩ (by decide +kernel)
set_option maxRecDepth 100000 in
/-- GlacierMailLaw.open -/
noncomputable def p2_h58 : ck_Sum := (((9 : Nat), (2 : Nat), (12 : Nat)), (245 : Nat), [.inr (.inr (.inl (1 : Nat))), .inl (ck_one 10), .inr (.inr (.inl (245 : Nat)))], ([], zl102, [((3 : Nat), (6 : Int), (6 : Int), ((0 : Int), (299 : Int), [((10 : Nat), (0 : Int))]))]), ([((1 : Nat), (15 : Int), (15 : Int)), ((11 : Nat), (75 : Int), (76 : Int)), ((14 : Nat), (3 : Int), (3 : Int)), ((15 : Nat), (0 : Int), (71 : Int)), ((42 : Nat), (1 : Int), (2 : Int)), ((44 : Nat), (0 : Int), (7 : Int)), ((45 : Nat), (3 : Int), (3 : Int)), ((46 : Nat), (0 : Int), (55 : Int)), ((47 : Nat), (3 : Int), (3 : Int)), ((48 : Nat), (0 : Int), (23 : Int)), ((49 : Nat), (3 : Int), (3 : Int)), ((50 : Nat), (0 : Int), (23 : Int)), ((51 : Nat), (3 : Int), (3 : Int)), ((52 : Nat), (0 : Int), (167 : Int)), ((53 : Nat), (3 : Int), (3 : Int)), ((54 : Nat), (0 : Int), (35 : Int)), ((55 : Nat), (3 : Int), (3 : Int)), ((56 : Nat), (0 : Int), (71 : Int)), ((57 : Nat), (0 : Int), (7 : Int)), ((58 : Nat), (3 : Int), (3 : Int)), ((59 : Nat), (0 : Int), (55 : Int)), ((60 : Nat), (3 : Int), (3 : Int)), ((61 : Nat), (0 : Int), (23 : Int)), ((62 : Nat), (3 : Int), (3 : Int)), ((63 : Nat), (0 : Int), (23 : Int)), ((64 : Nat), (3 : Int), (3 : Int)), ((65 : Nat), (0 : Int), (167 : Int)), ((66 : Nat), (3 : Int), (3 : Int)), ((67 : Nat), (0 : Int), (35 : Int)), ((68 : Nat), (3 : Int), (3 : Int)), ((69 : Nat), (0 : Int), (71 : Int)), ((70 : Nat), (0 : Int), (7 : Int)), ((71 : Nat), (3 : Int), (3 : Int)), ((72 : Nat), (0 : Int), (55 : Int)), ((73 : Nat), (3 : Int), (3 : Int)), ((74 : Nat), (0 : Int), (23 : Int)), ((75 : Nat), (3 : Int), (3 : Int)), ((76 : Nat), (0 : Int), (23 : Int)), ((77 : Nat), (3 : Int), (3 : Int)), ((78 : Nat), (0 : Int), (167 : Int)), ((79 : Nat), (3 : Int), (3 : Int)), ((80 : Nat), (0 : Int), (35 : Int)), ((81 : Nat), (3 : Int), (3 : Int)), ((82 : Nat), (0 : Int), (71 : Int)), ((83 : Nat), (0 : Int), (7 : Int)), ((84 : Nat), (3 : Int), (3 : Int)), ((85 : Nat), (0 : Int), (55 : Int)), ((86 : Nat), (3 : Int), (3 : Int)), ((87 : Nat), (0 : Int), (23 : Int)), ((88 : Nat), (3 : Int), (3 : Int)), ((89 : Nat), (0 : Int), (23 : Int)), ((90 : Nat), (3 : Int), (3 : Int)), ((91 : Nat), (0 : Int), (167 : Int)), ((92 : Nat), (3 : Int), (3 : Int)), ((93 : Nat), (0 : Int), (35 : Int)), ((94 : Nat), (3 : Int), (3 : Int)), ((95 : Nat), (0 : Int), (71 : Int)), ((96 : Nat), (0 : Int), (7 : Int)), ((97 : Nat), (3 : Int), (3 : Int)), ((98 : Nat), (0 : Int), (55 : Int)), ((99 : Nat), (3 : Int), (3 : Int)), ((100 : Nat), (0 : Int), (23 : Int)), ((101 : Nat), (3 : Int), (3 : Int)), ((102 : Nat), (0 : Int), (23 : Int)), ((103 : Nat), (3 : Int), (3 : Int)), ((104 : Nat), (0 : Int), (167 : Int)), ((105 : Nat), (3 : Int), (3 : Int)), ((106 : Nat), (0 : Int), (35 : Int)), ((107 : Nat), (3 : Int), (3 : Int)), ((108 : Nat), (0 : Int), (71 : Int)), ((109 : Nat), (0 : Int), (7 : Int)), ((110 : Nat), (3 : Int), (3 : Int)), ((111 : Nat), (0 : Int), (55 : Int)), ((112 : Nat), (3 : Int), (3 : Int)), ((113 : Nat), (0 : Int), (23 : Int)), ((114 : Nat), (3 : Int), (3 : Int)), ((115 : Nat), (0 : Int), (23 : Int)), ((116 : Nat), (3 : Int), (3 : Int)), ((117 : Nat), (0 : Int), (167 : Int)), ((118 : Nat), (3 : Int), (3 : Int)), ((119 : Nat), (0 : Int), (35 : Int)), ((120 : Nat), (3 : Int), (3 : Int)), ((121 : Nat), (0 : Int), (71 : Int)), ((122 : Nat), (0 : Int), (7 : Int)), ((123 : Nat), (3 : Int), (3 : Int)), ((124 : Nat), (0 : Int), (55 : Int)), ((125 : Nat), (3 : Int), (3 : Int)), ((126 : Nat), (0 : Int), (23 : Int)), ((127 : Nat), (3 : Int), (3 : Int)), ((128 : Nat), (0 : Int), (23 : Int)), ((129 : Nat), (3 : Int), (3 : Int)), ((130 : Nat), (0 : Int), (167 : Int)), ((131 : Nat), (3 : Int), (3 : Int)), ((132 : Nat), (0 : Int), (35 : Int)), ((133 : Nat), (3 : Int), (3 : Int)), ((134 : Nat), (0 : Int), (71 : Int)), ((135 : Nat), (0 : Int), (7 : Int)), ((136 : Nat), (3 : Int), (3 : Int)), ((137 : Nat), (0 : Int), (55 : Int)), ((138 : Nat), (3 : Int), (3 : Int)), ((139 : Nat), (0 : Int), (23 : Int)), ((140 : Nat), (3 : Int), (3 : Int)), ((141 : Nat), (0 : Int), (23 : Int)), ((142 : Nat), (3 : Int), (3 : Int)), ((143 : Nat), (0 : Int), (167 : Int)), ((144 : Nat), (3 : Int), (3 : Int)), ((145 : Nat), (0 : Int), (35 : Int)), ((146 : Nat), (3 : Int), (3 : Int)), ((147 : Nat), (0 : Int), (71 : Int)), ((148 : Nat), (0 : Int), (7 : Int)), ((149 : Nat), (3 : Int), (3 : Int)), ((150 : Nat), (0 : Int), (55 : Int)), ((151 : Nat), (3 : Int), (3 : Int)), ((152 : Nat), (0 : Int), (23 : Int)), ((153 : Nat), (3 : Int), (3 : Int)), ((154 : Nat), (0 : Int), (23 : Int)), ((155 : Nat), (3 : Int), (3 : Int)), ((156 : Nat), (0 : Int), (167 : Int)), ((157 : Nat), (3 : Int), (3 : Int)), ((158 : Nat), (0 : Int), (35 : Int)), ((159 : Nat), (3 : Int), (3 : Int)), ((160 : Nat), (0 : Int), (71 : Int)), ((161 : Nat), (0 : Int), (7 : Int)), ((162 : Nat), (3 : Int), (3 : Int)), ((163 : Nat), (0 : Int), (55 : Int)), ((164 : Nat), (3 : Int), (3 : Int)), ((165 : Nat), (0 : Int), (23 : Int)), ((166 : Nat), (3 : Int), (3 : Int)), ((167 : Nat), (0 : Int), (23 : Int)), ((168 : Nat), (3 : Int), (3 : Int)), ((169 : Nat), (0 : Int), (167 : Int)), ((170 : Nat), (3 : Int), (3 : Int)), ((171 : Nat), (0 : Int), (35 : Int)), ((172 : Nat), (3 : Int), (3 : Int)), ((173 : Nat), (0 : Int), (71 : Int)), ((174 : Nat), (0 : Int), (7 : Int)), ((175 : Nat), (3 : Int), (3 : Int)), ((176 : Nat), (0 : Int), (55 : Int)), ((177 : Nat), (3 : Int), (3 : Int)), ((178 : Nat), (0 : Int), (23 : Int)), ((179 : Nat), (3 : Int), (3 : Int)), ((180 : Nat), (0 : Int), (23 : Int)), ((181 : Nat), (3 : Int), (3 : Int)), ((182 : Nat), (0 : Int), (167 : Int)), ((183 : Nat), (3 : Int), (3 : Int)), ((184 : Nat), (0 : Int), (35 : Int)), ((185 : Nat), (3 : Int), (3 : Int)), ((186 : Nat), (0 : Int), (71 : Int)), ((187 : Nat), (0 : Int), (7 : Int)), ((188 : Nat), (3 : Int), (3 : Int)), ((189 : Nat), (0 : Int), (55 : Int)), ((190 : Nat), (3 : Int), (3 : Int)), ((191 : Nat), (0 : Int), (23 : Int)), ((192 : Nat), (3 : Int), (3 : Int)), ((193 : Nat), (0 : Int), (23 : Int)), ((194 : Nat), (3 : Int), (3 : Int)), ((195 : Nat), (0 : Int), (167 : Int)), ((196 : Nat), (3 : Int), (3 : Int)), ((197 : Nat), (0 : Int), (35 : Int)), ((198 : Nat), (3 : Int), (3 : Int)), ((199 : Nat), (0 : Int), (71 : Int)), ((206 : Nat), (2 : Int), (8 : Int)), ((220 : Nat), (3 : Int), (3 : Int)), ((221 : Nat), (0 : Int), (47 : Int)), ((245 : Nat), (0 : Int), (0 : Int))], zl104), zl272)
set_option maxRecDepth 100000 in
theorem p2_h58_s {X : Int → Int} {LX : Nat} : ck_Ok p2_O X LX 157 p2_h58 := ck_okq (cuts := []) (f := 90) ⟨p2_nmu, ck_E1 (ck_S1 p2_s691_s ck_S0) ck_E0⟩ (by decide +kernel)
end
