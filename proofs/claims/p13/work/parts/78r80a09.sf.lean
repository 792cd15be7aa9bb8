/-! 78r80a09.sf -/
section
/-! EVERY CALL ENDS, whatever was done before (laid by wip/am/p2k.py). -/
set_option maxRecDepth 100000 in
/-- GlacierMail.open -/
noncomputable def p2_s811 : ck_Sum := (((8 : Nat), (2 : Nat), (12 : Nat)), (245 : Nat), [.inr (.inr (.inl (1 : Nat))), .inl (ck_one 22)], ([], zl102, [((3 : Nat), (6 : Int), (6 : Int), ((0 : Int), (299 : Int), [((10 : Nat), (0 : Int))]))]), ([((1 : Nat), (15 : Int), (15 : Int)), ((11 : Nat), (159 : Int), (160 : Int)), ((14 : Nat), (3 : Int), (3 : Int)), ((15 : Nat), (0 : Int), (71 : Int)), ((42 : Nat), (1 : Int), (2 : Int)), ((44 : Nat), (0 : Int), (7 : Int)), ((45 : Nat), (3 : Int), (3 : Int)), ((46 : Nat), (0 : Int), (55 : Int)), ((47 : Nat), (3 : Int), (3 : Int)), ((48 : Nat), (0 : Int), (23 : Int)), ((49 : Nat), (3 : Int), (3 : Int)), ((50 : Nat), (0 : Int), (23 : Int)), ((51 : Nat), (3 : Int), (3 : Int)), ((52 : Nat), (0 : Int), (167 : Int)), ((53 : Nat), (3 : Int), (3 : Int)), ((54 : Nat), (0 : Int), (35 : Int)), ((55 : Nat), (3 : Int), (3 : Int)), ((56 : Nat), (0 : Int), (71 : Int)), ((57 : Nat), (0 : Int), (7 : Int)), ((58 : Nat), (3 : Int), (3 : Int)), ((59 : Nat), (0 : Int), (55 : Int)), ((60 : Nat), (3 : Int), (3 : Int)), ((61 : Nat), (0 : Int), (23 : Int)), ((62 : Nat), (3 : Int), (3 : Int)), ((63 : Nat), (0 : Int), (23 : Int)), ((64 : Nat), (3 : Int), (3 : Int)), ((65 : Nat), (0 : Int), (167 : Int)), ((66 : Nat), (3 : Int), (3 : Int)), ((67 : Nat), (0 : Int), (35 : Int)), ((68 : Nat), (3 : Int), (3 : Int)), ((69 : Nat), (0 : Int), (71 : Int)), ((70 : Nat), (0 : Int), (7 : Int)), ((71 : Nat), (3 : Int), (3 : Int)), ((72 : Nat), (0 : Int), (55 : Int)), ((73 : Nat), (3 : Int), (3 : Int)), ((74 : Nat), (0 : Int), (23 : Int)), ((75 : Nat), (3 : Int), (3 : Int)), ((76 : Nat), (0 : Int), (23 : Int)), ((77 : Nat), (3 : Int), (3 : Int)), ((78 : Nat), (0 : Int), (167 : Int)), ((79 : Nat), (3 : Int), (3 : Int)), ((80 : Nat), (0 : Int), (35 : Int)), ((81 : Nat), (3 : Int), (3 : Int)), ((82 : Nat), (0 : Int), (71 : Int)), ((83 : Nat), (0 : Int), (7 : Int)), ((84 : Nat), (3 : Int), (3 : Int)), ((85 : Nat), (0 : Int), (55 : Int)), ((86 : Nat), (3 : Int), (3 : Int)), ((87 : Nat), (0 : Int), (23 : Int)), ((88 : Nat), (3 : Int), (3 : Int)), ((89 : Nat), (0 : Int), (23 : Int)), ((90 : Nat), (3 : Int), (3 : Int)), ((91 : Nat), (0 : Int), (167 : Int)), ((92 : Nat), (3 : Int), (3 : Int)), ((93 : Nat), (0 : Int), (35 : Int)), ((94 : Nat), (3 : Int), (3 : Int)), ((95 : Nat), (0 : Int), (71 : Int)), ((96 : Nat), (0 : Int), (7 : Int)), ((97 : Nat), (3 : Int), (3 : Int)), ((98 : Nat), (0 : Int), (55 : Int)), ((99 : Nat), (3 : Int), (3 : Int)), ((100 : Nat), (0 : Int), (23 : Int)), ((101 : Nat), (3 : Int), (3 : Int)), ((102 : Nat), (0 : Int), (23 : Int)), ((103 : Nat), (3 : Int), (3 : Int)), ((104 : Nat), (0 : Int), (167 : Int)), ((105 : Nat), (3 : Int), (3 : Int)), ((106 : Nat), (0 : Int), (35 : Int)), ((107 : Nat), (3 : Int), (3 : Int)), ((108 : Nat), (0 : Int), (71 : Int)), ((109 : Nat), (0 : Int), (7 : Int)), ((110 : Nat), (3 : Int), (3 : Int)), ((111 : Nat), (0 : Int), (55 : Int)), ((112 : Nat), (3 : Int), (3 : Int)), ((113 : Nat), (0 : Int), (23 : Int)), ((114 : Nat), (3 : Int), (3 : Int)), ((115 : Nat), (0 : Int), (23 : Int)), ((116 : Nat), (3 : Int), (3 : Int)), ((117 : Nat), (0 : Int), (167 : Int)), ((118 : Nat), (3 : Int), (3 : Int)), ((119 : Nat), (0 : Int), (35 : Int)), ((120 : Nat), (3 : Int), (3 : Int)), ((121 : Nat), (0 : Int), (71 : Int)), ((122 : Nat), (0 : Int), (7 : Int)), ((123 : Nat), (3 : Int), (3 : Int)), ((124 : Nat), (0 : Int), (55 : Int)), ((125 : Nat), (3 : Int), (3 : Int)), ((126 : Nat), (0 : Int), (23 : Int)), ((127 : Nat), (3 : Int), (3 : Int)), ((128 : Nat), (0 : Int), (23 : Int)), ((129 : Nat), (3 : Int), (3 : Int)), ((130 : Nat), (0 : Int), (167 : Int)), ((131 : Nat), (3 : Int), (3 : Int)), ((132 : Nat), (0 : Int), (35 : Int)), ((133 : Nat), (3 : Int), (3 : Int)), ((134 : Nat), (0 : Int), (71 : Int)), ((135 : Nat), (0 : Int), (7 : Int)), ((136 : Nat), (3 : Int), (3 : Int)), ((137 : Nat), (0 : Int), (55 : Int)), ((138 : Nat), (3 : Int), (3 : Int)), ((139 : Nat), (0 : Int), (23 : Int)), ((140 : Nat), (3 : Int), (3 : Int)), ((141 : Nat), (0 : Int), (23 : Int)), ((142 : Nat), (3 : Int), (3 : Int)), ((143 : Nat), (0 : Int), (167 : Int)), ((144 : Nat), (3 : Int), (3 : Int)), ((145 : Nat), (0 : Int), (35 : Int)), ((146 : Nat), (3 : Int), (3 : Int)), ((147 : Nat), (0 : Int), (71 : Int)), ((148 : Nat), (0 : Int), (7 : Int)), ((149 : Nat), (3 : Int), (3 : Int)), ((150 : Nat), (0 : Int), (55 : Int)), ((151 : Nat), (3 : Int), (3 : Int)), ((152 : Nat), (0 : Int), (23 : Int)), ((153 : Nat), (3 : Int), (3 : Int)), ((154 : Nat), (0 : Int), (23 : Int)), ((155 : Nat), (3 : Int), (3 : Int)), ((156 : Nat), (0 : Int), (167 : Int)), ((157 : Nat), (3 : Int), (3 : Int)), ((158 : Nat), (0 : Int), (35 : Int)), ((159 : Nat), (3 : Int), (3 : Int)), ((160 : Nat), (0 : Int), (71 : Int)), ((161 : Nat), (0 : Int), (7 : Int)), ((162 : Nat), (3 : Int), (3 : Int)), ((163 : Nat), (0 : Int), (55 : Int)), ((164 : Nat), (3 : Int), (3 : Int)), ((165 : Nat), (0 : Int), (23 : Int)), ((166 : Nat), (3 : Int), (3 : Int)), ((167 : Nat), (0 : Int), (23 : Int)), ((168 : Nat), (3 : Int), (3 : Int)), ((169 : Nat), (0 : Int), (167 : Int)), ((170 : Nat), (3 : Int), (3 : Int)), ((171 : Nat), (0 : Int), (35 : Int)), ((172 : Nat), (3 : Int), (3 : Int)), ((173 : Nat), (0 : Int), (71 : Int)), ((174 : Nat), (0 : Int), (7 : Int)), ((175 : Nat), (3 : Int), (3 : Int)), ((176 : Nat), (0 : Int), (55 : Int)), ((177 : Nat), (3 : Int), (3 : Int)), ((178 : Nat), (0 : Int), (23 : Int)), ((179 : Nat), (3 : Int), (3 : Int)), ((180 : Nat), (0 : Int), (23 : Int)), ((181 : Nat), (3 : Int), (3 : Int)), ((182 : Nat), (0 : Int), (167 : Int)), ((183 : Nat), (3 : Int), (3 : Int)), ((184 : Nat), (0 : Int), (35 : Int)), ((185 : Nat), (3 : Int), (3 : Int)), ((186 : Nat), (0 : Int), (71 : Int)), ((187 : Nat), (0 : Int), (7 : Int)), ((188 : Nat), (3 : Int), (3 : Int)), ((189 : Nat), (0 : Int), (55 : Int)), ((190 : Nat), (3 : Int), (3 : Int)), ((191 : Nat), (0 : Int), (23 : Int)), ((192 : Nat), (3 : Int), (3 : Int)), ((193 : Nat), (0 : Int), (23 : Int)), ((194 : Nat), (3 : Int), (3 : Int)), ((195 : Nat), (0 : Int), (167 : Int)), ((196 : Nat), (3 : Int), (3 : Int)), ((197 : Nat), (0 : Int), (35 : Int)), ((198 : Nat), (3 : Int), (3 : Int)), ((199 : Nat), (0 : Int), (71 : Int)), ((206 : Nat), (2 : Int), (8 : Int)), ((220 : Nat), (3 : Int), (3 : Int)), ((221 : Nat), (0 : Int), (47 : Int))], zl104), zl175)
set_option maxRecDepth 100000 in
theorem p2_s811_s {X : Int → Int} {LX : Nat} : ck_Ok p2_O X LX 158 p2_s811 := ck_okq (cuts := []) (f := 140) ⟨p2_nmu, ck_E1 (ck_S1 p2_s803_s ck_S0) (ck_E1 (ck_S1 p2_s349_s ck_S0) (ck_E1 (ck_S1 p2_s805_s ck_S0) (ck_E1 (ck_S1 p2_s529_s ck_S0) (ck_E1 (ck_S1 p2_s335_s ck_S0) (ck_E1 (ck_S1 p2_s810_s ck_S0) ck_E0)))))⟩ (by decide +kernel)
set_option maxRecDepth 100000 in
/-- GlacierMail.need -/
noncomputable def p2_s812 : ck_Sum := (((6 : Nat), (1 : Nat), (6 : Nat)), (245 : Nat), [.inr (.inr (.inl (1 : Nat))), .inl (ck_one 23), .inl ((0 : Int), (24 : Int), [])], ([], [], []), ([], []), [(.inr none, (245 : Nat), ([], [], [])), (.inl (3 : Nat), (245 : Nat), ([], [], []))])
set_option maxRecDepth 100000 in
theorem p2_s812_s {X : Int → Int} {LX : Nat} : ck_Ok p2_O X LX 133 p2_s812 := ck_okq (cuts := []) (f := 82) ⟨p2_nmu, ck_E0⟩ (by decide +kernel)
set_option maxRecDepth 100000 in
/-- GlacierMail.needLetter -/
noncomputable def p2_s813 : ck_Sum := (((7 : Nat), (1 : Nat), (6 : Nat)), (245 : Nat), [.inr (.inr (.inl (1 : Nat))), .inl (ck_one 23)], ([], [], []), ([], []), [(.inl (3 : Nat), (245 : Nat), ([], [], [])), (.inr none, (245 : Nat), ([], [], []))])
set_option maxRecDepth 100000 in
theorem p2_s813_s {X : Int → Int} {LX : Nat} : ck_Ok p2_O X LX 143 p2_s813 := ck_okq (cuts := []) (f := 86) ⟨p2_nmu, ck_E1 (ck_S1 p2_s331_s ck_S0) (ck_E1 (ck_S1 p2_s812_s ck_S0) ck_E0)⟩ (by decide +kernel)
set_option maxRecDepth 100000 in
/-- GlacierMail$State.isRock -/
noncomputable def p2_s814 : ck_Sum := (((1 : Nat), (0 : Nat), (0 : Nat)), (245 : Nat), [.inr (.inr (.inl (3 : Nat))), .inl (ck_one 23)], ([], [], []), ([], []), [(.inr (some (.inl (ck_one 0))), (245 : Nat), ([], [], [])), (.inr (some (.inl (ck_one 1))), (245 : Nat), ([], [], []))])
set_option maxRecDepth 100000 in
theorem p2_s814_s {X : Int → Int} {LX : Nat} : ck_Ok p2_O X LX 28 p2_s814 := ck_okq (cuts := []) (f := 90) ⟨p2_nmu, ck_E1 (ck_S1 p2_s335_s ck_S0) ck_E0⟩ (by decide +kernel)
set_option maxRecDepth 100000 in
/-- GlacierMail.waits -/
noncomputable def p2_s815 : ck_Sum := (((2 : Nat), (0 : Nat), (0 : Nat)), (245 : Nat), [.inr (.inr (.inl (1 : Nat))), .inl (ck_one 23)], ([], [], [((3 : Nat), (6 : Int), (6 : Int), ((0 : Int), (299 : Int), [((10 : Nat), (0 : Int))]))]), ([], []), [(.inr (some (.inl (ck_one 0))), (245 : Nat), ([], [], [])), (.inr (some (.inl (ck_one 1))), (245 : Nat), ([], [], []))])
set_option maxRecDepth 100000 in
theorem p2_s815_s {X : Int → Int} {LX : Nat} : ck_Ok p2_O X LX 66 p2_s815 := ck_okq (cuts := []) (f := 134) ⟨p2_nmu, ck_E1 (ck_S1 p2_s814_s ck_S0) (ck_E1 (ck_S1 p2_s335_s (ck_S1 p2_s350_s ck_S0)) (ck_E1 (ck_S1 p2_s351_s ck_S0) ck_E0))⟩ (by decide +kernel)
set_option maxRecDepth 100000 in
/-- GlacierMail$Rows.put -/
noncomputable def p2_s816 : ck_Sum := (((0 : Nat), (0 : Nat), (0 : Nat)), (245 : Nat), [.inr (.inr (.inl (10 : Nat))), .inl (ck_one 23), .inl (ck_one 5), .inl ((-1 : Int), (299 : Int), [])], ([], [], []), ([((11 : Nat), (166 : Int), (166 : Int))], []), [(.inr none, (245 : Nat), ([], [], []))])
set_option maxRecDepth 100000 in
theorem p2_s816_s {X : Int → Int} {LX : Nat} : ck_Ok p2_O X LX 45 p2_s816 := ck_okq (cuts := []) (f := 116) ⟨p2_nmu, ck_E0⟩ (by decide +kernel)
set_option maxRecDepth 100000 in
/-- GlacierMail$Rows.put -/
noncomputable def p2_s817 : ck_Sum := (((0 : Nat), (0 : Nat), (0 : Nat)), (245 : Nat), [.inr (.inr (.inl (10 : Nat))), .inl (ck_one 23), .inl (ck_one 6), .inl ((0 : Int), (299 : Int), [])], ([], [], []), ([((11 : Nat), (167 : Int), (167 : Int))], []), [(.inr none, (245 : Nat), ([], [], []))])
set_option maxRecDepth 100000 in
theorem p2_s817_s {X : Int → Int} {LX : Nat} : ck_Ok p2_O X LX 45 p2_s817 := ck_okq (cuts := []) (f := 116) ⟨p2_nmu, ck_E0⟩ (by decide +kernel)
set_option maxRecDepth 100000 in
/-- GlacierMail$Rows.put -/
noncomputable def p2_s818 : ck_Sum := (((0 : Nat), (0 : Nat), (0 : Nat)), (245 : Nat), [.inr (.inr (.inl (14 : Nat))), .inl ((0 : Int), (23 : Int), []), .inl (ck_one 1), .inl (ck_one 23)], ([], [], []), (zl173, []), [(.inr none, (245 : Nat), ([], [], []))])
set_option maxRecDepth 100000 in
theorem p2_s818_s {X : Int → Int} {LX : Nat} : ck_Ok p2_O X LX 45 p2_s818 := ck_okq (cuts := []) (f := 116) ⟨p2_nmu, ck_E0⟩ (by decide +kernel)
set_option maxRecDepth 100000 in
/-- GlacierMail$Rows.put -/
noncomputable def p2_s819 : ck_Sum := (((0 : Nat), (0 : Nat), (0 : Nat)), (245 : Nat), [.inr (.inr (.inl (14 : Nat))), .inl (ck_one (-1)), .inl (ck_one 1), .inl (ck_one 23)], ([], [], []), ([], []), [(.inr none, (245 : Nat), ([], [], []))])
set_option maxRecDepth 100000 in
theorem p2_s819_s {X : Int → Int} {LX : Nat} : ck_Ok p2_O X LX 45 p2_s819 := ck_okq (cuts := []) (f := 76) ⟨p2_nmu, ck_E0⟩ (by decide +kernel)
set_option maxRecDepth 100000 in
/-- GlacierMail$State.openLetter -/
noncomputable def p2_s820 : ck_Sum := (((1 : Nat), (0 : Nat), (0 : Nat)), (245 : Nat), [.inr (.inr (.inl (3 : Nat))), .inl (ck_one 23), .inl ((-1 : Int), (299 : Int), [])], ([], [], [((3 : Nat), (6 : Int), (6 : Int), ((0 : Int), (299 : Int), [((10 : Nat), (0 : Int))]))]), ([((11 : Nat), (166 : Int), (167 : Int)), ((14 : Nat), (3 : Int), (3 : Int)), ((15 : Nat), (0 : Int), (71 : Int))], []), [(.inr none, (245 : Nat), ([], [], [((14 : Nat), (3 : Int), (3 : Int), ((1 : Int), (24 : Int), []))]))])
set_option maxRecDepth 100000 in
theorem p2_s820_s {X : Int → Int} {LX : Nat} : ck_Ok p2_O X LX 159 p2_s820 := ck_okq (cuts := []) (f := 144) ⟨p2_nmu, ck_E1 (ck_S1 p2_s816_s (ck_S1 p2_s817_s (ck_S1 p2_s583_s (ck_S1 p2_s818_s (ck_S1 p2_s585_s (ck_S1 p2_s586_s (ck_S1 p2_s819_s (ck_S1 p2_s588_s ck_S0)))))))) (ck_E1 (ck_S1 p2_s589_s ck_S0) ck_E0)⟩ (by decide +kernel)
set_option maxRecDepth 100000 in
/-- GlacierMail.open -/
noncomputable def p2_s821 : ck_Sum := (((8 : Nat), (2 : Nat), (12 : Nat)), (245 : Nat), [.inr (.inr (.inl (1 : Nat))), .inl (ck_one 23)], ([], zl102, [((3 : Nat), (6 : Int), (6 : Int), ((0 : Int), (299 : Int), [((10 : Nat), (0 : Int))]))]), ([((1 : Nat), (15 : Int), (15 : Int)), ((11 : Nat), (166 : Int), (167 : Int)), ((14 : Nat), (3 : Int), (3 : Int)), ((15 : Nat), (0 : Int), (71 : Int)), ((42 : Nat), (1 : Int), (2 : Int)), ((44 : Nat), (0 : Int), (7 : Int)), ((45 : Nat), (3 : Int), (3 : Int)), ((46 : Nat), (0 : Int), (55 : Int)), ((47 : Nat), (3 : Int), (3 : Int)), ((48 : Nat), (0 : Int), (23 : Int)), ((49 : Nat), (3 : Int), (3 : Int)), ((50 : Nat), (0 : Int), (23 : Int)), ((51 : Nat), (3 : Int), (3 : Int)), ((52 : Nat), (0 : Int), (167 : Int)), ((53 : Nat), (3 : Int), (3 : Int)), ((54 : Nat), (0 : Int), (35 : Int)), ((55 : Nat), (3 : Int), (3 : Int)), ((56 : Nat), (0 : Int), (71 : Int)), ((57 : Nat), (0 : Int), (7 : Int)), ((58 : Nat), (3 : Int), (3 : Int)), ((59 : Nat), (0 : Int), (55 : Int)), ((60 : Nat), (3 : Int), (3 : Int)), ((61 : Nat), (0 : Int), (23 : Int)), ((62 : Nat), (3 : Int), (3 : Int)), ((63 : Nat), (0 : Int), (23 : Int)), ((64 : Nat), (3 : Int), (3 : Int)), ((65 : Nat), (0 : Int), (167 : Int)), ((66 : Nat), (3 : Int), (3 : Int)), ((67 : Nat), (0 : Int), (35 : Int)), ((68 : Nat), (3 : Int), (3 : Int)), ((69 : Nat), (0 : Int), (71 : Int)), ((70 : Nat), (0 : Int), (7 : Int)), ((71 : Nat), (3 : Int), (3 : Int)), ((72 : Nat), (0 : Int), (55 : Int)), ((73 : Nat), (3 : Int), (3 : Int)), ((74 : Nat), (0 : Int), (23 : Int)), ((75 : Nat), (3 : Int), (3 : Int)), ((76 : Nat), (0 : Int), (23 : Int)), ((77 : Nat), (3 : Int), (3 : Int)), ((78 : Nat), (0 : Int), (167 : Int)), ((79 : Nat), (3 : Int), (3 : Int)), ((80 : Nat), (0 : Int), (35 : Int)), ((81 : Nat), (3 : Int), (3 : Int)), ((82 : Nat), (0 : Int), (71 : Int)), ((83 : Nat), (0 : Int), (7 : Int)), ((84 : Nat), (3 : Int), (3 : Int)), ((85 : Nat), (0 : Int), (55 : Int)), ((86 : Nat), (3 : Int), (3 : Int)), ((87 : Nat), (0 : Int), (23 : Int)), ((88 : Nat), (3 : Int), (3 : Int)), ((89 : Nat), (0 : Int), (23 : Int)), ((90 : Nat), (3 : Int), (3 : Int)), ((91 : Nat), (0 : Int), (167 : Int)), ((92 : Nat), (3 : Int), (3 : Int)), ((93 : Nat), (0 : Int), (35 : Int)), ((94 : Nat), (3 : Int), (3 : Int)), ((95 : Nat), (0 : Int), (71 : Int)), ((96 : Nat), (0 : Int), (7 : Int)), ((97 : Nat), (3 : Int), (3 : Int)), ((98 : Nat), (0 : Int), (55 : Int)), ((99 : Nat), (3 : Int), (3 : Int)), ((100 : Nat), (0 : Int), (23 : Int)), ((101 : Nat), (3 : Int), (3 : Int)), ((102 : Nat), (0 : Int), (23 : Int)), ((103 : Nat), (3 : Int), (3 : Int)), ((104 : Nat), (0 : Int), (167 : Int)), ((105 : Nat), (3 : Int), (3 : Int)), ((106 : Nat), (0 : Int), (35 : Int)), ((107 : Nat), (3 : Int), (3 : Int)), ((108 : Nat), (0 : Int), (71 : Int)), ((109 : Nat), (0 : Int), (7 : Int)), ((110 : Nat), (3 : Int), (3 : Int)), ((111 : Nat), (0 : Int), (55 : Int)), ((112 : Nat), (3 : Int), (3 : Int)), ((113 : Nat), (0 : Int), (23 : Int)), ((114 : Nat), (3 : Int), (3 : Int)), ((115 : Nat), (0 : Int), (23 : Int)), ((116 : Nat), (3 : Int), (3 : Int)), ((117 : Nat), (0 : Int), (167 : Int)), ((118 : Nat), (3 : Int), (3 : Int)), ((119 : Nat), (0 : Int), (35 : Int)), ((120 : Nat), (3 : Int), (3 : Int)), ((121 : Nat), (0 : Int), (71 : Int)), ((122 : Nat), (0 : Int), (7 : Int)), ((123 : Nat), (3 : Int), (3 : Int)), ((124 : Nat), (0 : Int), (55 : Int)), ((125 : Nat), (3 : Int), (3 : Int)), ((126 : Nat), (0 : Int), (23 : Int)), ((127 : Nat), (3 : Int), (3 : Int)), ((128 : Nat), (0 : Int), (23 : Int)), ((129 : Nat), (3 : Int), (3 : Int)), ((130 : Nat), (0 : Int), (167 : Int)), ((131 : Nat), (3 : Int), (3 : Int)), ((132 : Nat), (0 : Int), (35 : Int)), ((133 : Nat), (3 : Int), (3 : Int)), ((134 : Nat), (0 : Int), (71 : Int)), ((135 : Nat), (0 : Int), (7 : Int)), ((136 : Nat), (3 : Int), (3 : Int)), ((137 : Nat), (0 : Int), (55 : Int)), ((138 : Nat), (3 : Int), (3 : Int)), ((139 : Nat), (0 : Int), (23 : Int)), ((140 : Nat), (3 : Int), (3 : Int)), ((141 : Nat), (0 : Int), (23 : Int)), ((142 : Nat), (3 : Int), (3 : Int)), ((143 : Nat), (0 : Int), (167 : Int)), ((144 : Nat), (3 : Int), (3 : Int)), ((145 : Nat), (0 : Int), (35 : Int)), ((146 : Nat), (3 : Int), (3 : Int)), ((147 : Nat), (0 : Int), (71 : Int)), ((148 : Nat), (0 : Int), (7 : Int)), ((149 : Nat), (3 : Int), (3 : Int)), ((150 : Nat), (0 : Int), (55 : Int)), ((151 : Nat), (3 : Int), (3 : Int)), ((152 : Nat), (0 : Int), (23 : Int)), ((153 : Nat), (3 : Int), (3 : Int)), ((154 : Nat), (0 : Int), (23 : Int)), ((155 : Nat), (3 : Int), (3 : Int)), ((156 : Nat), (0 : Int), (167 : Int)), ((157 : Nat), (3 : Int), (3 : Int)), ((158 : Nat), (0 : Int), (35 : Int)), ((159 : Nat), (3 : Int), (3 : Int)), ((160 : Nat), (0 : Int), (71 : Int)), ((161 : Nat), (0 : Int), (7 : Int)), ((162 : Nat), (3 : Int), (3 : Int)), ((163 : Nat), (0 : Int), (55 : Int)), ((164 : Nat), (3 : Int), (3 : Int)), ((165 : Nat), (0 : Int), (23 : Int)), ((166 : Nat), (3 : Int), (3 : Int)), ((167 : Nat), (0 : Int), (23 : Int)), ((168 : Nat), (3 : Int), (3 : Int)), ((169 : Nat), (0 : Int), (167 : Int)), ((170 : Nat), (3 : Int), (3 : Int)), ((171 : Nat), (0 : Int), (35 : Int)), ((172 : Nat), (3 : Int), (3 : Int)), ((173 : Nat), (0 : Int), (71 : Int)), ((174 : Nat), (0 : Int), (7 : Int)), ((175 : Nat), (3 : Int), (3 : Int)), ((176 : Nat), (0 : Int), (55 : Int)), ((177 : Nat), (3 : Int), (3 : Int)), ((178 : Nat), (0 : Int), (23 : Int)), ((179 : Nat), (3 : Int), (3 : Int)), ((180 : Nat), (0 : Int), (23 : Int)), ((181 : Nat), (3 : Int), (3 : Int)), ((182 : Nat), (0 : Int), (167 : Int)), ((183 : Nat), (3 : Int), (3 : Int)), ((184 : Nat), (0 : Int), (35 : Int)), ((185 : Nat), (3 : Int), (3 : Int)), ((186 : Nat), (0 : Int), (71 : Int)), ((187 : Nat), (0 : Int), (7 : Int)), ((188 : Nat), (3 : Int), (3 : Int)), ((189 : Nat), (0 : Int), (55 : Int)), ((190 : Nat), (3 : Int), (3 : Int)), ((191 : Nat), (0 : Int), (23 : Int)), ((192 : Nat), (3 : Int), (3 : Int)), ((193 : Nat), (0 : Int), (23 : Int)), ((194 : Nat), (3 : Int), (3 : Int)), ((195 : Nat), (0 : Int), (167 : Int)), ((196 : Nat), (3 : Int), (3 : Int)), ((197 : Nat), (0 : Int), (35 : Int)), ((198 : Nat), (3 : Int), (3 : Int)), ((199 : Nat), (0 : Int), (71 : Int)), ((206 : Nat), (2 : Int), (8 : Int)), ((220 : Nat), (3 : Int), (3 : Int)), ((221 : Nat), (0 : Int), (47 : Int))], zl104), zl175)
set_option maxRecDepth 100000 in
theorem p2_s821_s {X : Int → Int} {LX : Nat} : ck_Ok p2_O X LX 158 p2_s821 := ck_okq (cuts := []) (f := 140) ⟨p2_nmu, ck_E1 (ck_S1 p2_s813_s ck_S0) (ck_E1 (ck_S1 p2_s349_s ck_S0) (ck_E1 (ck_S1 p2_s815_s ck_S0) (ck_E1 (ck_S1 p2_s529_s ck_S0) (ck_E1 (ck_S1 p2_s335_s ck_S0) (ck_E1 (ck_S1 p2_s820_s ck_S0) ck_E0)))))⟩ (by decide +kernel)
set_option maxRecDepth 100000 in
/-- GlacierMailModel.open -/
noncomputable def p2_s822 : ck_Sum := (((2 : Nat), (0 : Nat), (0 : Nat)), (245 : Nat), [.inr (.inr (.inl (226 : Nat))), .inl ((-2147483648 : Int), (-1 : Int), [])], ([], [], [((227 : Nat), (4 : Int), (4 : Int), ((0 : Int), (24 : Int), [((22 : Nat), (0 : Int))]))]), ([((226 : Nat), (0 : Int), (0 : Int))], []), [(.inr (some (.inl (ck_one 0))), (245 : Nat), ([], [], [((226 : Nat), (0 : Int), (0 : Int), ck_one 1)]))])
set_option maxRecDepth 100000 in
theorem p2_s822_s {X : Int → Int} {LX : Nat} : ck_Ok p2_O X LX 318 p2_s822 := ck_okq (cuts := []) (f := 94) ⟨p2_nmu, ck_E1 (ck_S1 p2_s400_s ck_S0) (ck_E1 (ck_S1 p2_s241_s ck_S0) ck_E0)⟩ (by decide +kernel)
set_option maxRecDepth 100000 in
/-- GlacierMailModel.open -/
noncomputable def p2_s823 : ck_Sum := (((2 : Nat), (0 : Nat), (0 : Nat)), (245 : Nat), [.inr (.inr (.inl (226 : Nat))), .inl ((24 : Int), (2147483647 : Int), [])], ([], [], [((227 : Nat), (4 : Int), (4 : Int), ((0 : Int), (24 : Int), [((22 : Nat), (0 : Int))]))]), ([((226 : Nat), (0 : Int), (0 : Int))], []), [(.inr (some (.inl (ck_one 0))), (245 : Nat), ([], [], [((226 : Nat), (0 : Int), (0 : Int), ck_one 1)]))])
set_option maxRecDepth 100000 in
theorem p2_s823_s {X : Int → Int} {LX : Nat} : ck_Ok p2_O X LX 318 p2_s823 := ck_okq (cuts := []) (f := 94) ⟨p2_nmu, ck_E1 (ck_S1 p2_s403_s ck_S0) (ck_E1 (ck_S1 p2_s241_s ck_S0) ck_E0)⟩ (by decide +kernel)
set_option maxRecDepth 100000 in
/-- GlacierMailModel.in -/
noncomputable def p2_s824 : ck_Sum := (((0 : Nat), (0 : Nat), (0 : Nat)), (245 : Nat), [.inl (ck_one 0), .inl (ck_one 0), .inl ((-1 : Int), (23 : Int), [])], ([], [], []), ([], []), [(.inr (some (.inl (ck_one 0))), (245 : Nat), ([], [], [])), (.inr (some (.inl (ck_one 1))), (245 : Nat), ([], [], []))])
set_option maxRecDepth 100000 in
theorem p2_s824_s {X : Int → Int} {LX : Nat} : ck_Ok p2_O X LX 286 p2_s824 := ck_okq (cuts := []) (f := 88) ⟨p2_nmu, ck_E0⟩ (by decide +kernel)
set_option maxRecDepth 100000 in
/-- GlacierMailModel.noLetter -/
noncomputable def p2_s825 : ck_Sum := (((1 : Nat), (0 : Nat), (0 : Nat)), (245 : Nat), [.inr (.inr (.inl (226 : Nat))), .inl (ck_one 0)], ([], [], [((227 : Nat), (4 : Int), (4 : Int), ((0 : Int), (24 : Int), [((22 : Nat), (0 : Int))]))]), ([], []), [(.inr (some (.inl (ck_one 1))), (245 : Nat), ([], [], [])), (.inr (some (.inl (ck_one 0))), (245 : Nat), ([], [], []))])
set_option maxRecDepth 100000 in
theorem p2_s825_s {X : Int → Int} {LX : Nat} : ck_Ok p2_O X LX 309 p2_s825 := ck_okq (cuts := []) (f := 92) ⟨p2_nmu, ck_E1 (ck_S1 p2_s176_s ck_S0) (ck_E1 (ck_S1 p2_s824_s ck_S0) ck_E0)⟩ (by decide +kernel)
set_option maxRecDepth 100000 in
/-- GlacierMailModel.ofLetter -/
noncomputable def p2_s826 : ck_Sum := (((0 : Nat), (0 : Nat), (0 : Nat)), (245 : Nat), [.inr (.inr (.inl (226 : Nat))), .inl (ck_one 0), .inl (ck_one 0)], ([], [], []), ([], []), [(.inr (some (.inl (ck_one (-1)))), (245 : Nat), ([], [], [((227 : Nat), (119 : Int), (119 : Int), ck_one (-1))])), (.inr (some (.inl ((0 : Int), (7 : Int), []))), (245 : Nat), ([], [], [((227 : Nat), (119 : Int), (119 : Int), ((0 : Int), (7 : Int), []))]))])
set_option maxRecDepth 100000 in
theorem p2_s826_s {X : Int → Int} {LX : Nat} : ck_Ok p2_O X LX 301 p2_s826 := ck_okq (cuts := []) (f := 92) ⟨p2_nmu, ck_E0⟩ (by decide +kernel)
set_option maxRecDepth 100000 in
/-- GlacierMailModel.isRock -/
noncomputable def p2_s827 : ck_Sum := (((1 : Nat), (0 : Nat), (0 : Nat)), (245 : Nat), [.inr (.inr (.inl (226 : Nat))), .inl (ck_one 0)], ([], [], []), ([], []), [(.inr (some (.inl (ck_one 1))), (245 : Nat), ([], [], [((227 : Nat), (119 : Int), (119 : Int), ck_one (-1))])), (.inr (some (.inl (ck_one 0))), (245 : Nat), ([], [], [((227 : Nat), (119 : Int), (119 : Int), ((0 : Int), (7 : Int), []))]))])
set_option maxRecDepth 100000 in
theorem p2_s827_s {X : Int → Int} {LX : Nat} : ck_Ok p2_O X LX 303 p2_s827 := ck_okq (cuts := []) (f := 86) ⟨p2_nmu, ck_E1 (ck_S1 p2_s826_s ck_S0) ck_E0⟩ (by decide +kernel)
set_option maxRecDepth 100000 in
/-- GlacierMailModel.ofLetter -/
noncomputable def p2_s828 : ck_Sum := (((0 : Nat), (0 : Nat), (0 : Nat)), (245 : Nat), [.inr (.inr (.inl (226 : Nat))), .inl (ck_one 0), .inl (ck_one 5)], ([], [], []), ([], []), [(.inr (some (.inl (ck_one (-1)))), (245 : Nat), ([], [], [((227 : Nat), (124 : Int), (124 : Int), ck_one (-1))])), (.inr (some (.inl ((0 : Int), (7 : Int), []))), (245 : Nat), ([], [], [((227 : Nat), (124 : Int), (124 : Int), ((0 : Int), (7 : Int), []))]))])
set_option maxRecDepth 100000 in
theorem p2_s828_s {X : Int → Int} {LX : Nat} : ck_Ok p2_O X LX 301 p2_s828 := ck_okq (cuts := []) (f := 92) ⟨p2_nmu, ck_E0⟩ (by decide +kernel)
set_option maxRecDepth 100000 in
/-- GlacierMailModel.isWaiting -/
noncomputable def p2_s829 : ck_Sum := (((8 : Nat), (0 : Nat), (0 : Nat)), (245 : Nat), [.inr (.inr (.inl (226 : Nat))), .inl (ck_one 0)], ([], [], zl83), (zl81, []), [(.inr (some (.inl (ck_one 0))), (245 : Nat), ([], [], [])), (.inr (some (.inl (ck_one 1))), (245 : Nat), ([], [], [((226 : Nat), (29 : Int), (29 : Int), ((0 : Int), (299 : Int), [])), ((227 : Nat), (124 : Int), (124 : Int), ck_one (-1)), ((227 : Nat), (119 : Int), (119 : Int), ((0 : Int), (7 : Int), []))]))])
set_option maxRecDepth 100000 in
theorem p2_s829_s {X : Int → Int} {LX : Nat} : ck_Ok p2_O X LX 302 p2_s829 := ck_okq (cuts := []) (f := 114) ⟨p2_nmu, ck_E1 (ck_S1 p2_s827_s ck_S0) (ck_E1 (ck_S1 p2_s828_s ck_S0) (ck_E1 (ck_S1 p2_s381_s ck_S0) (ck_E1 (ck_S1 p2_s190_s ck_S0) ck_E0)))⟩ (by decide +kernel)
set_option maxRecDepth 100000 in
/-- GlacierMailModel.ofLetter -/
noncomputable def p2_s830 : ck_Sum := (((0 : Nat), (0 : Nat), (0 : Nat)), (245 : Nat), [.inr (.inr (.inl (226 : Nat))), .inl (ck_one 0), .inl (ck_one 1)], ([], [], []), ([], []), [(.inr (some (.inl (ck_one (-1)))), (245 : Nat), ([], [], [((227 : Nat), (120 : Int), (120 : Int), ck_one (-1))])), (.inr (some (.inl ((0 : Int), (7 : Int), []))), (245 : Nat), ([], [], [((227 : Nat), (120 : Int), (120 : Int), ((0 : Int), (7 : Int), []))]))])
set_option maxRecDepth 100000 in
theorem p2_s830_s {X : Int → Int} {LX : Nat} : ck_Ok p2_O X LX 301 p2_s830 := ck_okq (cuts := []) (f := 92) ⟨p2_nmu, ck_E0⟩ (by decide +kernel)
set_option maxRecDepth 100000 in
/-- GlacierMailModel.ofLetter -/
noncomputable def p2_s831 : ck_Sum := (((0 : Nat), (0 : Nat), (0 : Nat)), (245 : Nat), [.inr (.inr (.inl (226 : Nat))), .inl (ck_one 0), .inl (ck_one 3)], ([], [], []), ([], []), [(.inr (some (.inl ((0 : Int), (299 : Int), []))), (245 : Nat), ([], [], []))])
set_option maxRecDepth 100000 in
theorem p2_s831_s {X : Int → Int} {LX : Nat} : ck_Ok p2_O X LX 301 p2_s831 := ck_okq (cuts := []) (f := 92) ⟨p2_nmu, ck_E0⟩ (by decide +kernel)
/-- GlacierMailModel.opens -/
noncomputable def p2_s832 : ck_Sum := op_os0 0 (.inl (ck_one (-1))) 0 7 (-1) (-1)
theorem p2_s832_s {X : Int → Int} {LX : Nat} : ck_Ok p2_O X LX 319 p2_s832 := op_none (by decide) (by decide) (by decide)
/-- GlacierMailModel.opens -/
noncomputable def p2_s833 : ck_Sum := op_os 0 0 7
theorem p2_s833_s {X : Int → Int} {LX : Nat} : ck_Ok p2_O X LX 319 p2_s833 := op_open (by decide) (by decide) (by decide +kernel)
set_option maxRecDepth 100000 in
/-- GlacierMailModel.open -/
noncomputable def p2_s834 : ck_Sum := (((9 : Nat), (0 : Nat), (0 : Nat)), (245 : Nat), [.inr (.inr (.inl (226 : Nat))), .inl (ck_one 0)], ([], [], zl176), ([((226 : Nat), (0 : Int), (0 : Int)), ((226 : Nat), (6 : Int), (6 : Int)), ((226 : Nat), (17 : Int), (23 : Int)), ((226 : Nat), (26 : Int), (26 : Int)), ((226 : Nat), (29 : Int), (30 : Int)), ((227 : Nat), (14 : Int), (14 : Int)), ((227 : Nat), (124 : Int), (125 : Int)), ((227 : Nat), (323 : Int), (394 : Int)), ((230 : Nat), (0 : Int), (4739 : Int)), ((233 : Nat), (0 : Int), (399 : Int)), ((235 : Nat), (0 : Int), (29699 : Int)), ((236 : Nat), (0 : Int), (299 : Int)), ((237 : Nat), (0 : Int), (299 : Int))], []), [(.inr (some (.inl (ck_one 0))), (245 : Nat), ([], [], zl177)), (.inr (some (.inl ((-299 : Int), (299 : Int), []))), (245 : Nat), ([], [], [((227 : Nat), (124 : Int), (124 : Int), ((0 : Int), (7 : Int), [])), ((227 : Nat), (120 : Int), (120 : Int), ((0 : Int), (7 : Int), [])), ((226 : Nat), (6 : Int), (6 : Int), ((1 : Int), (12 : Int), [((1000027 : Nat), (0 : Int))])), ((226 : Nat), (29 : Int), (29 : Int), ((0 : Int), (299 : Int), [])), ((227 : Nat), (119 : Int), (119 : Int), ((0 : Int), (7 : Int), [])), ((226 : Nat), (0 : Int), (0 : Int), ck_one 0)]))])
set_option maxRecDepth 100000 in
theorem p2_s834_s {X : Int → Int} {LX : Nat} : ck_Ok p2_O X LX 318 p2_s834 := ck_okq (cuts := []) (f := 142) ⟨p2_nmu, ck_E1 (ck_S1 p2_s825_s ck_S0) (ck_E1 (ck_S1 p2_s241_s (ck_S1 p2_s242_s (ck_S1 p2_s244_s (ck_S1 p2_s243_s ck_S0)))) (ck_E1 (ck_S1 p2_s829_s ck_S0) (ck_E1 (ck_S1 p2_s553_s ck_S0) (ck_E1 (ck_S1 p2_s830_s (ck_S1 p2_s831_s ck_S0)) (ck_E1 (ck_S1 p2_s832_s (ck_S1 p2_s833_s ck_S0)) (ck_E1 (ck_S1 p2_s190_s ck_S0) ck_E0))))))⟩ (by decide +kernel)
set_option maxRecDepth 100000 in
/-- GlacierMailModel.in -/
noncomputable def p2_s835 : ck_Sum := (((0 : Nat), (0 : Nat), (0 : Nat)), (245 : Nat), [.inl (ck_one 1), .inl (ck_one 0), .inl ((-1 : Int), (23 : Int), [])], ([], [], []), ([], []), [(.inr (some (.inl (ck_one 0))), (245 : Nat), ([], [], [])), (.inr (some (.inl (ck_one 1))), (245 : Nat), ([], [], []))])
set_option maxRecDepth 100000 in
theorem p2_s835_s {X : Int → Int} {LX : Nat} : ck_Ok p2_O X LX 286 p2_s835 := ck_okq (cuts := []) (f := 88) ⟨p2_nmu, ck_E0⟩ (by decide +kernel)
set_option maxRecDepth 100000 in
/-- GlacierMailModel.noLetter -/
noncomputable def p2_s836 : ck_Sum := (((1 : Nat), (0 : Nat), (0 : Nat)), (245 : Nat), [.inr (.inr (.inl (226 : Nat))), .inl (ck_one 1)], ([], [], [((227 : Nat), (4 : Int), (4 : Int), ((0 : Int), (24 : Int), [((22 : Nat), (0 : Int))]))]), ([], []), [(.inr (some (.inl (ck_one 1))), (245 : Nat), ([], [], [])), (.inr (some (.inl (ck_one 0))), (245 : Nat), ([], [], []))])
set_option maxRecDepth 100000 in
theorem p2_s836_s {X : Int → Int} {LX : Nat} : ck_Ok p2_O X LX 309 p2_s836 := ck_okq (cuts := []) (f := 92) ⟨p2_nmu, ck_E1 (ck_S1 p2_s176_s ck_S0) (ck_E1 (ck_S1 p2_s835_s ck_S0) ck_E0)⟩ (by decide +kernel)
set_option maxRecDepth 100000 in
/-- GlacierMailModel.ofLetter -/
noncomputable def p2_s837 : ck_Sum := (((0 : Nat), (0 : Nat), (0 : Nat)), (245 : Nat), [.inr (.inr (.inl (226 : Nat))), .inl (ck_one 1), .inl (ck_one 0)], ([], [], []), ([], []), [(.inr (some (.inl (ck_one (-1)))), (245 : Nat), ([], [], [((227 : Nat), (126 : Int), (126 : Int), ck_one (-1))])), (.inr (some (.inl ((0 : Int), (7 : Int), []))), (245 : Nat), ([], [], [((227 : Nat), (126 : Int), (126 : Int), ((0 : Int), (7 : Int), []))]))])
set_option maxRecDepth 100000 in
theorem p2_s837_s {X : Int → Int} {LX : Nat} : ck_Ok p2_O X LX 301 p2_s837 := ck_okq (cuts := []) (f := 92) ⟨p2_nmu, ck_E0⟩ (by decide +kernel)
set_option maxRecDepth 100000 in
/-- GlacierMailModel.isRock -/
noncomputable def p2_s838 : ck_Sum := (((1 : Nat), (0 : Nat), (0 : Nat)), (245 : Nat), [.inr (.inr (.inl (226 : Nat))), .inl (ck_one 1)], ([], [], []), ([], []), [(.inr (some (.inl (ck_one 1))), (245 : Nat), ([], [], [((227 : Nat), (126 : Int), (126 : Int), ck_one (-1))])), (.inr (some (.inl (ck_one 0))), (245 : Nat), ([], [], [((227 : Nat), (126 : Int), (126 : Int), ((0 : Int), (7 : Int), []))]))])
set_option maxRecDepth 100000 in
theorem p2_s838_s {X : Int → Int} {LX : Nat} : ck_Ok p2_O X LX 303 p2_s838 := ck_okq (cuts := []) (f := 86) ⟨p2_nmu, ck_E1 (ck_S1 p2_s837_s ck_S0) ck_E0⟩ (by decide +kernel)
set_option maxRecDepth 100000 in
/-- GlacierMailModel.ofLetter -/
noncomputable def p2_s839 : ck_Sum := (((0 : Nat), (0 : Nat), (0 : Nat)), (245 : Nat), [.inr (.inr (.inl (226 : Nat))), .inl (ck_one 1), .inl (ck_one 5)], ([], [], []), ([], []), [(.inr (some (.inl (ck_one (-1)))), (245 : Nat), ([], [], [((227 : Nat), (131 : Int), (131 : Int), ck_one (-1))])), (.inr (some (.inl ((0 : Int), (7 : Int), []))), (245 : Nat), ([], [], [((227 : Nat), (131 : Int), (131 : Int), ((0 : Int), (7 : Int), []))]))])
set_option maxRecDepth 100000 in
theorem p2_s839_s {X : Int → Int} {LX : Nat} : ck_Ok p2_O X LX 301 p2_s839 := ck_okq (cuts := []) (f := 92) ⟨p2_nmu, ck_E0⟩ (by decide +kernel)
set_option maxRecDepth 100000 in
/-- GlacierMailModel.isWaiting -/
noncomputable def p2_s840 : ck_Sum := (((8 : Nat), (0 : Nat), (0 : Nat)), (245 : Nat), [.inr (.inr (.inl (226 : Nat))), .inl (ck_one 1)], ([], [], zl83), (zl81, []), [(.inr (some (.inl (ck_one 0))), (245 : Nat), ([], [], [])), (.inr (some (.inl (ck_one 1))), (245 : Nat), ([], [], [((226 : Nat), (29 : Int), (29 : Int), ((0 : Int), (299 : Int), [])), ((227 : Nat), (131 : Int), (131 : Int), ck_one (-1)), ((227 : Nat), (126 : Int), (126 : Int), ((0 : Int), (7 : Int), []))]))])
set_option maxRecDepth 100000 in
theorem p2_s840_s {X : Int → Int} {LX : Nat} : ck_Ok p2_O X LX 302 p2_s840 := ck_okq (cuts := []) (f := 114) ⟨p2_nmu, ck_E1 (ck_S1 p2_s838_s ck_S0) (ck_E1 (ck_S1 p2_s839_s ck_S0) (ck_E1 (ck_S1 p2_s381_s ck_S0) (ck_E1 (ck_S1 p2_s190_s ck_S0) ck_E0)))⟩ (by decide +kernel)
set_option maxRecDepth 100000 in
/-- GlacierMailModel.ofLetter -/
noncomputable def p2_s841 : ck_Sum := (((0 : Nat), (0 : Nat), (0 : Nat)), (245 : Nat), [.inr (.inr (.inl (226 : Nat))), .inl (ck_one 1), .inl (ck_one 1)], ([], [], []), ([], []), [(.inr (some (.inl (ck_one (-1)))), (245 : Nat), ([], [], [((227 : Nat), (127 : Int), (127 : Int), ck_one (-1))])), (.inr (some (.inl ((0 : Int), (7 : Int), []))), (245 : Nat), ([], [], [((227 : Nat), (127 : Int), (127 : Int), ((0 : Int), (7 : Int), []))]))])
set_option maxRecDepth 100000 in
theorem p2_s841_s {X : Int → Int} {LX : Nat} : ck_Ok p2_O X LX 301 p2_s841 := ck_okq (cuts := []) (f := 92) ⟨p2_nmu, ck_E0⟩ (by decide +kernel)
set_option maxRecDepth 100000 in
/-- GlacierMailModel.ofLetter -/
noncomputable def p2_s842 : ck_Sum := (((0 : Nat), (0 : Nat), (0 : Nat)), (245 : Nat), [.inr (.inr (.inl (226 : Nat))), .inl (ck_one 1), .inl (ck_one 3)], ([], [], []), ([], []), [(.inr (some (.inl ((0 : Int), (299 : Int), []))), (245 : Nat), ([], [], []))])
set_option maxRecDepth 100000 in
theorem p2_s842_s {X : Int → Int} {LX : Nat} : ck_Ok p2_O X LX 301 p2_s842 := ck_okq (cuts := []) (f := 92) ⟨p2_nmu, ck_E0⟩ (by decide +kernel)
/-- GlacierMailModel.opens -/
noncomputable def p2_s843 : ck_Sum := op_os0 1 (.inl (ck_one (-1))) 0 7 (-1) (-1)
theorem p2_s843_s {X : Int → Int} {LX : Nat} : ck_Ok p2_O X LX 319 p2_s843 := op_none (by decide) (by decide) (by decide)
/-- GlacierMailModel.opens -/
noncomputable def p2_s844 : ck_Sum := op_os 1 0 7
theorem p2_s844_s {X : Int → Int} {LX : Nat} : ck_Ok p2_O X LX 319 p2_s844 := op_open (by decide) (by decide) (by decide +kernel)
set_option maxRecDepth 100000 in
/-- GlacierMailModel.open -/
noncomputable def p2_s845 : ck_Sum := (((9 : Nat), (0 : Nat), (0 : Nat)), (245 : Nat), [.inr (.inr (.inl (226 : Nat))), .inl (ck_one 1)], ([], [], zl176), ([((226 : Nat), (0 : Int), (0 : Int)), ((226 : Nat), (6 : Int), (6 : Int)), ((226 : Nat), (17 : Int), (23 : Int)), ((226 : Nat), (26 : Int), (26 : Int)), ((226 : Nat), (29 : Int), (30 : Int)), ((227 : Nat), (14 : Int), (14 : Int)), ((227 : Nat), (131 : Int), (132 : Int)), ((227 : Nat), (323 : Int), (394 : Int)), ((230 : Nat), (0 : Int), (4739 : Int)), ((233 : Nat), (0 : Int), (399 : Int)), ((235 : Nat), (0 : Int), (29699 : Int)), ((236 : Nat), (0 : Int), (299 : Int)), ((237 : Nat), (0 : Int), (299 : Int))], []), [(.inr (some (.inl (ck_one 0))), (245 : Nat), ([], [], zl177)), (.inr (some (.inl ((-299 : Int), (299 : Int), []))), (245 : Nat), ([], [], [((227 : Nat), (131 : Int), (131 : Int), ((0 : Int), (7 : Int), [])), ((227 : Nat), (127 : Int), (127 : Int), ((0 : Int), (7 : Int), [])), ((226 : Nat), (6 : Int), (6 : Int), ((1 : Int), (12 : Int), [((1000027 : Nat), (0 : Int))])), ((226 : Nat), (29 : Int), (29 : Int), ((0 : Int), (299 : Int), [])), ((227 : Nat), (126 : Int), (126 : Int), ((0 : Int), (7 : Int), [])), ((226 : Nat), (0 : Int), (0 : Int), ck_one 0)]))])
set_option maxRecDepth 100000 in
theorem p2_s845_s {X : Int → Int} {LX : Nat} : ck_Ok p2_O X LX 318 p2_s845 := ck_okq (cuts := []) (f := 142) ⟨p2_nmu, ck_E1 (ck_S1 p2_s836_s ck_S0) (ck_E1 (ck_S1 p2_s241_s (ck_S1 p2_s242_s (ck_S1 p2_s244_s (ck_S1 p2_s243_s ck_S0)))) (ck_E1 (ck_S1 p2_s840_s ck_S0) (ck_E1 (ck_S1 p2_s553_s ck_S0) (ck_E1 (ck_S1 p2_s841_s (ck_S1 p2_s842_s ck_S0)) (ck_E1 (ck_S1 p2_s843_s (ck_S1 p2_s844_s ck_S0)) (ck_E1 (ck_S1 p2_s190_s ck_S0) ck_E0))))))⟩ (by decide +kernel)
set_option maxRecDepth 100000 in
/-- GlacierMailModel.in -/
noncomputable def p2_s846 : ck_Sum := (((0 : Nat), (0 : Nat), (0 : Nat)), (245 : Nat), [.inl (ck_one 2), .inl (ck_one 0), .inl ((-1 : Int), (23 : Int), [])], ([], [], []), ([], []), [(.inr (some (.inl (ck_one 0))), (245 : Nat), ([], [], [])), (.inr (some (.inl (ck_one 1))), (245 : Nat), ([], [], []))])
set_option maxRecDepth 100000 in
theorem p2_s846_s {X : Int → Int} {LX : Nat} : ck_Ok p2_O X LX 286 p2_s846 := ck_okq (cuts := []) (f := 88) ⟨p2_nmu, ck_E0⟩ (by decide +kernel)
set_option maxRecDepth 100000 in
/-- GlacierMailModel.noLetter -/
noncomputable def p2_s847 : ck_Sum := (((1 : Nat), (0 : Nat), (0 : Nat)), (245 : Nat), [.inr (.inr (.inl (226 : Nat))), .inl (ck_one 2)], ([], [], [((227 : Nat), (4 : Int), (4 : Int), ((0 : Int), (24 : Int), [((22 : Nat), (0 : Int))]))]), ([], []), [(.inr (some (.inl (ck_one 1))), (245 : Nat), ([], [], [])), (.inr (some (.inl (ck_one 0))), (245 : Nat), ([], [], []))])
set_option maxRecDepth 100000 in
theorem p2_s847_s {X : Int → Int} {LX : Nat} : ck_Ok p2_O X LX 309 p2_s847 := ck_okq (cuts := []) (f := 92) ⟨p2_nmu, ck_E1 (ck_S1 p2_s176_s ck_S0) (ck_E1 (ck_S1 p2_s846_s ck_S0) ck_E0)⟩ (by decide +kernel)
set_option maxRecDepth 100000 in
/-- GlacierMailModel.ofLetter -/
noncomputable def p2_s848 : ck_Sum := (((0 : Nat), (0 : Nat), (0 : Nat)), (245 : Nat), [.inr (.inr (.inl (226 : Nat))), .inl (ck_one 2), .inl (ck_one 0)], ([], [], []), ([], []), [(.inr (some (.inl (ck_one (-1)))), (245 : Nat), ([], [], [((227 : Nat), (133 : Int), (133 : Int), ck_one (-1))])), (.inr (some (.inl ((0 : Int), (7 : Int), []))), (245 : Nat), ([], [], [((227 : Nat), (133 : Int), (133 : Int), ((0 : Int), (7 : Int), []))]))])
set_option maxRecDepth 100000 in
theorem p2_s848_s {X : Int → Int} {LX : Nat} : ck_Ok p2_O X LX 301 p2_s848 := ck_okq (cuts := []) (f := 92) ⟨p2_nmu, ck_E0⟩ (by decide +kernel)
set_option maxRecDepth 100000 in
/-- GlacierMailModel.isRock -/
noncomputable def p2_s849 : ck_Sum := (((1 : Nat), (0 : Nat), (0 : Nat)), (245 : Nat), [.inr (.inr (.inl (226 : Nat))), .inl (ck_one 2)], ([], [], []), ([], []), [(.inr (some (.inl (ck_one 1))), (245 : Nat), ([], [], [((227 : Nat), (133 : Int), (133 : Int), ck_one (-1))])), (.inr (some (.inl (ck_one 0))), (245 : Nat), ([], [], [((227 : Nat), (133 : Int), (133 : Int), ((0 : Int), (7 : Int), []))]))])
set_option maxRecDepth 100000 in
theorem p2_s849_s {X : Int → Int} {LX : Nat} : ck_Ok p2_O X LX 303 p2_s849 := ck_okq (cuts := []) (f := 86) ⟨p2_nmu, ck_E1 (ck_S1 p2_s848_s ck_S0) ck_E0⟩ (by decide +kernel)
set_option maxRecDepth 100000 in
/-- GlacierMailModel.ofLetter -/
noncomputable def p2_s850 : ck_Sum := (((0 : Nat), (0 : Nat), (0 : Nat)), (245 : Nat), [.inr (.inr (.inl (226 : Nat))), .inl (ck_one 2), .inl (ck_one 5)], ([], [], []), ([], []), [(.inr (some (.inl (ck_one (-1)))), (245 : Nat), ([], [], [((227 : Nat), (138 : Int), (138 : Int), ck_one (-1))])), (.inr (some (.inl ((0 : Int), (7 : Int), []))), (245 : Nat), ([], [], [((227 : Nat), (138 : Int), (138 : Int), ((0 : Int), (7 : Int), []))]))])
set_option maxRecDepth 100000 in
theorem p2_s850_s {X : Int → Int} {LX : Nat} : ck_Ok p2_O X LX 301 p2_s850 := ck_okq (cuts := []) (f := 92) ⟨p2_nmu, ck_E0⟩ (by decide +kernel)
set_option maxRecDepth 100000 in
/-- GlacierMailModel.isWaiting -/
noncomputable def p2_s851 : ck_Sum := (((8 : Nat), (0 : Nat), (0 : Nat)), (245 : Nat), [.inr (.inr (.inl (226 : Nat))), .inl (ck_one 2)], ([], [], zl83), (zl81, []), [(.inr (some (.inl (ck_one 0))), (245 : Nat), ([], [], [])), (.inr (some (.inl (ck_one 1))), (245 : Nat), ([], [], [((226 : Nat), (29 : Int), (29 : Int), ((0 : Int), (299 : Int), [])), ((227 : Nat), (138 : Int), (138 : Int), ck_one (-1)), ((227 : Nat), (133 : Int), (133 : Int), ((0 : Int), (7 : Int), []))]))])
set_option maxRecDepth 100000 in
theorem p2_s851_s {X : Int → Int} {LX : Nat} : ck_Ok p2_O X LX 302 p2_s851 := ck_okq (cuts := []) (f := 114) ⟨p2_nmu, ck_E1 (ck_S1 p2_s849_s ck_S0) (ck_E1 (ck_S1 p2_s850_s ck_S0) (ck_E1 (ck_S1 p2_s381_s ck_S0) (ck_E1 (ck_S1 p2_s190_s ck_S0) ck_E0)))⟩ (by decide +kernel)
set_option maxRecDepth 100000 in
/-- GlacierMailModel.ofLetter -/
noncomputable def p2_s852 : ck_Sum := (((0 : Nat), (0 : Nat), (0 : Nat)), (245 : Nat), [.inr (.inr (.inl (226 : Nat))), .inl (ck_one 2), .inl (ck_one 1)], ([], [], []), ([], []), [(.inr (some (.inl (ck_one (-1)))), (245 : Nat), ([], [], [((227 : Nat), (134 : Int), (134 : Int), ck_one (-1))])), (.inr (some (.inl ((0 : Int), (7 : Int), []))), (245 : Nat), ([], [], [((227 : Nat), (134 : Int), (134 : Int), ((0 : Int), (7 : Int), []))]))])
set_option maxRecDepth 100000 in
theorem p2_s852_s {X : Int → Int} {LX : Nat} : ck_Ok p2_O X LX 301 p2_s852 := ck_okq (cuts := []) (f := 92) ⟨p2_nmu, ck_E0⟩ (by decide +kernel)
set_option maxRecDepth 100000 in
/-- GlacierMailModel.ofLetter -/
noncomputable def p2_s853 : ck_Sum := (((0 : Nat), (0 : Nat), (0 : Nat)), (245 : Nat), [.inr (.inr (.inl (226 : Nat))), .inl (ck_one 2), .inl (ck_one 3)], ([], [], []), ([], []), [(.inr (some (.inl ((0 : Int), (299 : Int), []))), (245 : Nat), ([], [], []))])
set_option maxRecDepth 100000 in
theorem p2_s853_s {X : Int → Int} {LX : Nat} : ck_Ok p2_O X LX 301 p2_s853 := ck_okq (cuts := []) (f := 92) ⟨p2_nmu, ck_E0⟩ (by decide +kernel)
/-- GlacierMailModel.opens -/
noncomputable def p2_s854 : ck_Sum := op_os0 2 (.inl (ck_one (-1))) 0 7 (-1) (-1)
theorem p2_s854_s {X : Int → Int} {LX : Nat} : ck_Ok p2_O X LX 319 p2_s854 := op_none (by decide) (by decide) (by decide)
/-- GlacierMailModel.opens -/
noncomputable def p2_s855 : ck_Sum := op_os 2 0 7
theorem p2_s855_s {X : Int → Int} {LX : Nat} : ck_Ok p2_O X LX 319 p2_s855 := op_open (by decide) (by decide) (by decide +kernel)
set_option maxRecDepth 100000 in
/-- GlacierMailModel.open -/
noncomputable def p2_s856 : ck_Sum := (((9 : Nat), (0 : Nat), (0 : Nat)), (245 : Nat), [.inr (.inr (.inl (226 : Nat))), .inl (ck_one 2)], ([], [], zl176), ([((226 : Nat), (0 : Int), (0 : Int)), ((226 : Nat), (6 : Int), (6 : Int)), ((226 : Nat), (17 : Int), (23 : Int)), ((226 : Nat), (26 : Int), (26 : Int)), ((226 : Nat), (29 : Int), (30 : Int)), ((227 : Nat), (14 : Int), (14 : Int)), ((227 : Nat), (138 : Int), (139 : Int)), ((227 : Nat), (323 : Int), (394 : Int)), ((230 : Nat), (0 : Int), (4739 : Int)), ((233 : Nat), (0 : Int), (399 : Int)), ((235 : Nat), (0 : Int), (29699 : Int)), ((236 : Nat), (0 : Int), (299 : Int)), ((237 : Nat), (0 : Int), (299 : Int))], []), [(.inr (some (.inl (ck_one 0))), (245 : Nat), ([], [], zl177)), (.inr (some (.inl ((-299 : Int), (299 : Int), []))), (245 : Nat), ([], [], [((227 : Nat), (138 : Int), (138 : Int), ((0 : Int), (7 : Int), [])), ((227 : Nat), (134 : Int), (134 : Int), ((0 : Int), (7 : Int), [])), ((226 : Nat), (6 : Int), (6 : Int), ((1 : Int), (12 : Int), [((1000027 : Nat), (0 : Int))])), ((226 : Nat), (29 : Int), (29 : Int), ((0 : Int), (299 : Int), [])), ((227 : Nat), (133 : Int), (133 : Int), ((0 : Int), (7 : Int), [])), ((226 : Nat), (0 : Int), (0 : Int), ck_one 0)]))])
set_option maxRecDepth 100000 in
theorem p2_s856_s {X : Int → Int} {LX : Nat} : ck_Ok p2_O X LX 318 p2_s856 := ck_okq (cuts := []) (f := 142) ⟨p2_nmu, ck_E1 (ck_S1 p2_s847_s ck_S0) (ck_E1 (ck_S1 p2_s241_s (ck_S1 p2_s242_s (ck_S1 p2_s244_s (ck_S1 p2_s243_s ck_S0)))) (ck_E1 (ck_S1 p2_s851_s ck_S0) (ck_E1 (ck_S1 p2_s553_s ck_S0) (ck_E1 (ck_S1 p2_s852_s (ck_S1 p2_s853_s ck_S0)) (ck_E1 (ck_S1 p2_s854_s (ck_S1 p2_s855_s ck_S0)) (ck_E1 (ck_S1 p2_s190_s ck_S0) ck_E0))))))⟩ (by decide +kernel)
set_option maxRecDepth 100000 in
/-- GlacierMailModel.in -/
noncomputable def p2_s857 : ck_Sum := (((0 : Nat), (0 : Nat), (0 : Nat)), (245 : Nat), [.inl (ck_one 3), .inl (ck_one 0), .inl ((-1 : Int), (23 : Int), [])], ([], [], []), ([], []), [(.inr (some (.inl (ck_one 0))), (245 : Nat), ([], [], [])), (.inr (some (.inl (ck_one 1))), (245 : Nat), ([], [], []))])
set_option maxRecDepth 100000 in
theorem p2_s857_s {X : Int → Int} {LX : Nat} : ck_Ok p2_O X LX 286 p2_s857 := ck_okq (cuts := []) (f := 88) ⟨p2_nmu, ck_E0⟩ (by decide +kernel)
set_option maxRecDepth 100000 in
/-- GlacierMailModel.noLetter -/
noncomputable def p2_s858 : ck_Sum := (((1 : Nat), (0 : Nat), (0 : Nat)), (245 : Nat), [.inr (.inr (.inl (226 : Nat))), .inl (ck_one 3)], ([], [], [((227 : Nat), (4 : Int), (4 : Int), ((0 : Int), (24 : Int), [((22 : Nat), (0 : Int))]))]), ([], []), [(.inr (some (.inl (ck_one 1))), (245 : Nat), ([], [], [])), (.inr (some (.inl (ck_one 0))), (245 : Nat), ([], [], []))])
set_option maxRecDepth 100000 in
theorem p2_s858_s {X : Int → Int} {LX : Nat} : ck_Ok p2_O X LX 309 p2_s858 := ck_okq (cuts := []) (f := 92) ⟨p2_nmu, ck_E1 (ck_S1 p2_s176_s ck_S0) (ck_E1 (ck_S1 p2_s857_s ck_S0) ck_E0)⟩ (by decide +kernel)
set_option maxRecDepth 100000 in
/-- GlacierMailModel.ofLetter -/
noncomputable def p2_s859 : ck_Sum := (((0 : Nat), (0 : Nat), (0 : Nat)), (245 : Nat), [.inr (.inr (.inl (226 : Nat))), .inl (ck_one 3), .inl (ck_one 0)], ([], [], []), ([], []), [(.inr (some (.inl (ck_one (-1)))), (245 : Nat), ([], [], [((227 : Nat), (140 : Int), (140 : Int), ck_one (-1))])), (.inr (some (.inl ((0 : Int), (7 : Int), []))), (245 : Nat), ([], [], [((227 : Nat), (140 : Int), (140 : Int), ((0 : Int), (7 : Int), []))]))])
set_option maxRecDepth 100000 in
theorem p2_s859_s {X : Int → Int} {LX : Nat} : ck_Ok p2_O X LX 301 p2_s859 := ck_okq (cuts := []) (f := 92) ⟨p2_nmu, ck_E0⟩ (by decide +kernel)
set_option maxRecDepth 100000 in
/-- GlacierMailModel.isRock -/
noncomputable def p2_s860 : ck_Sum := (((1 : Nat), (0 : Nat), (0 : Nat)), (245 : Nat), [.inr (.inr (.inl (226 : Nat))), .inl (ck_one 3)], ([], [], []), ([], []), [(.inr (some (.inl (ck_one 1))), (245 : Nat), ([], [], [((227 : Nat), (140 : Int), (140 : Int), ck_one (-1))])), (.inr (some (.inl (ck_one 0))), (245 : Nat), ([], [], [((227 : Nat), (140 : Int), (140 : Int), ((0 : Int), (7 : Int), []))]))])
set_option maxRecDepth 100000 in
theorem p2_s860_s {X : Int → Int} {LX : Nat} : ck_Ok p2_O X LX 303 p2_s860 := ck_okq (cuts := []) (f := 86) ⟨p2_nmu, ck_E1 (ck_S1 p2_s859_s ck_S0) ck_E0⟩ (by decide +kernel)
set_option maxRecDepth 100000 in
/-- GlacierMailModel.ofLetter -/
noncomputable def p2_s861 : ck_Sum := (((0 : Nat), (0 : Nat), (0 : Nat)), (245 : Nat), [.inr (.inr (.inl (226 : Nat))), .inl (ck_one 3), .inl (ck_one 5)], ([], [], []), ([], []), [(.inr (some (.inl (ck_one (-1)))), (245 : Nat), ([], [], [((227 : Nat), (145 : Int), (145 : Int), ck_one (-1))])), (.inr (some (.inl ((0 : Int), (7 : Int), []))), (245 : Nat), ([], [], [((227 : Nat), (145 : Int), (145 : Int), ((0 : Int), (7 : Int), []))]))])
set_option maxRecDepth 100000 in
theorem p2_s861_s {X : Int → Int} {LX : Nat} : ck_Ok p2_O X LX 301 p2_s861 := ck_okq (cuts := []) (f := 92) ⟨p2_nmu, ck_E0⟩ (by decide +kernel)
set_option maxRecDepth 100000 in
/-- GlacierMailModel.isWaiting -/
noncomputable def p2_s862 : ck_Sum := (((8 : Nat), (0 : Nat), (0 : Nat)), (245 : Nat), [.inr (.inr (.inl (226 : Nat))), .inl (ck_one 3)], ([], [], zl83), (zl81, []), [(.inr (some (.inl (ck_one 0))), (245 : Nat), ([], [], [])), (.inr (some (.inl (ck_one 1))), (245 : Nat), ([], [], [((226 : Nat), (29 : Int), (29 : Int), ((0 : Int), (299 : Int), [])), ((227 : Nat), (145 : Int), (145 : Int), ck_one (-1)), ((227 : Nat), (140 : Int), (140 : Int), ((0 : Int), (7 : Int), []))]))])
set_option maxRecDepth 100000 in
theorem p2_s862_s {X : Int → Int} {LX : Nat} : ck_Ok p2_O X LX 302 p2_s862 := ck_okq (cuts := []) (f := 114) ⟨p2_nmu, ck_E1 (ck_S1 p2_s860_s ck_S0) (ck_E1 (ck_S1 p2_s861_s ck_S0) (ck_E1 (ck_S1 p2_s381_s ck_S0) (ck_E1 (ck_S1 p2_s190_s ck_S0) ck_E0)))⟩ (by decide +kernel)
set_option maxRecDepth 100000 in
/-- GlacierMailModel.ofLetter -/
noncomputable def p2_s863 : ck_Sum := (((0 : Nat), (0 : Nat), (0 : Nat)), (245 : Nat), [.inr (.inr (.inl (226 : Nat))), .inl (ck_one 3), .inl (ck_one 1)], ([], [], []), ([], []), [(.inr (some (.inl (ck_one (-1)))), (245 : Nat), ([], [], [((227 : Nat), (141 : Int), (141 : Int), ck_one (-1))])), (.inr (some (.inl ((0 : Int), (7 : Int), []))), (245 : Nat), ([], [], [((227 : Nat), (141 : Int), (141 : Int), ((0 : Int), (7 : Int), []))]))])
set_option maxRecDepth 100000 in
theorem p2_s863_s {X : Int → Int} {LX : Nat} : ck_Ok p2_O X LX 301 p2_s863 := ck_okq (cuts := []) (f := 92) ⟨p2_nmu, ck_E0⟩ (by decide +kernel)
set_option maxRecDepth 100000 in
/-- GlacierMailModel.ofLetter -/
noncomputable def p2_s864 : ck_Sum := (((0 : Nat), (0 : Nat), (0 : Nat)), (245 : Nat), [.inr (.inr (.inl (226 : Nat))), .inl (ck_one 3), .inl (ck_one 3)], ([], [], []), ([], []), [(.inr (some (.inl ((0 : Int), (299 : Int), []))), (245 : Nat), ([], [], []))])
set_option maxRecDepth 100000 in
theorem p2_s864_s {X : Int → Int} {LX : Nat} : ck_Ok p2_O X LX 301 p2_s864 := ck_okq (cuts := []) (f := 92) ⟨p2_nmu, ck_E0⟩ (by decide +kernel)
/-- GlacierMailModel.opens -/
noncomputable def p2_s865 : ck_Sum := op_os0 3 (.inl (ck_one (-1))) 0 7 (-1) (-1)
theorem p2_s865_s {X : Int → Int} {LX : Nat} : ck_Ok p2_O X LX 319 p2_s865 := op_none (by decide) (by decide) (by decide)
/-- GlacierMailModel.opens -/
noncomputable def p2_s866 : ck_Sum := op_os 3 0 7
theorem p2_s866_s {X : Int → Int} {LX : Nat} : ck_Ok p2_O X LX 319 p2_s866 := op_open (by decide) (by decide) (by decide +kernel)
set_option maxRecDepth 100000 in
/-- GlacierMailModel.open -/
noncomputable def p2_s867 : ck_Sum := (((9 : Nat), (0 : Nat), (0 : Nat)), (245 : Nat), [.inr (.inr (.inl (226 : Nat))), .inl (ck_one 3)], ([], [], zl176), ([((226 : Nat), (0 : Int), (0 : Int)), ((226 : Nat), (6 : Int), (6 : Int)), ((226 : Nat), (17 : Int), (23 : Int)), ((226 : Nat), (26 : Int), (26 : Int)), ((226 : Nat), (29 : Int), (30 : Int)), ((227 : Nat), (14 : Int), (14 : Int)), ((227 : Nat), (145 : Int), (146 : Int)), ((227 : Nat), (323 : Int), (394 : Int)), ((230 : Nat), (0 : Int), (4739 : Int)), ((233 : Nat), (0 : Int), (399 : Int)), ((235 : Nat), (0 : Int), (29699 : Int)), ((236 : Nat), (0 : Int), (299 : Int)), ((237 : Nat), (0 : Int), (299 : Int))], []), [(.inr (some (.inl (ck_one 0))), (245 : Nat), ([], [], zl177)), (.inr (some (.inl ((-299 : Int), (299 : Int), []))), (245 : Nat), ([], [], [((227 : Nat), (145 : Int), (145 : Int), ((0 : Int), (7 : Int), [])), ((227 : Nat), (141 : Int), (141 : Int), ((0 : Int), (7 : Int), [])), ((226 : Nat), (6 : Int), (6 : Int), ((1 : Int), (12 : Int), [((1000027 : Nat), (0 : Int))])), ((226 : Nat), (29 : Int), (29 : Int), ((0 : Int), (299 : Int), [])), ((227 : Nat), (140 : Int), (140 : Int), ((0 : Int), (7 : Int), [])), ((226 : Nat), (0 : Int), (0 : Int), ck_one 0)]))])
set_option maxRecDepth 100000 in
theorem p2_s867_s {X : Int → Int} {LX : Nat} : ck_Ok p2_O X LX 318 p2_s867 := ck_okq (cuts := []) (f := 142) ⟨p2_nmu, ck_E1 (ck_S1 p2_s858_s ck_S0) (ck_E1 (ck_S1 p2_s241_s (ck_S1 p2_s242_s (ck_S1 p2_s244_s (ck_S1 p2_s243_s ck_S0)))) (ck_E1 (ck_S1 p2_s862_s ck_S0) (ck_E1 (ck_S1 p2_s553_s ck_S0) (ck_E1 (ck_S1 p2_s863_s (ck_S1 p2_s864_s ck_S0)) (ck_E1 (ck_S1 p2_s865_s (ck_S1 p2_s866_s ck_S0)) (ck_E1 (ck_S1 p2_s190_s ck_S0) ck_E0))))))⟩ (by decide +kernel)
set_option maxRecDepth 100000 in
/-- GlacierMailModel.in -/
noncomputable def p2_s868 : ck_Sum := (((0 : Nat), (0 : Nat), (0 : Nat)), (245 : Nat), [.inl (ck_one 4), .inl (ck_one 0), .inl ((-1 : Int), (23 : Int), [])], ([], [], []), ([], []), [(.inr (some (.inl (ck_one 0))), (245 : Nat), ([], [], [])), (.inr (some (.inl (ck_one 1))), (245 : Nat), ([], [], []))])
set_option maxRecDepth 100000 in
theorem p2_s868_s {X : Int → Int} {LX : Nat} : ck_Ok p2_O X LX 286 p2_s868 := ck_okq (cuts := []) (f := 88) ⟨p2_nmu, ck_E0⟩ (by decide +kernel)
set_option maxRecDepth 100000 in
/-- GlacierMailModel.noLetter -/
noncomputable def p2_s869 : ck_Sum := (((1 : Nat), (0 : Nat), (0 : Nat)), (245 : Nat), [.inr (.inr (.inl (226 : Nat))), .inl (ck_one 4)], ([], [], [((227 : Nat), (4 : Int), (4 : Int), ((0 : Int), (24 : Int), [((22 : Nat), (0 : Int))]))]), ([], []), [(.inr (some (.inl (ck_one 1))), (245 : Nat), ([], [], [])), (.inr (some (.inl (ck_one 0))), (245 : Nat), ([], [], []))])
set_option maxRecDepth 100000 in
theorem p2_s869_s {X : Int → Int} {LX : Nat} : ck_Ok p2_O X LX 309 p2_s869 := ck_okq (cuts := []) (f := 92) ⟨p2_nmu, ck_E1 (ck_S1 p2_s176_s ck_S0) (ck_E1 (ck_S1 p2_s868_s ck_S0) ck_E0)⟩ (by decide +kernel)
set_option maxRecDepth 100000 in
/-- GlacierMailModel.ofLetter -/
noncomputable def p2_s870 : ck_Sum := (((0 : Nat), (0 : Nat), (0 : Nat)), (245 : Nat), [.inr (.inr (.inl (226 : Nat))), .inl (ck_one 4), .inl (ck_one 0)], ([], [], []), ([], []), [(.inr (some (.inl (ck_one (-1)))), (245 : Nat), ([], [], [((227 : Nat), (147 : Int), (147 : Int), ck_one (-1))])), (.inr (some (.inl ((0 : Int), (7 : Int), []))), (245 : Nat), ([], [], [((227 : Nat), (147 : Int), (147 : Int), ((0 : Int), (7 : Int), []))]))])
set_option maxRecDepth 100000 in
theorem p2_s870_s {X : Int → Int} {LX : Nat} : ck_Ok p2_O X LX 301 p2_s870 := ck_okq (cuts := []) (f := 92) ⟨p2_nmu, ck_E0⟩ (by decide +kernel)
set_option maxRecDepth 100000 in
/-- GlacierMailModel.isRock -/
noncomputable def p2_s871 : ck_Sum := (((1 : Nat), (0 : Nat), (0 : Nat)), (245 : Nat), [.inr (.inr (.inl (226 : Nat))), .inl (ck_one 4)], ([], [], []), ([], []), [(.inr (some (.inl (ck_one 1))), (245 : Nat), ([], [], [((227 : Nat), (147 : Int), (147 : Int), ck_one (-1))])), (.inr (some (.inl (ck_one 0))), (245 : Nat), ([], [], [((227 : Nat), (147 : Int), (147 : Int), ((0 : Int), (7 : Int), []))]))])
set_option maxRecDepth 100000 in
theorem p2_s871_s {X : Int → Int} {LX : Nat} : ck_Ok p2_O X LX 303 p2_s871 := ck_okq (cuts := []) (f := 86) ⟨p2_nmu, ck_E1 (ck_S1 p2_s870_s ck_S0) ck_E0⟩ (by decide +kernel)
set_option maxRecDepth 100000 in
/-- GlacierMailModel.ofLetter -/
noncomputable def p2_s872 : ck_Sum := (((0 : Nat), (0 : Nat), (0 : Nat)), (245 : Nat), [.inr (.inr (.inl (226 : Nat))), .inl (ck_one 4), .inl (ck_one 5)], ([], [], []), ([], []), [(.inr (some (.inl (ck_one (-1)))), (245 : Nat), ([], [], [((227 : Nat), (152 : Int), (152 : Int), ck_one (-1))])), (.inr (some (.inl ((0 : Int), (7 : Int), []))), (245 : Nat), ([], [], [((227 : Nat), (152 : Int), (152 : Int), ((0 : Int), (7 : Int), []))]))])
set_option maxRecDepth 100000 in
theorem p2_s872_s {X : Int → Int} {LX : Nat} : ck_Ok p2_O X LX 301 p2_s872 := ck_okq (cuts := []) (f := 92) ⟨p2_nmu, ck_E0⟩ (by decide +kernel)
set_option maxRecDepth 100000 in
/-- GlacierMailModel.isWaiting -/
noncomputable def p2_s873 : ck_Sum := (((8 : Nat), (0 : Nat), (0 : Nat)), (245 : Nat), [.inr (.inr (.inl (226 : Nat))), .inl (ck_one 4)], ([], [], zl83), (zl81, []), [(.inr (some (.inl (ck_one 0))), (245 : Nat), ([], [], [])), (.inr (some (.inl (ck_one 1))), (245 : Nat), ([], [], [((226 : Nat), (29 : Int), (29 : Int), ((0 : Int), (299 : Int), [])), ((227 : Nat), (152 : Int), (152 : Int), ck_one (-1)), ((227 : Nat), (147 : Int), (147 : Int), ((0 : Int), (7 : Int), []))]))])
set_option maxRecDepth 100000 in
theorem p2_s873_s {X : Int → Int} {LX : Nat} : ck_Ok p2_O X LX 302 p2_s873 := ck_okq (cuts := []) (f := 114) ⟨p2_nmu, ck_E1 (ck_S1 p2_s871_s ck_S0) (ck_E1 (ck_S1 p2_s872_s ck_S0) (ck_E1 (ck_S1 p2_s381_s ck_S0) (ck_E1 (ck_S1 p2_s190_s ck_S0) ck_E0)))⟩ (by decide +kernel)
set_option maxRecDepth 100000 in
/-- GlacierMailModel.ofLetter -/
noncomputable def p2_s874 : ck_Sum := (((0 : Nat), (0 : Nat), (0 : Nat)), (245 : Nat), [.inr (.inr (.inl (226 : Nat))), .inl (ck_one 4), .inl (ck_one 1)], ([], [], []), ([], []), [(.inr (some (.inl (ck_one (-1)))), (245 : Nat), ([], [], [((227 : Nat), (148 : Int), (148 : Int), ck_one (-1))])), (.inr (some (.inl ((0 : Int), (7 : Int), []))), (245 : Nat), ([], [], [((227 : Nat), (148 : Int), (148 : Int), ((0 : Int), (7 : Int), []))]))])
set_option maxRecDepth 100000 in
theorem p2_s874_s {X : Int → Int} {LX : Nat} : ck_Ok p2_O X LX 301 p2_s874 := ck_okq (cuts := []) (f := 92) ⟨p2_nmu, ck_E0⟩ (by decide +kernel)
set_option maxRecDepth 100000 in
/-- GlacierMailModel.ofLetter -/
noncomputable def p2_s875 : ck_Sum := (((0 : Nat), (0 : Nat), (0 : Nat)), (245 : Nat), [.inr (.inr (.inl (226 : Nat))), .inl (ck_one 4), .inl (ck_one 3)], ([], [], []), ([], []), [(.inr (some (.inl ((0 : Int), (299 : Int), []))), (245 : Nat), ([], [], []))])
set_option maxRecDepth 100000 in
theorem p2_s875_s {X : Int → Int} {LX : Nat} : ck_Ok p2_O X LX 301 p2_s875 := ck_okq (cuts := []) (f := 92) ⟨p2_nmu, ck_E0⟩ (by decide +kernel)
/-- GlacierMailModel.opens -/
noncomputable def p2_s876 : ck_Sum := op_os0 4 (.inl (ck_one (-1))) 0 7 (-1) (-1)
theorem p2_s876_s {X : Int → Int} {LX : Nat} : ck_Ok p2_O X LX 319 p2_s876 := op_none (by decide) (by decide) (by decide)
/-- GlacierMailModel.opens -/
noncomputable def p2_s877 : ck_Sum := op_os 4 0 7
theorem p2_s877_s {X : Int → Int} {LX : Nat} : ck_Ok p2_O X LX 319 p2_s877 := op_open (by decide) (by decide) (by decide +kernel)
set_option maxRecDepth 100000 in
/-- GlacierMailModel.open -/
noncomputable def p2_s878 : ck_Sum := (((9 : Nat), (0 : Nat), (0 : Nat)), (245 : Nat), [.inr (.inr (.inl (226 : Nat))), .inl (ck_one 4)], ([], [], zl176), ([((226 : Nat), (0 : Int), (0 : Int)), ((226 : Nat), (6 : Int), (6 : Int)), ((226 : Nat), (17 : Int), (23 : Int)), ((226 : Nat), (26 : Int), (26 : Int)), ((226 : Nat), (29 : Int), (30 : Int)), ((227 : Nat), (14 : Int), (14 : Int)), ((227 : Nat), (152 : Int), (153 : Int)), ((227 : Nat), (323 : Int), (394 : Int)), ((230 : Nat), (0 : Int), (4739 : Int)), ((233 : Nat), (0 : Int), (399 : Int)), ((235 : Nat), (0 : Int), (29699 : Int)), ((236 : Nat), (0 : Int), (299 : Int)), ((237 : Nat), (0 : Int), (299 : Int))], []), [(.inr (some (.inl (ck_one 0))), (245 : Nat), ([], [], zl177)), (.inr (some (.inl ((-299 : Int), (299 : Int), []))), (245 : Nat), ([], [], [((227 : Nat), (152 : Int), (152 : Int), ((0 : Int), (7 : Int), [])), ((227 : Nat), (148 : Int), (148 : Int), ((0 : Int), (7 : Int), [])), ((226 : Nat), (6 : Int), (6 : Int), ((1 : Int), (12 : Int), [((1000027 : Nat), (0 : Int))])), ((226 : Nat), (29 : Int), (29 : Int), ((0 : Int), (299 : Int), [])), ((227 : Nat), (147 : Int), (147 : Int), ((0 : Int), (7 : Int), [])), ((226 : Nat), (0 : Int), (0 : Int), ck_one 0)]))])
set_option maxRecDepth 100000 in
theorem p2_s878_s {X : Int → Int} {LX : Nat} : ck_Ok p2_O X LX 318 p2_s878 := ck_okq (cuts := []) (f := 142) ⟨p2_nmu, ck_E1 (ck_S1 p2_s869_s ck_S0) (ck_E1 (ck_S1 p2_s241_s (ck_S1 p2_s242_s (ck_S1 p2_s244_s (ck_S1 p2_s243_s ck_S0)))) (ck_E1 (ck_S1 p2_s873_s ck_S0) (ck_E1 (ck_S1 p2_s553_s ck_S0) (ck_E1 (ck_S1 p2_s874_s (ck_S1 p2_s875_s ck_S0)) (ck_E1 (ck_S1 p2_s876_s (ck_S1 p2_s877_s ck_S0)) (ck_E1 (ck_S1 p2_s190_s ck_S0) ck_E0))))))⟩ (by decide +kernel)
set_option maxRecDepth 100000 in
/-- GlacierMailModel.in -/
noncomputable def p2_s879 : ck_Sum := (((0 : Nat), (0 : Nat), (0 : Nat)), (245 : Nat), [.inl (ck_one 5), .inl (ck_one 0), .inl ((-1 : Int), (23 : Int), [])], ([], [], []), ([], []), [(.inr (some (.inl (ck_one 0))), (245 : Nat), ([], [], [])), (.inr (some (.inl (ck_one 1))), (245 : Nat), ([], [], []))])
set_option maxRecDepth 100000 in
theorem p2_s879_s {X : Int → Int} {LX : Nat} : ck_Ok p2_O X LX 286 p2_s879 := ck_okq (cuts := []) (f := 88) ⟨p2_nmu, ck_E0⟩ (by decide +kernel)
set_option maxRecDepth 100000 in
/-- GlacierMailModel.noLetter -/
noncomputable def p2_s880 : ck_Sum := (((1 : Nat), (0 : Nat), (0 : Nat)), (245 : Nat), [.inr (.inr (.inl (226 : Nat))), .inl (ck_one 5)], ([], [], [((227 : Nat), (4 : Int), (4 : Int), ((0 : Int), (24 : Int), [((22 : Nat), (0 : Int))]))]), ([], []), [(.inr (some (.inl (ck_one 1))), (245 : Nat), ([], [], [])), (.inr (some (.inl (ck_one 0))), (245 : Nat), ([], [], []))])
set_option maxRecDepth 100000 in
theorem p2_s880_s {X : Int → Int} {LX : Nat} : ck_Ok p2_O X LX 309 p2_s880 := ck_okq (cuts := []) (f := 92) ⟨p2_nmu, ck_E1 (ck_S1 p2_s176_s ck_S0) (ck_E1 (ck_S1 p2_s879_s ck_S0) ck_E0)⟩ (by decide +kernel)
set_option maxRecDepth 100000 in
/-- GlacierMailModel.ofLetter -/
noncomputable def p2_s881 : ck_Sum := (((0 : Nat), (0 : Nat), (0 : Nat)), (245 : Nat), [.inr (.inr (.inl (226 : Nat))), .inl (ck_one 5), .inl (ck_one 0)], ([], [], []), ([], []), [(.inr (some (.inl (ck_one (-1)))), (245 : Nat), ([], [], [((227 : Nat), (154 : Int), (154 : Int), ck_one (-1))])), (.inr (some (.inl ((0 : Int), (7 : Int), []))), (245 : Nat), ([], [], [((227 : Nat), (154 : Int), (154 : Int), ((0 : Int), (7 : Int), []))]))])
set_option maxRecDepth 100000 in
theorem p2_s881_s {X : Int → Int} {LX : Nat} : ck_Ok p2_O X LX 301 p2_s881 := ck_okq (cuts := []) (f := 92) ⟨p2_nmu, ck_E0⟩ (by decide +kernel)
set_option maxRecDepth 100000 in
/-- GlacierMailModel.isRock -/
noncomputable def p2_s882 : ck_Sum := (((1 : Nat), (0 : Nat), (0 : Nat)), (245 : Nat), [.inr (.inr (.inl (226 : Nat))), .inl (ck_one 5)], ([], [], []), ([], []), [(.inr (some (.inl (ck_one 1))), (245 : Nat), ([], [], [((227 : Nat), (154 : Int), (154 : Int), ck_one (-1))])), (.inr (some (.inl (ck_one 0))), (245 : Nat), ([], [], [((227 : Nat), (154 : Int), (154 : Int), ((0 : Int), (7 : Int), []))]))])
set_option maxRecDepth 100000 in
theorem p2_s882_s {X : Int → Int} {LX : Nat} : ck_Ok p2_O X LX 303 p2_s882 := ck_okq (cuts := []) (f := 86) ⟨p2_nmu, ck_E1 (ck_S1 p2_s881_s ck_S0) ck_E0⟩ (by decide +kernel)
set_option maxRecDepth 100000 in
/-- GlacierMailModel.ofLetter -/
noncomputable def p2_s883 : ck_Sum := (((0 : Nat), (0 : Nat), (0 : Nat)), (245 : Nat), [.inr (.inr (.inl (226 : Nat))), .inl (ck_one 5), .inl (ck_one 5)], ([], [], []), ([], []), [(.inr (some (.inl (ck_one (-1)))), (245 : Nat), ([], [], [((227 : Nat), (159 : Int), (159 : Int), ck_one (-1))])), (.inr (some (.inl ((0 : Int), (7 : Int), []))), (245 : Nat), ([], [], [((227 : Nat), (159 : Int), (159 : Int), ((0 : Int), (7 : Int), []))]))])
set_option maxRecDepth 100000 in
theorem p2_s883_s {X : Int → Int} {LX : Nat} : ck_Ok p2_O X LX 301 p2_s883 := ck_okq (cuts := []) (f := 92) ⟨p2_nmu, ck_E0⟩ (by decide +kernel)
set_option maxRecDepth 100000 in
/-- GlacierMailModel.isWaiting -/
noncomputable def p2_s884 : ck_Sum := (((8 : Nat), (0 : Nat), (0 : Nat)), (245 : Nat), [.inr (.inr (.inl (226 : Nat))), .inl (ck_one 5)], ([], [], zl83), (zl81, []), [(.inr (some (.inl (ck_one 0))), (245 : Nat), ([], [], [])), (.inr (some (.inl (ck_one 1))), (245 : Nat), ([], [], [((226 : Nat), (29 : Int), (29 : Int), ((0 : Int), (299 : Int), [])), ((227 : Nat), (159 : Int), (159 : Int), ck_one (-1)), ((227 : Nat), (154 : Int), (154 : Int), ((0 : Int), (7 : Int), []))]))])
set_option maxRecDepth 100000 in
theorem p2_s884_s {X : Int → Int} {LX : Nat} : ck_Ok p2_O X LX 302 p2_s884 := ck_okq (cuts := []) (f := 114) ⟨p2_nmu, ck_E1 (ck_S1 p2_s882_s ck_S0) (ck_E1 (ck_S1 p2_s883_s ck_S0) (ck_E1 (ck_S1 p2_s381_s ck_S0) (ck_E1 (ck_S1 p2_s190_s ck_S0) ck_E0)))⟩ (by decide +kernel)
set_option maxRecDepth 100000 in
/-- GlacierMailModel.ofLetter -/
noncomputable def p2_s885 : ck_Sum := (((0 : Nat), (0 : Nat), (0 : Nat)), (245 : Nat), [.inr (.inr (.inl (226 : Nat))), .inl (ck_one 5), .inl (ck_one 1)], ([], [], []), ([], []), [(.inr (some (.inl (ck_one (-1)))), (245 : Nat), ([], [], [((227 : Nat), (155 : Int), (155 : Int), ck_one (-1))])), (.inr (some (.inl ((0 : Int), (7 : Int), []))), (245 : Nat), ([], [], [((227 : Nat), (155 : Int), (155 : Int), ((0 : Int), (7 : Int), []))]))])
set_option maxRecDepth 100000 in
theorem p2_s885_s {X : Int → Int} {LX : Nat} : ck_Ok p2_O X LX 301 p2_s885 := ck_okq (cuts := []) (f := 92) ⟨p2_nmu, ck_E0⟩ (by decide +kernel)
set_option maxRecDepth 100000 in
/-- GlacierMailModel.ofLetter -/
noncomputable def p2_s886 : ck_Sum := (((0 : Nat), (0 : Nat), (0 : Nat)), (245 : Nat), [.inr (.inr (.inl (226 : Nat))), .inl (ck_one 5), .inl (ck_one 3)], ([], [], []), ([], []), [(.inr (some (.inl ((0 : Int), (299 : Int), []))), (245 : Nat), ([], [], []))])
set_option maxRecDepth 100000 in
theorem p2_s886_s {X : Int → Int} {LX : Nat} : ck_Ok p2_O X LX 301 p2_s886 := ck_okq (cuts := []) (f := 92) ⟨p2_nmu, ck_E0⟩ (by decide +kernel)
/-- GlacierMailModel.opens -/
noncomputable def p2_s887 : ck_Sum := op_os0 5 (.inl (ck_one (-1))) 0 7 (-1) (-1)
theorem p2_s887_s {X : Int → Int} {LX : Nat} : ck_Ok p2_O X LX 319 p2_s887 := op_none (by decide) (by decide) (by decide)
/-- GlacierMailModel.opens -/
noncomputable def p2_s888 : ck_Sum := op_os 5 0 7
theorem p2_s888_s {X : Int → Int} {LX : Nat} : ck_Ok p2_O X LX 319 p2_s888 := op_open (by decide) (by decide) (by decide +kernel)
set_option maxRecDepth 100000 in
/-- GlacierMailModel.open -/
noncomputable def p2_s889 : ck_Sum := (((9 : Nat), (0 : Nat), (0 : Nat)), (245 : Nat), [.inr (.inr (.inl (226 : Nat))), .inl (ck_one 5)], ([], [], zl176), ([((226 : Nat), (0 : Int), (0 : Int)), ((226 : Nat), (6 : Int), (6 : Int)), ((226 : Nat), (17 : Int), (23 : Int)), ((226 : Nat), (26 : Int), (26 : Int)), ((226 : Nat), (29 : Int), (30 : Int)), ((227 : Nat), (14 : Int), (14 : Int)), ((227 : Nat), (159 : Int), (160 : Int)), ((227 : Nat), (323 : Int), (394 : Int)), ((230 : Nat), (0 : Int), (4739 : Int)), ((233 : Nat), (0 : Int), (399 : Int)), ((235 : Nat), (0 : Int), (29699 : Int)), ((236 : Nat), (0 : Int), (299 : Int)), ((237 : Nat), (0 : Int), (299 : Int))], []), [(.inr (some (.inl (ck_one 0))), (245 : Nat), ([], [], zl177)), (.inr (some (.inl ((-299 : Int), (299 : Int), []))), (245 : Nat), ([], [], [((227 : Nat), (159 : Int), (159 : Int), ((0 : Int), (7 : Int), [])), ((227 : Nat), (155 : Int), (155 : Int), ((0 : Int), (7 : Int), [])), ((226 : Nat), (6 : Int), (6 : Int), ((1 : Int), (12 : Int), [((1000027 : Nat), (0 : Int))])), ((226 : Nat), (29 : Int), (29 : Int), ((0 : Int), (299 : Int), [])), ((227 : Nat), (154 : Int), (154 : Int), ((0 : Int), (7 : Int), [])), ((226 : Nat), (0 : Int), (0 : Int), ck_one 0)]))])
set_option maxRecDepth 100000 in
theorem p2_s889_s {X : Int → Int} {LX : Nat} : ck_Ok p2_O X LX 318 p2_s889 := ck_okq (cuts := []) (f := 142) ⟨p2_nmu, ck_E1 (ck_S1 p2_s880_s ck_S0) (ck_E1 (ck_S1 p2_s241_s (ck_S1 p2_s242_s (ck_S1 p2_s244_s (ck_S1 p2_s243_s ck_S0)))) (ck_E1 (ck_S1 p2_s884_s ck_S0) (ck_E1 (ck_S1 p2_s553_s ck_S0) (ck_E1 (ck_S1 p2_s885_s (ck_S1 p2_s886_s ck_S0)) (ck_E1 (ck_S1 p2_s887_s (ck_S1 p2_s888_s ck_S0)) (ck_E1 (ck_S1 p2_s190_s ck_S0) ck_E0))))))⟩ (by decide +kernel)
set_option maxRecDepth 100000 in
/-- GlacierMailModel.in -/
noncomputable def p2_s890 : ck_Sum := (((0 : Nat), (0 : Nat), (0 : Nat)), (245 : Nat), [.inl (ck_one 6), .inl (ck_one 0), .inl ((-1 : Int), (23 : Int), [])], ([], [], []), ([], []), [(.inr (some (.inl (ck_one 0))), (245 : Nat), ([], [], [])), (.inr (some (.inl (ck_one 1))), (245 : Nat), ([], [], []))])
set_option maxRecDepth 100000 in
theorem p2_s890_s {X : Int → Int} {LX : Nat} : ck_Ok p2_O X LX 286 p2_s890 := ck_okq (cuts := []) (f := 88) ⟨p2_nmu, ck_E0⟩ (by decide +kernel)
set_option maxRecDepth 100000 in
/-- GlacierMailModel.noLetter -/
noncomputable def p2_s891 : ck_Sum := (((1 : Nat), (0 : Nat), (0 : Nat)), (245 : Nat), [.inr (.inr (.inl (226 : Nat))), .inl (ck_one 6)], ([], [], [((227 : Nat), (4 : Int), (4 : Int), ((0 : Int), (24 : Int), [((22 : Nat), (0 : Int))]))]), ([], []), [(.inr (some (.inl (ck_one 1))), (245 : Nat), ([], [], [])), (.inr (some (.inl (ck_one 0))), (245 : Nat), ([], [], []))])
set_option maxRecDepth 100000 in
theorem p2_s891_s {X : Int → Int} {LX : Nat} : ck_Ok p2_O X LX 309 p2_s891 := ck_okq (cuts := []) (f := 92) ⟨p2_nmu, ck_E1 (ck_S1 p2_s176_s ck_S0) (ck_E1 (ck_S1 p2_s890_s ck_S0) ck_E0)⟩ (by decide +kernel)
set_option maxRecDepth 100000 in
/-- GlacierMailModel.ofLetter -/
noncomputable def p2_s892 : ck_Sum := (((0 : Nat), (0 : Nat), (0 : Nat)), (245 : Nat), [.inr (.inr (.inl (226 : Nat))), .inl (ck_one 6), .inl (ck_one 0)], ([], [], []), ([], []), [(.inr (some (.inl (ck_one (-1)))), (245 : Nat), ([], [], [((227 : Nat), (161 : Int), (161 : Int), ck_one (-1))])), (.inr (some (.inl ((0 : Int), (7 : Int), []))), (245 : Nat), ([], [], [((227 : Nat), (161 : Int), (161 : Int), ((0 : Int), (7 : Int), []))]))])
set_option maxRecDepth 100000 in
theorem p2_s892_s {X : Int → Int} {LX : Nat} : ck_Ok p2_O X LX 301 p2_s892 := ck_okq (cuts := []) (f := 92) ⟨p2_nmu, ck_E0⟩ (by decide +kernel)
set_option maxRecDepth 100000 in
/-- GlacierMailModel.isRock -/
noncomputable def p2_s893 : ck_Sum := (((1 : Nat), (0 : Nat), (0 : Nat)), (245 : Nat), [.inr (.inr (.inl (226 : Nat))), .inl (ck_one 6)], ([], [], []), ([], []), [(.inr (some (.inl (ck_one 1))), (245 : Nat), ([], [], [((227 : Nat), (161 : Int), (161 : Int), ck_one (-1))])), (.inr (some (.inl (ck_one 0))), (245 : Nat), ([], [], [((227 : Nat), (161 : Int), (161 : Int), ((0 : Int), (7 : Int), []))]))])
set_option maxRecDepth 100000 in
theorem p2_s893_s {X : Int → Int} {LX : Nat} : ck_Ok p2_O X LX 303 p2_s893 := ck_okq (cuts := []) (f := 86) ⟨p2_nmu, ck_E1 (ck_S1 p2_s892_s ck_S0) ck_E0⟩ (by decide +kernel)
set_option maxRecDepth 100000 in
/-- GlacierMailModel.ofLetter -/
noncomputable def p2_s894 : ck_Sum := (((0 : Nat), (0 : Nat), (0 : Nat)), (245 : Nat), [.inr (.inr (.inl (226 : Nat))), .inl (ck_one 6), .inl (ck_one 5)], ([], [], []), ([], []), [(.inr (some (.inl (ck_one (-1)))), (245 : Nat), ([], [], [((227 : Nat), (166 : Int), (166 : Int), ck_one (-1))])), (.inr (some (.inl ((0 : Int), (7 : Int), []))), (245 : Nat), ([], [], [((227 : Nat), (166 : Int), (166 : Int), ((0 : Int), (7 : Int), []))]))])
set_option maxRecDepth 100000 in
theorem p2_s894_s {X : Int → Int} {LX : Nat} : ck_Ok p2_O X LX 301 p2_s894 := ck_okq (cuts := []) (f := 92) ⟨p2_nmu, ck_E0⟩ (by decide +kernel)
set_option maxRecDepth 100000 in
/-- GlacierMailModel.isWaiting -/
noncomputable def p2_s895 : ck_Sum := (((8 : Nat), (0 : Nat), (0 : Nat)), (245 : Nat), [.inr (.inr (.inl (226 : Nat))), .inl (ck_one 6)], ([], [], zl83), (zl81, []), [(.inr (some (.inl (ck_one 0))), (245 : Nat), ([], [], [])), (.inr (some (.inl (ck_one 1))), (245 : Nat), ([], [], [((226 : Nat), (29 : Int), (29 : Int), ((0 : Int), (299 : Int), [])), ((227 : Nat), (166 : Int), (166 : Int), ck_one (-1)), ((227 : Nat), (161 : Int), (161 : Int), ((0 : Int), (7 : Int), []))]))])
set_option maxRecDepth 100000 in
theorem p2_s895_s {X : Int → Int} {LX : Nat} : ck_Ok p2_O X LX 302 p2_s895 := ck_okq (cuts := []) (f := 114) ⟨p2_nmu, ck_E1 (ck_S1 p2_s893_s ck_S0) (ck_E1 (ck_S1 p2_s894_s ck_S0) (ck_E1 (ck_S1 p2_s381_s ck_S0) (ck_E1 (ck_S1 p2_s190_s ck_S0) ck_E0)))⟩ (by decide +kernel)
set_option maxRecDepth 100000 in
/-- GlacierMailModel.ofLetter -/
noncomputable def p2_s896 : ck_Sum := (((0 : Nat), (0 : Nat), (0 : Nat)), (245 : Nat), [.inr (.inr (.inl (226 : Nat))), .inl (ck_one 6), .inl (ck_one 1)], ([], [], []), ([], []), [(.inr (some (.inl (ck_one (-1)))), (245 : Nat), ([], [], [((227 : Nat), (162 : Int), (162 : Int), ck_one (-1))])), (.inr (some (.inl ((0 : Int), (7 : Int), []))), (245 : Nat), ([], [], [((227 : Nat), (162 : Int), (162 : Int), ((0 : Int), (7 : Int), []))]))])
set_option maxRecDepth 100000 in
theorem p2_s896_s {X : Int → Int} {LX : Nat} : ck_Ok p2_O X LX 301 p2_s896 := ck_okq (cuts := []) (f := 92) ⟨p2_nmu, ck_E0⟩ (by decide +kernel)
set_option maxRecDepth 100000 in
/-- GlacierMailModel.ofLetter -/
noncomputable def p2_s897 : ck_Sum := (((0 : Nat), (0 : Nat), (0 : Nat)), (245 : Nat), [.inr (.inr (.inl (226 : Nat))), .inl (ck_one 6), .inl (ck_one 3)], ([], [], []), ([], []), [(.inr (some (.inl ((0 : Int), (299 : Int), []))), (245 : Nat), ([], [], []))])
set_option maxRecDepth 100000 in
theorem p2_s897_s {X : Int → Int} {LX : Nat} : ck_Ok p2_O X LX 301 p2_s897 := ck_okq (cuts := []) (f := 92) ⟨p2_nmu, ck_E0⟩ (by decide +kernel)
/-- GlacierMailModel.opens -/
noncomputable def p2_s898 : ck_Sum := op_os0 6 (.inl (ck_one (-1))) 0 7 (-1) (-1)
theorem p2_s898_s {X : Int → Int} {LX : Nat} : ck_Ok p2_O X LX 319 p2_s898 := op_none (by decide) (by decide) (by decide)
/-- GlacierMailModel.opens -/
noncomputable def p2_s899 : ck_Sum := op_os 6 0 7
theorem p2_s899_s {X : Int → Int} {LX : Nat} : ck_Ok p2_O X LX 319 p2_s899 := op_open (by decide) (by decide) (by decide +kernel)
set_option maxRecDepth 100000 in
/-- GlacierMailModel.open -/
noncomputable def p2_s900 : ck_Sum := (((9 : Nat), (0 : Nat), (0 : Nat)), (245 : Nat), [.inr (.inr (.inl (226 : Nat))), .inl (ck_one 6)], ([], [], zl176), ([((226 : Nat), (0 : Int), (0 : Int)), ((226 : Nat), (6 : Int), (6 : Int)), ((226 : Nat), (17 : Int), (23 : Int)), ((226 : Nat), (26 : Int), (26 : Int)), ((226 : Nat), (29 : Int), (30 : Int)), ((227 : Nat), (14 : Int), (14 : Int)), ((227 : Nat), (166 : Int), (167 : Int)), ((227 : Nat), (323 : Int), (394 : Int)), ((230 : Nat), (0 : Int), (4739 : Int)), ((233 : Nat), (0 : Int), (399 : Int)), ((235 : Nat), (0 : Int), (29699 : Int)), ((236 : Nat), (0 : Int), (299 : Int)), ((237 : Nat), (0 : Int), (299 : Int))], []), [(.inr (some (.inl (ck_one 0))), (245 : Nat), ([], [], zl177)), (.inr (some (.inl ((-299 : Int), (299 : Int), []))), (245 : Nat), ([], [], [((227 : Nat), (166 : Int), (166 : Int), ((0 : Int), (7 : Int), [])), ((227 : Nat), (162 : Int), (162 : Int), ((0 : Int), (7 : Int), [])), ((226 : Nat), (6 : Int), (6 : Int), ((1 : Int), (12 : Int), [((1000027 : Nat), (0 : Int))])), ((226 : Nat), (29 : Int), (29 : Int), ((0 : Int), (299 : Int), [])), ((227 : Nat), (161 : Int), (161 : Int), ((0 : Int), (7 : Int), [])), ((226 : Nat), (0 : Int), (0 : Int), ck_one 0)]))])
set_option maxRecDepth 100000 in
theorem p2_s900_s {X : Int → Int} {LX : Nat} : ck_Ok p2_O X LX 318 p2_s900 := ck_okq (cuts := []) (f := 142) ⟨p2_nmu, ck_E1 (ck_S1 p2_s891_s ck_S0) (ck_E1 (ck_S1 p2_s241_s (ck_S1 p2_s242_s (ck_S1 p2_s244_s (ck_S1 p2_s243_s ck_S0)))) (ck_E1 (ck_S1 p2_s895_s ck_S0) (ck_E1 (ck_S1 p2_s553_s ck_S0) (ck_E1 (ck_S1 p2_s896_s (ck_S1 p2_s897_s ck_S0)) (ck_E1 (ck_S1 p2_s898_s (ck_S1 p2_s899_s ck_S0)) (ck_E1 (ck_S1 p2_s190_s ck_S0) ck_E0))))))⟩ (by decide +kernel)
end
/-! 78r80a10.sf -/
section
/-! EVERY CALL ENDS, whatever was done before (laid by wip/am/p2k.py). -/
set_option maxRecDepth 100000 in
/-- GlacierMailModel.in -/
noncomputable def p2_s901 : ck_Sum := (((0 : Nat), (0 : Nat), (0 : Nat)), (245 : Nat), [.inl (ck_one 7), .inl (ck_one 0), .inl ((-1 : Int), (23 : Int), [])], ([], [], []), ([], []), [(.inr (some (.inl (ck_one 0))), (245 : Nat), ([], [], [])), (.inr (some (.inl (ck_one 1))), (245 : Nat), ([], [], []))])
set_option maxRecDepth 100000 in
theorem p2_s901_s {X : Int → Int} {LX : Nat} : ck_Ok p2_O X LX 286 p2_s901 := ck_okq (cuts := []) (f := 88) ⟨p2_nmu, ck_E0⟩ (by decide +kernel)
set_option maxRecDepth 100000 in
/-- GlacierMailModel.noLetter -/
noncomputable def p2_s902 : ck_Sum := (((1 : Nat), (0 : Nat), (0 : Nat)), (245 : Nat), [.inr (.inr (.inl (226 : Nat))), .inl (ck_one 7)], ([], [], [((227 : Nat), (4 : Int), (4 : Int), ((0 : Int), (24 : Int), [((22 : Nat), (0 : Int))]))]), ([], []), [(.inr (some (.inl (ck_one 1))), (245 : Nat), ([], [], [])), (.inr (some (.inl (ck_one 0))), (245 : Nat), ([], [], []))])
set_option maxRecDepth 100000 in
theorem p2_s902_s {X : Int → Int} {LX : Nat} : ck_Ok p2_O X LX 309 p2_s902 := ck_okq (cuts := []) (f := 92) ⟨p2_nmu, ck_E1 (ck_S1 p2_s176_s ck_S0) (ck_E1 (ck_S1 p2_s901_s ck_S0) ck_E0)⟩ (by decide +kernel)
set_option maxRecDepth 100000 in
/-- GlacierMailModel.ofLetter -/
noncomputable def p2_s903 : ck_Sum := (((0 : Nat), (0 : Nat), (0 : Nat)), (245 : Nat), [.inr (.inr (.inl (226 : Nat))), .inl (ck_one 7), .inl (ck_one 0)], ([], [], []), ([], []), [(.inr (some (.inl (ck_one (-1)))), (245 : Nat), ([], [], [((227 : Nat), (168 : Int), (168 : Int), ck_one (-1))])), (.inr (some (.inl ((0 : Int), (7 : Int), []))), (245 : Nat), ([], [], [((227 : Nat), (168 : Int), (168 : Int), ((0 : Int), (7 : Int), []))]))])
set_option maxRecDepth 100000 in
theorem p2_s903_s {X : Int → Int} {LX : Nat} : ck_Ok p2_O X LX 301 p2_s903 := ck_okq (cuts := []) (f := 92) ⟨p2_nmu, ck_E0⟩ (by decide +kernel)
set_option maxRecDepth 100000 in
/-- GlacierMailModel.isRock -/
noncomputable def p2_s904 : ck_Sum := (((1 : Nat), (0 : Nat), (0 : Nat)), (245 : Nat), [.inr (.inr (.inl (226 : Nat))), .inl (ck_one 7)], ([], [], []), ([], []), [(.inr (some (.inl (ck_one 1))), (245 : Nat), ([], [], [((227 : Nat), (168 : Int), (168 : Int), ck_one (-1))])), (.inr (some (.inl (ck_one 0))), (245 : Nat), ([], [], [((227 : Nat), (168 : Int), (168 : Int), ((0 : Int), (7 : Int), []))]))])
set_option maxRecDepth 100000 in
theorem p2_s904_s {X : Int → Int} {LX : Nat} : ck_Ok p2_O X LX 303 p2_s904 := ck_okq (cuts := []) (f := 86) ⟨p2_nmu, ck_E1 (ck_S1 p2_s903_s ck_S0) ck_E0⟩ (by decide +kernel)
set_option maxRecDepth 100000 in
/-- GlacierMailModel.ofLetter -/
noncomputable def p2_s905 : ck_Sum := (((0 : Nat), (0 : Nat), (0 : Nat)), (245 : Nat), [.inr (.inr (.inl (226 : Nat))), .inl (ck_one 7), .inl (ck_one 5)], ([], [], []), ([], []), [(.inr (some (.inl (ck_one (-1)))), (245 : Nat), ([], [], [((227 : Nat), (173 : Int), (173 : Int), ck_one (-1))])), (.inr (some (.inl ((0 : Int), (7 : Int), []))), (245 : Nat), ([], [], [((227 : Nat), (173 : Int), (173 : Int), ((0 : Int), (7 : Int), []))]))])
set_option maxRecDepth 100000 in
theorem p2_s905_s {X : Int → Int} {LX : Nat} : ck_Ok p2_O X LX 301 p2_s905 := ck_okq (cuts := []) (f := 92) ⟨p2_nmu, ck_E0⟩ (by decide +kernel)
set_option maxRecDepth 100000 in
/-- GlacierMailModel.isWaiting -/
noncomputable def p2_s906 : ck_Sum := (((8 : Nat), (0 : Nat), (0 : Nat)), (245 : Nat), [.inr (.inr (.inl (226 : Nat))), .inl (ck_one 7)], ([], [], zl83), (zl81, []), [(.inr (some (.inl (ck_one 0))), (245 : Nat), ([], [], [])), (.inr (some (.inl (ck_one 1))), (245 : Nat), ([], [], [((226 : Nat), (29 : Int), (29 : Int), ((0 : Int), (299 : Int), [])), ((227 : Nat), (173 : Int), (173 : Int), ck_one (-1)), ((227 : Nat), (168 : Int), (168 : Int), ((0 : Int), (7 : Int), []))]))])
set_option maxRecDepth 100000 in
theorem p2_s906_s {X : Int → Int} {LX : Nat} : ck_Ok p2_O X LX 302 p2_s906 := ck_okq (cuts := []) (f := 114) ⟨p2_nmu, ck_E1 (ck_S1 p2_s904_s ck_S0) (ck_E1 (ck_S1 p2_s905_s ck_S0) (ck_E1 (ck_S1 p2_s381_s ck_S0) (ck_E1 (ck_S1 p2_s190_s ck_S0) ck_E0)))⟩ (by decide +kernel)
set_option maxRecDepth 100000 in
/-- GlacierMailModel.ofLetter -/
noncomputable def p2_s907 : ck_Sum := (((0 : Nat), (0 : Nat), (0 : Nat)), (245 : Nat), [.inr (.inr (.inl (226 : Nat))), .inl (ck_one 7), .inl (ck_one 1)], ([], [], []), ([], []), [(.inr (some (.inl (ck_one (-1)))), (245 : Nat), ([], [], [((227 : Nat), (169 : Int), (169 : Int), ck_one (-1))])), (.inr (some (.inl ((0 : Int), (7 : Int), []))), (245 : Nat), ([], [], [((227 : Nat), (169 : Int), (169 : Int), ((0 : Int), (7 : Int), []))]))])
set_option maxRecDepth 100000 in
theorem p2_s907_s {X : Int → Int} {LX : Nat} : ck_Ok p2_O X LX 301 p2_s907 := ck_okq (cuts := []) (f := 92) ⟨p2_nmu, ck_E0⟩ (by decide +kernel)
set_option maxRecDepth 100000 in
/-- GlacierMailModel.ofLetter -/
noncomputable def p2_s908 : ck_Sum := (((0 : Nat), (0 : Nat), (0 : Nat)), (245 : Nat), [.inr (.inr (.inl (226 : Nat))), .inl (ck_one 7), .inl (ck_one 3)], ([], [], []), ([], []), [(.inr (some (.inl ((0 : Int), (299 : Int), []))), (245 : Nat), ([], [], []))])
set_option maxRecDepth 100000 in
theorem p2_s908_s {X : Int → Int} {LX : Nat} : ck_Ok p2_O X LX 301 p2_s908 := ck_okq (cuts := []) (f := 92) ⟨p2_nmu, ck_E0⟩ (by decide +kernel)
/-- GlacierMailModel.opens -/
noncomputable def p2_s909 : ck_Sum := op_os0 7 (.inl (ck_one (-1))) 0 7 (-1) (-1)
theorem p2_s909_s {X : Int → Int} {LX : Nat} : ck_Ok p2_O X LX 319 p2_s909 := op_none (by decide) (by decide) (by decide)
/-- GlacierMailModel.opens -/
noncomputable def p2_s910 : ck_Sum := op_os 7 0 7
theorem p2_s910_s {X : Int → Int} {LX : Nat} : ck_Ok p2_O X LX 319 p2_s910 := op_open (by decide) (by decide) (by decide +kernel)
set_option maxRecDepth 100000 in
/-- GlacierMailModel.open -/
noncomputable def p2_s911 : ck_Sum := (((9 : Nat), (0 : Nat), (0 : Nat)), (245 : Nat), [.inr (.inr (.inl (226 : Nat))), .inl (ck_one 7)], ([], [], zl176), ([((226 : Nat), (0 : Int), (0 : Int)), ((226 : Nat), (6 : Int), (6 : Int)), ((226 : Nat), (17 : Int), (23 : Int)), ((226 : Nat), (26 : Int), (26 : Int)), ((226 : Nat), (29 : Int), (30 : Int)), ((227 : Nat), (14 : Int), (14 : Int)), ((227 : Nat), (173 : Int), (174 : Int)), ((227 : Nat), (323 : Int), (394 : Int)), ((230 : Nat), (0 : Int), (4739 : Int)), ((233 : Nat), (0 : Int), (399 : Int)), ((235 : Nat), (0 : Int), (29699 : Int)), ((236 : Nat), (0 : Int), (299 : Int)), ((237 : Nat), (0 : Int), (299 : Int))], []), [(.inr (some (.inl (ck_one 0))), (245 : Nat), ([], [], zl177)), (.inr (some (.inl ((-299 : Int), (299 : Int), []))), (245 : Nat), ([], [], [((227 : Nat), (173 : Int), (173 : Int), ((0 : Int), (7 : Int), [])), ((227 : Nat), (169 : Int), (169 : Int), ((0 : Int), (7 : Int), [])), ((226 : Nat), (6 : Int), (6 : Int), ((1 : Int), (12 : Int), [((1000027 : Nat), (0 : Int))])), ((226 : Nat), (29 : Int), (29 : Int), ((0 : Int), (299 : Int), [])), ((227 : Nat), (168 : Int), (168 : Int), ((0 : Int), (7 : Int), [])), ((226 : Nat), (0 : Int), (0 : Int), ck_one 0)]))])
set_option maxRecDepth 100000 in
theorem p2_s911_s {X : Int → Int} {LX : Nat} : ck_Ok p2_O X LX 318 p2_s911 := ck_okq (cuts := []) (f := 142) ⟨p2_nmu, ck_E1 (ck_S1 p2_s902_s ck_S0) (ck_E1 (ck_S1 p2_s241_s (ck_S1 p2_s242_s (ck_S1 p2_s244_s (ck_S1 p2_s243_s ck_S0)))) (ck_E1 (ck_S1 p2_s906_s ck_S0) (ck_E1 (ck_S1 p2_s553_s ck_S0) (ck_E1 (ck_S1 p2_s907_s (ck_S1 p2_s908_s ck_S0)) (ck_E1 (ck_S1 p2_s909_s (ck_S1 p2_s910_s ck_S0)) (ck_E1 (ck_S1 p2_s190_s ck_S0) ck_E0))))))⟩ (by decide +kernel)
set_option maxRecDepth 100000 in
/-- GlacierMailModel.in -/
noncomputable def p2_s912 : ck_Sum := (((0 : Nat), (0 : Nat), (0 : Nat)), (245 : Nat), [.inl (ck_one 8), .inl (ck_one 0), .inl ((-1 : Int), (23 : Int), [])], ([], [], []), ([], []), [(.inr (some (.inl (ck_one 0))), (245 : Nat), ([], [], [])), (.inr (some (.inl (ck_one 1))), (245 : Nat), ([], [], []))])
set_option maxRecDepth 100000 in
theorem p2_s912_s {X : Int → Int} {LX : Nat} : ck_Ok p2_O X LX 286 p2_s912 := ck_okq (cuts := []) (f := 88) ⟨p2_nmu, ck_E0⟩ (by decide +kernel)
set_option maxRecDepth 100000 in
/-- GlacierMailModel.noLetter -/
noncomputable def p2_s913 : ck_Sum := (((1 : Nat), (0 : Nat), (0 : Nat)), (245 : Nat), [.inr (.inr (.inl (226 : Nat))), .inl (ck_one 8)], ([], [], [((227 : Nat), (4 : Int), (4 : Int), ((0 : Int), (24 : Int), [((22 : Nat), (0 : Int))]))]), ([], []), [(.inr (some (.inl (ck_one 1))), (245 : Nat), ([], [], [])), (.inr (some (.inl (ck_one 0))), (245 : Nat), ([], [], []))])
set_option maxRecDepth 100000 in
theorem p2_s913_s {X : Int → Int} {LX : Nat} : ck_Ok p2_O X LX 309 p2_s913 := ck_okq (cuts := []) (f := 92) ⟨p2_nmu, ck_E1 (ck_S1 p2_s176_s ck_S0) (ck_E1 (ck_S1 p2_s912_s ck_S0) ck_E0)⟩ (by decide +kernel)
set_option maxRecDepth 100000 in
/-- GlacierMailModel.ofLetter -/
noncomputable def p2_s914 : ck_Sum := (((0 : Nat), (0 : Nat), (0 : Nat)), (245 : Nat), [.inr (.inr (.inl (226 : Nat))), .inl (ck_one 8), .inl (ck_one 0)], ([], [], []), ([], []), [(.inr (some (.inl (ck_one (-1)))), (245 : Nat), ([], [], [((227 : Nat), (175 : Int), (175 : Int), ck_one (-1))])), (.inr (some (.inl ((0 : Int), (7 : Int), []))), (245 : Nat), ([], [], [((227 : Nat), (175 : Int), (175 : Int), ((0 : Int), (7 : Int), []))]))])
set_option maxRecDepth 100000 in
theorem p2_s914_s {X : Int → Int} {LX : Nat} : ck_Ok p2_O X LX 301 p2_s914 := ck_okq (cuts := []) (f := 92) ⟨p2_nmu, ck_E0⟩ (by decide +kernel)
set_option maxRecDepth 100000 in
/-- GlacierMailModel.isRock -/
noncomputable def p2_s915 : ck_Sum := (((1 : Nat), (0 : Nat), (0 : Nat)), (245 : Nat), [.inr (.inr (.inl (226 : Nat))), .inl (ck_one 8)], ([], [], []), ([], []), [(.inr (some (.inl (ck_one 1))), (245 : Nat), ([], [], [((227 : Nat), (175 : Int), (175 : Int), ck_one (-1))])), (.inr (some (.inl (ck_one 0))), (245 : Nat), ([], [], [((227 : Nat), (175 : Int), (175 : Int), ((0 : Int), (7 : Int), []))]))])
set_option maxRecDepth 100000 in
theorem p2_s915_s {X : Int → Int} {LX : Nat} : ck_Ok p2_O X LX 303 p2_s915 := ck_okq (cuts := []) (f := 86) ⟨p2_nmu, ck_E1 (ck_S1 p2_s914_s ck_S0) ck_E0⟩ (by decide +kernel)
set_option maxRecDepth 100000 in
/-- GlacierMailModel.ofLetter -/
noncomputable def p2_s916 : ck_Sum := (((0 : Nat), (0 : Nat), (0 : Nat)), (245 : Nat), [.inr (.inr (.inl (226 : Nat))), .inl (ck_one 8), .inl (ck_one 5)], ([], [], []), ([], []), [(.inr (some (.inl (ck_one (-1)))), (245 : Nat), ([], [], [((227 : Nat), (180 : Int), (180 : Int), ck_one (-1))])), (.inr (some (.inl ((0 : Int), (7 : Int), []))), (245 : Nat), ([], [], [((227 : Nat), (180 : Int), (180 : Int), ((0 : Int), (7 : Int), []))]))])
set_option maxRecDepth 100000 in
theorem p2_s916_s {X : Int → Int} {LX : Nat} : ck_Ok p2_O X LX 301 p2_s916 := ck_okq (cuts := []) (f := 92) ⟨p2_nmu, ck_E0⟩ (by decide +kernel)
set_option maxRecDepth 100000 in
/-- GlacierMailModel.isWaiting -/
noncomputable def p2_s917 : ck_Sum := (((8 : Nat), (0 : Nat), (0 : Nat)), (245 : Nat), [.inr (.inr (.inl (226 : Nat))), .inl (ck_one 8)], ([], [], zl83), (zl81, []), [(.inr (some (.inl (ck_one 0))), (245 : Nat), ([], [], [])), (.inr (some (.inl (ck_one 1))), (245 : Nat), ([], [], [((226 : Nat), (29 : Int), (29 : Int), ((0 : Int), (299 : Int), [])), ((227 : Nat), (180 : Int), (180 : Int), ck_one (-1)), ((227 : Nat), (175 : Int), (175 : Int), ((0 : Int), (7 : Int), []))]))])
set_option maxRecDepth 100000 in
theorem p2_s917_s {X : Int → Int} {LX : Nat} : ck_Ok p2_O X LX 302 p2_s917 := ck_okq (cuts := []) (f := 114) ⟨p2_nmu, ck_E1 (ck_S1 p2_s915_s ck_S0) (ck_E1 (ck_S1 p2_s916_s ck_S0) (ck_E1 (ck_S1 p2_s381_s ck_S0) (ck_E1 (ck_S1 p2_s190_s ck_S0) ck_E0)))⟩ (by decide +kernel)
set_option maxRecDepth 100000 in
/-- GlacierMailModel.ofLetter -/
noncomputable def p2_s918 : ck_Sum := (((0 : Nat), (0 : Nat), (0 : Nat)), (245 : Nat), [.inr (.inr (.inl (226 : Nat))), .inl (ck_one 8), .inl (ck_one 1)], ([], [], []), ([], []), [(.inr (some (.inl (ck_one (-1)))), (245 : Nat), ([], [], [((227 : Nat), (176 : Int), (176 : Int), ck_one (-1))])), (.inr (some (.inl ((0 : Int), (7 : Int), []))), (245 : Nat), ([], [], [((227 : Nat), (176 : Int), (176 : Int), ((0 : Int), (7 : Int), []))]))])
set_option maxRecDepth 100000 in
theorem p2_s918_s {X : Int → Int} {LX : Nat} : ck_Ok p2_O X LX 301 p2_s918 := ck_okq (cuts := []) (f := 92) ⟨p2_nmu, ck_E0⟩ (by decide +kernel)
set_option maxRecDepth 100000 in
/-- GlacierMailModel.ofLetter -/
noncomputable def p2_s919 : ck_Sum := (((0 : Nat), (0 : Nat), (0 : Nat)), (245 : Nat), [.inr (.inr (.inl (226 : Nat))), .inl (ck_one 8), .inl (ck_one 3)], ([], [], []), ([], []), [(.inr (some (.inl ((0 : Int), (299 : Int), []))), (245 : Nat), ([], [], []))])
set_option maxRecDepth 100000 in
theorem p2_s919_s {X : Int → Int} {LX : Nat} : ck_Ok p2_O X LX 301 p2_s919 := ck_okq (cuts := []) (f := 92) ⟨p2_nmu, ck_E0⟩ (by decide +kernel)
/-- GlacierMailModel.opens -/
noncomputable def p2_s920 : ck_Sum := op_os0 8 (.inl (ck_one (-1))) 0 7 (-1) (-1)
theorem p2_s920_s {X : Int → Int} {LX : Nat} : ck_Ok p2_O X LX 319 p2_s920 := op_none (by decide) (by decide) (by decide)
/-- GlacierMailModel.opens -/
noncomputable def p2_s921 : ck_Sum := op_os 8 0 7
theorem p2_s921_s {X : Int → Int} {LX : Nat} : ck_Ok p2_O X LX 319 p2_s921 := op_open (by decide) (by decide) (by decide +kernel)
set_option maxRecDepth 100000 in
/-- GlacierMailModel.open -/
noncomputable def p2_s922 : ck_Sum := (((9 : Nat), (0 : Nat), (0 : Nat)), (245 : Nat), [.inr (.inr (.inl (226 : Nat))), .inl (ck_one 8)], ([], [], zl176), ([((226 : Nat), (0 : Int), (0 : Int)), ((226 : Nat), (6 : Int), (6 : Int)), ((226 : Nat), (17 : Int), (23 : Int)), ((226 : Nat), (26 : Int), (26 : Int)), ((226 : Nat), (29 : Int), (30 : Int)), ((227 : Nat), (14 : Int), (14 : Int)), ((227 : Nat), (180 : Int), (181 : Int)), ((227 : Nat), (323 : Int), (394 : Int)), ((230 : Nat), (0 : Int), (4739 : Int)), ((233 : Nat), (0 : Int), (399 : Int)), ((235 : Nat), (0 : Int), (29699 : Int)), ((236 : Nat), (0 : Int), (299 : Int)), ((237 : Nat), (0 : Int), (299 : Int))], []), [(.inr (some (.inl (ck_one 0))), (245 : Nat), ([], [], zl177)), (.inr (some (.inl ((-299 : Int), (299 : Int), []))), (245 : Nat), ([], [], [((227 : Nat), (180 : Int), (180 : Int), ((0 : Int), (7 : Int), [])), ((227 : Nat), (176 : Int), (176 : Int), ((0 : Int), (7 : Int), [])), ((226 : Nat), (6 : Int), (6 : Int), ((1 : Int), (12 : Int), [((1000027 : Nat), (0 : Int))])), ((226 : Nat), (29 : Int), (29 : Int), ((0 : Int), (299 : Int), [])), ((227 : Nat), (175 : Int), (175 : Int), ((0 : Int), (7 : Int), [])), ((226 : Nat), (0 : Int), (0 : Int), ck_one 0)]))])
set_option maxRecDepth 100000 in
theorem p2_s922_s {X : Int → Int} {LX : Nat} : ck_Ok p2_O X LX 318 p2_s922 := ck_okq (cuts := []) (f := 142) ⟨p2_nmu, ck_E1 (ck_S1 p2_s913_s ck_S0) (ck_E1 (ck_S1 p2_s241_s (ck_S1 p2_s242_s (ck_S1 p2_s244_s (ck_S1 p2_s243_s ck_S0)))) (ck_E1 (ck_S1 p2_s917_s ck_S0) (ck_E1 (ck_S1 p2_s553_s ck_S0) (ck_E1 (ck_S1 p2_s918_s (ck_S1 p2_s919_s ck_S0)) (ck_E1 (ck_S1 p2_s920_s (ck_S1 p2_s921_s ck_S0)) (ck_E1 (ck_S1 p2_s190_s ck_S0) ck_E0))))))⟩ (by decide +kernel)
set_option maxRecDepth 100000 in
/-- GlacierMailModel.in -/
noncomputable def p2_s923 : ck_Sum := (((0 : Nat), (0 : Nat), (0 : Nat)), (245 : Nat), [.inl (ck_one 9), .inl (ck_one 0), .inl ((-1 : Int), (23 : Int), [])], ([], [], []), ([], []), [(.inr (some (.inl (ck_one 0))), (245 : Nat), ([], [], [])), (.inr (some (.inl (ck_one 1))), (245 : Nat), ([], [], []))])
set_option maxRecDepth 100000 in
theorem p2_s923_s {X : Int → Int} {LX : Nat} : ck_Ok p2_O X LX 286 p2_s923 := ck_okq (cuts := []) (f := 88) ⟨p2_nmu, ck_E0⟩ (by decide +kernel)
set_option maxRecDepth 100000 in
/-- GlacierMailModel.noLetter -/
noncomputable def p2_s924 : ck_Sum := (((1 : Nat), (0 : Nat), (0 : Nat)), (245 : Nat), [.inr (.inr (.inl (226 : Nat))), .inl (ck_one 9)], ([], [], [((227 : Nat), (4 : Int), (4 : Int), ((0 : Int), (24 : Int), [((22 : Nat), (0 : Int))]))]), ([], []), [(.inr (some (.inl (ck_one 1))), (245 : Nat), ([], [], [])), (.inr (some (.inl (ck_one 0))), (245 : Nat), ([], [], []))])
set_option maxRecDepth 100000 in
theorem p2_s924_s {X : Int → Int} {LX : Nat} : ck_Ok p2_O X LX 309 p2_s924 := ck_okq (cuts := []) (f := 92) ⟨p2_nmu, ck_E1 (ck_S1 p2_s176_s ck_S0) (ck_E1 (ck_S1 p2_s923_s ck_S0) ck_E0)⟩ (by decide +kernel)
set_option maxRecDepth 100000 in
/-- GlacierMailModel.ofLetter -/
noncomputable def p2_s925 : ck_Sum := (((0 : Nat), (0 : Nat), (0 : Nat)), (245 : Nat), [.inr (.inr (.inl (226 : Nat))), .inl (ck_one 9), .inl (ck_one 0)], ([], [], []), ([], []), [(.inr (some (.inl (ck_one (-1)))), (245 : Nat), ([], [], [((227 : Nat), (182 : Int), (182 : Int), ck_one (-1))])), (.inr (some (.inl ((0 : Int), (7 : Int), []))), (245 : Nat), ([], [], [((227 : Nat), (182 : Int), (182 : Int), ((0 : Int), (7 : Int), []))]))])
set_option maxRecDepth 100000 in
theorem p2_s925_s {X : Int → Int} {LX : Nat} : ck_Ok p2_O X LX 301 p2_s925 := ck_okq (cuts := []) (f := 92) ⟨p2_nmu, ck_E0⟩ (by decide +kernel)
set_option maxRecDepth 100000 in
/-- GlacierMailModel.isRock -/
noncomputable def p2_s926 : ck_Sum := (((1 : Nat), (0 : Nat), (0 : Nat)), (245 : Nat), [.inr (.inr (.inl (226 : Nat))), .inl (ck_one 9)], ([], [], []), ([], []), [(.inr (some (.inl (ck_one 1))), (245 : Nat), ([], [], [((227 : Nat), (182 : Int), (182 : Int), ck_one (-1))])), (.inr (some (.inl (ck_one 0))), (245 : Nat), ([], [], [((227 : Nat), (182 : Int), (182 : Int), ((0 : Int), (7 : Int), []))]))])
set_option maxRecDepth 100000 in
theorem p2_s926_s {X : Int → Int} {LX : Nat} : ck_Ok p2_O X LX 303 p2_s926 := ck_okq (cuts := []) (f := 86) ⟨p2_nmu, ck_E1 (ck_S1 p2_s925_s ck_S0) ck_E0⟩ (by decide +kernel)
set_option maxRecDepth 100000 in
/-- GlacierMailModel.ofLetter -/
noncomputable def p2_s927 : ck_Sum := (((0 : Nat), (0 : Nat), (0 : Nat)), (245 : Nat), [.inr (.inr (.inl (226 : Nat))), .inl (ck_one 9), .inl (ck_one 5)], ([], [], []), ([], []), [(.inr (some (.inl (ck_one (-1)))), (245 : Nat), ([], [], [((227 : Nat), (187 : Int), (187 : Int), ck_one (-1))])), (.inr (some (.inl ((0 : Int), (7 : Int), []))), (245 : Nat), ([], [], [((227 : Nat), (187 : Int), (187 : Int), ((0 : Int), (7 : Int), []))]))])
set_option maxRecDepth 100000 in
theorem p2_s927_s {X : Int → Int} {LX : Nat} : ck_Ok p2_O X LX 301 p2_s927 := ck_okq (cuts := []) (f := 92) ⟨p2_nmu, ck_E0⟩ (by decide +kernel)
set_option maxRecDepth 100000 in
/-- GlacierMailModel.isWaiting -/
noncomputable def p2_s928 : ck_Sum := (((8 : Nat), (0 : Nat), (0 : Nat)), (245 : Nat), [.inr (.inr (.inl (226 : Nat))), .inl (ck_one 9)], ([], [], zl83), (zl81, []), [(.inr (some (.inl (ck_one 0))), (245 : Nat), ([], [], [])), (.inr (some (.inl (ck_one 1))), (245 : Nat), ([], [], [((226 : Nat), (29 : Int), (29 : Int), ((0 : Int), (299 : Int), [])), ((227 : Nat), (187 : Int), (187 : Int), ck_one (-1)), ((227 : Nat), (182 : Int), (182 : Int), ((0 : Int), (7 : Int), []))]))])
set_option maxRecDepth 100000 in
theorem p2_s928_s {X : Int → Int} {LX : Nat} : ck_Ok p2_O X LX 302 p2_s928 := ck_okq (cuts := []) (f := 114) ⟨p2_nmu, ck_E1 (ck_S1 p2_s926_s ck_S0) (ck_E1 (ck_S1 p2_s927_s ck_S0) (ck_E1 (ck_S1 p2_s381_s ck_S0) (ck_E1 (ck_S1 p2_s190_s ck_S0) ck_E0)))⟩ (by decide +kernel)
set_option maxRecDepth 100000 in
/-- GlacierMailModel.ofLetter -/
noncomputable def p2_s929 : ck_Sum := (((0 : Nat), (0 : Nat), (0 : Nat)), (245 : Nat), [.inr (.inr (.inl (226 : Nat))), .inl (ck_one 9), .inl (ck_one 1)], ([], [], []), ([], []), [(.inr (some (.inl (ck_one (-1)))), (245 : Nat), ([], [], [((227 : Nat), (183 : Int), (183 : Int), ck_one (-1))])), (.inr (some (.inl ((0 : Int), (7 : Int), []))), (245 : Nat), ([], [], [((227 : Nat), (183 : Int), (183 : Int), ((0 : Int), (7 : Int), []))]))])
set_option maxRecDepth 100000 in
theorem p2_s929_s {X : Int → Int} {LX : Nat} : ck_Ok p2_O X LX 301 p2_s929 := ck_okq (cuts := []) (f := 92) ⟨p2_nmu, ck_E0⟩ (by decide +kernel)
set_option maxRecDepth 100000 in
/-- GlacierMailModel.ofLetter -/
noncomputable def p2_s930 : ck_Sum := (((0 : Nat), (0 : Nat), (0 : Nat)), (245 : Nat), [.inr (.inr (.inl (226 : Nat))), .inl (ck_one 9), .inl (ck_one 3)], ([], [], []), ([], []), [(.inr (some (.inl ((0 : Int), (299 : Int), []))), (245 : Nat), ([], [], []))])
set_option maxRecDepth 100000 in
theorem p2_s930_s {X : Int → Int} {LX : Nat} : ck_Ok p2_O X LX 301 p2_s930 := ck_okq (cuts := []) (f := 92) ⟨p2_nmu, ck_E0⟩ (by decide +kernel)
/-- GlacierMailModel.opens -/
noncomputable def p2_s931 : ck_Sum := op_os0 9 (.inl (ck_one (-1))) 0 7 (-1) (-1)
theorem p2_s931_s {X : Int → Int} {LX : Nat} : ck_Ok p2_O X LX 319 p2_s931 := op_none (by decide) (by decide) (by decide)
/-- GlacierMailModel.opens -/
noncomputable def p2_s932 : ck_Sum := op_os 9 0 7
theorem p2_s932_s {X : Int → Int} {LX : Nat} : ck_Ok p2_O X LX 319 p2_s932 := op_open (by decide) (by decide) (by decide +kernel)
set_option maxRecDepth 100000 in
/-- GlacierMailModel.open -/
noncomputable def p2_s933 : ck_Sum := (((9 : Nat), (0 : Nat), (0 : Nat)), (245 : Nat), [.inr (.inr (.inl (226 : Nat))), .inl (ck_one 9)], ([], [], zl176), ([((226 : Nat), (0 : Int), (0 : Int)), ((226 : Nat), (6 : Int), (6 : Int)), ((226 : Nat), (17 : Int), (23 : Int)), ((226 : Nat), (26 : Int), (26 : Int)), ((226 : Nat), (29 : Int), (30 : Int)), ((227 : Nat), (14 : Int), (14 : Int)), ((227 : Nat), (187 : Int), (188 : Int)), ((227 : Nat), (323 : Int), (394 : Int)), ((230 : Nat), (0 : Int), (4739 : Int)), ((233 : Nat), (0 : Int), (399 : Int)), ((235 : Nat), (0 : Int), (29699 : Int)), ((236 : Nat), (0 : Int), (299 : Int)), ((237 : Nat), (0 : Int), (299 : Int))], []), [(.inr (some (.inl (ck_one 0))), (245 : Nat), ([], [], zl177)), (.inr (some (.inl ((-299 : Int), (299 : Int), []))), (245 : Nat), ([], [], [((227 : Nat), (187 : Int), (187 : Int), ((0 : Int), (7 : Int), [])), ((227 : Nat), (183 : Int), (183 : Int), ((0 : Int), (7 : Int), [])), ((226 : Nat), (6 : Int), (6 : Int), ((1 : Int), (12 : Int), [((1000027 : Nat), (0 : Int))])), ((226 : Nat), (29 : Int), (29 : Int), ((0 : Int), (299 : Int), [])), ((227 : Nat), (182 : Int), (182 : Int), ((0 : Int), (7 : Int), [])), ((226 : Nat), (0 : Int), (0 : Int), ck_one 0)]))])
set_option maxRecDepth 100000 in
theorem p2_s933_s {X : Int → Int} {LX : Nat} : ck_Ok p2_O X LX 318 p2_s933 := ck_okq (cuts := []) (f := 142) ⟨p2_nmu, ck_E1 (ck_S1 p2_s924_s ck_S0) (ck_E1 (ck_S1 p2_s241_s (ck_S1 p2_s242_s (ck_S1 p2_s244_s (ck_S1 p2_s243_s ck_S0)))) (ck_E1 (ck_S1 p2_s928_s ck_S0) (ck_E1 (ck_S1 p2_s553_s ck_S0) (ck_E1 (ck_S1 p2_s929_s (ck_S1 p2_s930_s ck_S0)) (ck_E1 (ck_S1 p2_s931_s (ck_S1 p2_s932_s ck_S0)) (ck_E1 (ck_S1 p2_s190_s ck_S0) ck_E0))))))⟩ (by decide +kernel)
set_option maxRecDepth 100000 in
/-- GlacierMailModel.in -/
noncomputable def p2_s934 : ck_Sum := (((0 : Nat), (0 : Nat), (0 : Nat)), (245 : Nat), [.inl (ck_one 10), .inl (ck_one 0), .inl ((-1 : Int), (23 : Int), [])], ([], [], []), ([], []), [(.inr (some (.inl (ck_one 0))), (245 : Nat), ([], [], [])), (.inr (some (.inl (ck_one 1))), (245 : Nat), ([], [], []))])
set_option maxRecDepth 100000 in
theorem p2_s934_s {X : Int → Int} {LX : Nat} : ck_Ok p2_O X LX 286 p2_s934 := ck_okq (cuts := []) (f := 88) ⟨p2_nmu, ck_E0⟩ (by decide +kernel)
set_option maxRecDepth 100000 in
/-- GlacierMailModel.noLetter -/
noncomputable def p2_s935 : ck_Sum := (((1 : Nat), (0 : Nat), (0 : Nat)), (245 : Nat), [.inr (.inr (.inl (226 : Nat))), .inl (ck_one 10)], ([], [], [((227 : Nat), (4 : Int), (4 : Int), ((0 : Int), (24 : Int), [((22 : Nat), (0 : Int))]))]), ([], []), [(.inr (some (.inl (ck_one 1))), (245 : Nat), ([], [], [])), (.inr (some (.inl (ck_one 0))), (245 : Nat), ([], [], []))])
set_option maxRecDepth 100000 in
theorem p2_s935_s {X : Int → Int} {LX : Nat} : ck_Ok p2_O X LX 309 p2_s935 := ck_okq (cuts := []) (f := 92) ⟨p2_nmu, ck_E1 (ck_S1 p2_s176_s ck_S0) (ck_E1 (ck_S1 p2_s934_s ck_S0) ck_E0)⟩ (by decide +kernel)
set_option maxRecDepth 100000 in
/-- GlacierMailModel.ofLetter -/
noncomputable def p2_s936 : ck_Sum := (((0 : Nat), (0 : Nat), (0 : Nat)), (245 : Nat), [.inr (.inr (.inl (226 : Nat))), .inl (ck_one 10), .inl (ck_one 0)], ([], [], []), ([], []), [(.inr (some (.inl (ck_one (-1)))), (245 : Nat), ([], [], [((227 : Nat), (189 : Int), (189 : Int), ck_one (-1))])), (.inr (some (.inl ((0 : Int), (7 : Int), []))), (245 : Nat), ([], [], [((227 : Nat), (189 : Int), (189 : Int), ((0 : Int), (7 : Int), []))]))])
set_option maxRecDepth 100000 in
theorem p2_s936_s {X : Int → Int} {LX : Nat} : ck_Ok p2_O X LX 301 p2_s936 := ck_okq (cuts := []) (f := 92) ⟨p2_nmu, ck_E0⟩ (by decide +kernel)
set_option maxRecDepth 100000 in
/-- GlacierMailModel.isRock -/
noncomputable def p2_s937 : ck_Sum := (((1 : Nat), (0 : Nat), (0 : Nat)), (245 : Nat), [.inr (.inr (.inl (226 : Nat))), .inl (ck_one 10)], ([], [], []), ([], []), [(.inr (some (.inl (ck_one 1))), (245 : Nat), ([], [], [((227 : Nat), (189 : Int), (189 : Int), ck_one (-1))])), (.inr (some (.inl (ck_one 0))), (245 : Nat), ([], [], [((227 : Nat), (189 : Int), (189 : Int), ((0 : Int), (7 : Int), []))]))])
set_option maxRecDepth 100000 in
theorem p2_s937_s {X : Int → Int} {LX : Nat} : ck_Ok p2_O X LX 303 p2_s937 := ck_okq (cuts := []) (f := 86) ⟨p2_nmu, ck_E1 (ck_S1 p2_s936_s ck_S0) ck_E0⟩ (by decide +kernel)
set_option maxRecDepth 100000 in
/-- GlacierMailModel.ofLetter -/
noncomputable def p2_s938 : ck_Sum := (((0 : Nat), (0 : Nat), (0 : Nat)), (245 : Nat), [.inr (.inr (.inl (226 : Nat))), .inl (ck_one 10), .inl (ck_one 5)], ([], [], []), ([], []), [(.inr (some (.inl (ck_one (-1)))), (245 : Nat), ([], [], [((227 : Nat), (194 : Int), (194 : Int), ck_one (-1))])), (.inr (some (.inl ((0 : Int), (7 : Int), []))), (245 : Nat), ([], [], [((227 : Nat), (194 : Int), (194 : Int), ((0 : Int), (7 : Int), []))]))])
set_option maxRecDepth 100000 in
theorem p2_s938_s {X : Int → Int} {LX : Nat} : ck_Ok p2_O X LX 301 p2_s938 := ck_okq (cuts := []) (f := 92) ⟨p2_nmu, ck_E0⟩ (by decide +kernel)
set_option maxRecDepth 100000 in
/-- GlacierMailModel.isWaiting -/
noncomputable def p2_s939 : ck_Sum := (((8 : Nat), (0 : Nat), (0 : Nat)), (245 : Nat), [.inr (.inr (.inl (226 : Nat))), .inl (ck_one 10)], ([], [], zl83), (zl81, []), [(.inr (some (.inl (ck_one 0))), (245 : Nat), ([], [], [])), (.inr (some (.inl (ck_one 1))), (245 : Nat), ([], [], [((226 : Nat), (29 : Int), (29 : Int), ((0 : Int), (299 : Int), [])), ((227 : Nat), (194 : Int), (194 : Int), ck_one (-1)), ((227 : Nat), (189 : Int), (189 : Int), ((0 : Int), (7 : Int), []))]))])
set_option maxRecDepth 100000 in
theorem p2_s939_s {X : Int → Int} {LX : Nat} : ck_Ok p2_O X LX 302 p2_s939 := ck_okq (cuts := []) (f := 114) ⟨p2_nmu, ck_E1 (ck_S1 p2_s937_s ck_S0) (ck_E1 (ck_S1 p2_s938_s ck_S0) (ck_E1 (ck_S1 p2_s381_s ck_S0) (ck_E1 (ck_S1 p2_s190_s ck_S0) ck_E0)))⟩ (by decide +kernel)
set_option maxRecDepth 100000 in
/-- GlacierMailModel.ofLetter -/
noncomputable def p2_s940 : ck_Sum := (((0 : Nat), (0 : Nat), (0 : Nat)), (245 : Nat), [.inr (.inr (.inl (226 : Nat))), .inl (ck_one 10), .inl (ck_one 1)], ([], [], []), ([], []), [(.inr (some (.inl (ck_one (-1)))), (245 : Nat), ([], [], [((227 : Nat), (190 : Int), (190 : Int), ck_one (-1))])), (.inr (some (.inl ((0 : Int), (7 : Int), []))), (245 : Nat), ([], [], [((227 : Nat), (190 : Int), (190 : Int), ((0 : Int), (7 : Int), []))]))])
set_option maxRecDepth 100000 in
theorem p2_s940_s {X : Int → Int} {LX : Nat} : ck_Ok p2_O X LX 301 p2_s940 := ck_okq (cuts := []) (f := 92) ⟨p2_nmu, ck_E0⟩ (by decide +kernel)
set_option maxRecDepth 100000 in
/-- GlacierMailModel.ofLetter -/
noncomputable def p2_s941 : ck_Sum := (((0 : Nat), (0 : Nat), (0 : Nat)), (245 : Nat), [.inr (.inr (.inl (226 : Nat))), .inl (ck_one 10), .inl (ck_one 3)], ([], [], []), ([], []), [(.inr (some (.inl ((0 : Int), (299 : Int), []))), (245 : Nat), ([], [], []))])
set_option maxRecDepth 100000 in
theorem p2_s941_s {X : Int → Int} {LX : Nat} : ck_Ok p2_O X LX 301 p2_s941 := ck_okq (cuts := []) (f := 92) ⟨p2_nmu, ck_E0⟩ (by decide +kernel)
/-- GlacierMailModel.opens -/
noncomputable def p2_s942 : ck_Sum := op_os0 10 (.inl (ck_one (-1))) 0 7 (-1) (-1)
theorem p2_s942_s {X : Int → Int} {LX : Nat} : ck_Ok p2_O X LX 319 p2_s942 := op_none (by decide) (by decide) (by decide)
/-- GlacierMailModel.opens -/
noncomputable def p2_s943 : ck_Sum := op_os 10 0 7
theorem p2_s943_s {X : Int → Int} {LX : Nat} : ck_Ok p2_O X LX 319 p2_s943 := op_open (by decide) (by decide) (by decide +kernel)
set_option maxRecDepth 100000 in
/-- GlacierMailModel.open -/
noncomputable def p2_s944 : ck_Sum := (((9 : Nat), (0 : Nat), (0 : Nat)), (245 : Nat), [.inr (.inr (.inl (226 : Nat))), .inl (ck_one 10)], ([], [], zl176), ([((226 : Nat), (0 : Int), (0 : Int)), ((226 : Nat), (6 : Int), (6 : Int)), ((226 : Nat), (17 : Int), (23 : Int)), ((226 : Nat), (26 : Int), (26 : Int)), ((226 : Nat), (29 : Int), (30 : Int)), ((227 : Nat), (14 : Int), (14 : Int)), ((227 : Nat), (194 : Int), (195 : Int)), ((227 : Nat), (323 : Int), (394 : Int)), ((230 : Nat), (0 : Int), (4739 : Int)), ((233 : Nat), (0 : Int), (399 : Int)), ((235 : Nat), (0 : Int), (29699 : Int)), ((236 : Nat), (0 : Int), (299 : Int)), ((237 : Nat), (0 : Int), (299 : Int))], []), [(.inr (some (.inl (ck_one 0))), (245 : Nat), ([], [], zl177)), (.inr (some (.inl ((-299 : Int), (299 : Int), []))), (245 : Nat), ([], [], [((227 : Nat), (194 : Int), (194 : Int), ((0 : Int), (7 : Int), [])), ((227 : Nat), (190 : Int), (190 : Int), ((0 : Int), (7 : Int), [])), ((226 : Nat), (6 : Int), (6 : Int), ((1 : Int), (12 : Int), [((1000027 : Nat), (0 : Int))])), ((226 : Nat), (29 : Int), (29 : Int), ((0 : Int), (299 : Int), [])), ((227 : Nat), (189 : Int), (189 : Int), ((0 : Int), (7 : Int), [])), ((226 : Nat), (0 : Int), (0 : Int), ck_one 0)]))])
set_option maxRecDepth 100000 in
theorem p2_s944_s {X : Int → Int} {LX : Nat} : ck_Ok p2_O X LX 318 p2_s944 := ck_okq (cuts := []) (f := 142) ⟨p2_nmu, ck_E1 (ck_S1 p2_s935_s ck_S0) (ck_E1 (ck_S1 p2_s241_s (ck_S1 p2_s242_s (ck_S1 p2_s244_s (ck_S1 p2_s243_s ck_S0)))) (ck_E1 (ck_S1 p2_s939_s ck_S0) (ck_E1 (ck_S1 p2_s553_s ck_S0) (ck_E1 (ck_S1 p2_s940_s (ck_S1 p2_s941_s ck_S0)) (ck_E1 (ck_S1 p2_s942_s (ck_S1 p2_s943_s ck_S0)) (ck_E1 (ck_S1 p2_s190_s ck_S0) ck_E0))))))⟩ (by decide +kernel)
set_option maxRecDepth 100000 in
/-- GlacierMailModel.in -/
noncomputable def p2_s945 : ck_Sum := (((0 : Nat), (0 : Nat), (0 : Nat)), (245 : Nat), [.inl (ck_one 11), .inl (ck_one 0), .inl ((-1 : Int), (23 : Int), [])], ([], [], []), ([], []), [(.inr (some (.inl (ck_one 0))), (245 : Nat), ([], [], [])), (.inr (some (.inl (ck_one 1))), (245 : Nat), ([], [], []))])
set_option maxRecDepth 100000 in
theorem p2_s945_s {X : Int → Int} {LX : Nat} : ck_Ok p2_O X LX 286 p2_s945 := ck_okq (cuts := []) (f := 88) ⟨p2_nmu, ck_E0⟩ (by decide +kernel)
set_option maxRecDepth 100000 in
/-- GlacierMailModel.noLetter -/
noncomputable def p2_s946 : ck_Sum := (((1 : Nat), (0 : Nat), (0 : Nat)), (245 : Nat), [.inr (.inr (.inl (226 : Nat))), .inl (ck_one 11)], ([], [], [((227 : Nat), (4 : Int), (4 : Int), ((0 : Int), (24 : Int), [((22 : Nat), (0 : Int))]))]), ([], []), [(.inr (some (.inl (ck_one 1))), (245 : Nat), ([], [], [])), (.inr (some (.inl (ck_one 0))), (245 : Nat), ([], [], []))])
set_option maxRecDepth 100000 in
theorem p2_s946_s {X : Int → Int} {LX : Nat} : ck_Ok p2_O X LX 309 p2_s946 := ck_okq (cuts := []) (f := 92) ⟨p2_nmu, ck_E1 (ck_S1 p2_s176_s ck_S0) (ck_E1 (ck_S1 p2_s945_s ck_S0) ck_E0)⟩ (by decide +kernel)
set_option maxRecDepth 100000 in
/-- GlacierMailModel.ofLetter -/
noncomputable def p2_s947 : ck_Sum := (((0 : Nat), (0 : Nat), (0 : Nat)), (245 : Nat), [.inr (.inr (.inl (226 : Nat))), .inl (ck_one 11), .inl (ck_one 0)], ([], [], []), ([], []), [(.inr (some (.inl (ck_one (-1)))), (245 : Nat), ([], [], [((227 : Nat), (196 : Int), (196 : Int), ck_one (-1))])), (.inr (some (.inl ((0 : Int), (7 : Int), []))), (245 : Nat), ([], [], [((227 : Nat), (196 : Int), (196 : Int), ((0 : Int), (7 : Int), []))]))])
set_option maxRecDepth 100000 in
theorem p2_s947_s {X : Int → Int} {LX : Nat} : ck_Ok p2_O X LX 301 p2_s947 := ck_okq (cuts := []) (f := 92) ⟨p2_nmu, ck_E0⟩ (by decide +kernel)
set_option maxRecDepth 100000 in
/-- GlacierMailModel.isRock -/
noncomputable def p2_s948 : ck_Sum := (((1 : Nat), (0 : Nat), (0 : Nat)), (245 : Nat), [.inr (.inr (.inl (226 : Nat))), .inl (ck_one 11)], ([], [], []), ([], []), [(.inr (some (.inl (ck_one 1))), (245 : Nat), ([], [], [((227 : Nat), (196 : Int), (196 : Int), ck_one (-1))])), (.inr (some (.inl (ck_one 0))), (245 : Nat), ([], [], [((227 : Nat), (196 : Int), (196 : Int), ((0 : Int), (7 : Int), []))]))])
set_option maxRecDepth 100000 in
theorem p2_s948_s {X : Int → Int} {LX : Nat} : ck_Ok p2_O X LX 303 p2_s948 := ck_okq (cuts := []) (f := 86) ⟨p2_nmu, ck_E1 (ck_S1 p2_s947_s ck_S0) ck_E0⟩ (by decide +kernel)
set_option maxRecDepth 100000 in
/-- GlacierMailModel.ofLetter -/
noncomputable def p2_s949 : ck_Sum := (((0 : Nat), (0 : Nat), (0 : Nat)), (245 : Nat), [.inr (.inr (.inl (226 : Nat))), .inl (ck_one 11), .inl (ck_one 5)], ([], [], []), ([], []), [(.inr (some (.inl (ck_one (-1)))), (245 : Nat), ([], [], [((227 : Nat), (201 : Int), (201 : Int), ck_one (-1))])), (.inr (some (.inl ((0 : Int), (7 : Int), []))), (245 : Nat), ([], [], [((227 : Nat), (201 : Int), (201 : Int), ((0 : Int), (7 : Int), []))]))])
set_option maxRecDepth 100000 in
theorem p2_s949_s {X : Int → Int} {LX : Nat} : ck_Ok p2_O X LX 301 p2_s949 := ck_okq (cuts := []) (f := 92) ⟨p2_nmu, ck_E0⟩ (by decide +kernel)
set_option maxRecDepth 100000 in
/-- GlacierMailModel.isWaiting -/
noncomputable def p2_s950 : ck_Sum := (((8 : Nat), (0 : Nat), (0 : Nat)), (245 : Nat), [.inr (.inr (.inl (226 : Nat))), .inl (ck_one 11)], ([], [], zl83), (zl81, []), [(.inr (some (.inl (ck_one 0))), (245 : Nat), ([], [], [])), (.inr (some (.inl (ck_one 1))), (245 : Nat), ([], [], [((226 : Nat), (29 : Int), (29 : Int), ((0 : Int), (299 : Int), [])), ((227 : Nat), (201 : Int), (201 : Int), ck_one (-1)), ((227 : Nat), (196 : Int), (196 : Int), ((0 : Int), (7 : Int), []))]))])
set_option maxRecDepth 100000 in
theorem p2_s950_s {X : Int → Int} {LX : Nat} : ck_Ok p2_O X LX 302 p2_s950 := ck_okq (cuts := []) (f := 114) ⟨p2_nmu, ck_E1 (ck_S1 p2_s948_s ck_S0) (ck_E1 (ck_S1 p2_s949_s ck_S0) (ck_E1 (ck_S1 p2_s381_s ck_S0) (ck_E1 (ck_S1 p2_s190_s ck_S0) ck_E0)))⟩ (by decide +kernel)
set_option maxRecDepth 100000 in
/-- GlacierMailModel.ofLetter -/
noncomputable def p2_s951 : ck_Sum := (((0 : Nat), (0 : Nat), (0 : Nat)), (245 : Nat), [.inr (.inr (.inl (226 : Nat))), .inl (ck_one 11), .inl (ck_one 1)], ([], [], []), ([], []), [(.inr (some (.inl (ck_one (-1)))), (245 : Nat), ([], [], [((227 : Nat), (197 : Int), (197 : Int), ck_one (-1))])), (.inr (some (.inl ((0 : Int), (7 : Int), []))), (245 : Nat), ([], [], [((227 : Nat), (197 : Int), (197 : Int), ((0 : Int), (7 : Int), []))]))])
set_option maxRecDepth 100000 in
theorem p2_s951_s {X : Int → Int} {LX : Nat} : ck_Ok p2_O X LX 301 p2_s951 := ck_okq (cuts := []) (f := 92) ⟨p2_nmu, ck_E0⟩ (by decide +kernel)
set_option maxRecDepth 100000 in
/-- GlacierMailModel.ofLetter -/
noncomputable def p2_s952 : ck_Sum := (((0 : Nat), (0 : Nat), (0 : Nat)), (245 : Nat), [.inr (.inr (.inl (226 : Nat))), .inl (ck_one 11), .inl (ck_one 3)], ([], [], []), ([], []), [(.inr (some (.inl ((0 : Int), (299 : Int), []))), (245 : Nat), ([], [], []))])
set_option maxRecDepth 100000 in
theorem p2_s952_s {X : Int → Int} {LX : Nat} : ck_Ok p2_O X LX 301 p2_s952 := ck_okq (cuts := []) (f := 92) ⟨p2_nmu, ck_E0⟩ (by decide +kernel)
/-- GlacierMailModel.opens -/
noncomputable def p2_s953 : ck_Sum := op_os0 11 (.inl (ck_one (-1))) 0 7 (-1) (-1)
theorem p2_s953_s {X : Int → Int} {LX : Nat} : ck_Ok p2_O X LX 319 p2_s953 := op_none (by decide) (by decide) (by decide)
/-- GlacierMailModel.opens -/
noncomputable def p2_s954 : ck_Sum := op_os 11 0 7
theorem p2_s954_s {X : Int → Int} {LX : Nat} : ck_Ok p2_O X LX 319 p2_s954 := op_open (by decide) (by decide) (by decide +kernel)
set_option maxRecDepth 100000 in
/-- GlacierMailModel.open -/
noncomputable def p2_s955 : ck_Sum := (((9 : Nat), (0 : Nat), (0 : Nat)), (245 : Nat), [.inr (.inr (.inl (226 : Nat))), .inl (ck_one 11)], ([], [], zl176), ([((226 : Nat), (0 : Int), (0 : Int)), ((226 : Nat), (6 : Int), (6 : Int)), ((226 : Nat), (17 : Int), (23 : Int)), ((226 : Nat), (26 : Int), (26 : Int)), ((226 : Nat), (29 : Int), (30 : Int)), ((227 : Nat), (14 : Int), (14 : Int)), ((227 : Nat), (201 : Int), (202 : Int)), ((227 : Nat), (323 : Int), (394 : Int)), ((230 : Nat), (0 : Int), (4739 : Int)), ((233 : Nat), (0 : Int), (399 : Int)), ((235 : Nat), (0 : Int), (29699 : Int)), ((236 : Nat), (0 : Int), (299 : Int)), ((237 : Nat), (0 : Int), (299 : Int))], []), [(.inr (some (.inl (ck_one 0))), (245 : Nat), ([], [], zl177)), (.inr (some (.inl ((-299 : Int), (299 : Int), []))), (245 : Nat), ([], [], [((227 : Nat), (201 : Int), (201 : Int), ((0 : Int), (7 : Int), [])), ((227 : Nat), (197 : Int), (197 : Int), ((0 : Int), (7 : Int), [])), ((226 : Nat), (6 : Int), (6 : Int), ((1 : Int), (12 : Int), [((1000027 : Nat), (0 : Int))])), ((226 : Nat), (29 : Int), (29 : Int), ((0 : Int), (299 : Int), [])), ((227 : Nat), (196 : Int), (196 : Int), ((0 : Int), (7 : Int), [])), ((226 : Nat), (0 : Int), (0 : Int), ck_one 0)]))])
set_option maxRecDepth 100000 in
theorem p2_s955_s {X : Int → Int} {LX : Nat} : ck_Ok p2_O X LX 318 p2_s955 := ck_okq (cuts := []) (f := 142) ⟨p2_nmu, ck_E1 (ck_S1 p2_s946_s ck_S0) (ck_E1 (ck_S1 p2_s241_s (ck_S1 p2_s242_s (ck_S1 p2_s244_s (ck_S1 p2_s243_s ck_S0)))) (ck_E1 (ck_S1 p2_s950_s ck_S0) (ck_E1 (ck_S1 p2_s553_s ck_S0) (ck_E1 (ck_S1 p2_s951_s (ck_S1 p2_s952_s ck_S0)) (ck_E1 (ck_S1 p2_s953_s (ck_S1 p2_s954_s ck_S0)) (ck_E1 (ck_S1 p2_s190_s ck_S0) ck_E0))))))⟩ (by decide +kernel)
set_option maxRecDepth 100000 in
/-- GlacierMailModel.in -/
noncomputable def p2_s956 : ck_Sum := (((0 : Nat), (0 : Nat), (0 : Nat)), (245 : Nat), [.inl (ck_one 12), .inl (ck_one 0), .inl ((-1 : Int), (23 : Int), [])], ([], [], []), ([], []), [(.inr (some (.inl (ck_one 0))), (245 : Nat), ([], [], [])), (.inr (some (.inl (ck_one 1))), (245 : Nat), ([], [], []))])
set_option maxRecDepth 100000 in
theorem p2_s956_s {X : Int → Int} {LX : Nat} : ck_Ok p2_O X LX 286 p2_s956 := ck_okq (cuts := []) (f := 88) ⟨p2_nmu, ck_E0⟩ (by decide +kernel)
set_option maxRecDepth 100000 in
/-- GlacierMailModel.noLetter -/
noncomputable def p2_s957 : ck_Sum := (((1 : Nat), (0 : Nat), (0 : Nat)), (245 : Nat), [.inr (.inr (.inl (226 : Nat))), .inl (ck_one 12)], ([], [], [((227 : Nat), (4 : Int), (4 : Int), ((0 : Int), (24 : Int), [((22 : Nat), (0 : Int))]))]), ([], []), [(.inr (some (.inl (ck_one 1))), (245 : Nat), ([], [], [])), (.inr (some (.inl (ck_one 0))), (245 : Nat), ([], [], []))])
set_option maxRecDepth 100000 in
theorem p2_s957_s {X : Int → Int} {LX : Nat} : ck_Ok p2_O X LX 309 p2_s957 := ck_okq (cuts := []) (f := 92) ⟨p2_nmu, ck_E1 (ck_S1 p2_s176_s ck_S0) (ck_E1 (ck_S1 p2_s956_s ck_S0) ck_E0)⟩ (by decide +kernel)
set_option maxRecDepth 100000 in
/-- GlacierMailModel.ofLetter -/
noncomputable def p2_s958 : ck_Sum := (((0 : Nat), (0 : Nat), (0 : Nat)), (245 : Nat), [.inr (.inr (.inl (226 : Nat))), .inl (ck_one 12), .inl (ck_one 0)], ([], [], []), ([], []), [(.inr (some (.inl (ck_one (-1)))), (245 : Nat), ([], [], [((227 : Nat), (203 : Int), (203 : Int), ck_one (-1))])), (.inr (some (.inl ((0 : Int), (7 : Int), []))), (245 : Nat), ([], [], [((227 : Nat), (203 : Int), (203 : Int), ((0 : Int), (7 : Int), []))]))])
set_option maxRecDepth 100000 in
theorem p2_s958_s {X : Int → Int} {LX : Nat} : ck_Ok p2_O X LX 301 p2_s958 := ck_okq (cuts := []) (f := 92) ⟨p2_nmu, ck_E0⟩ (by decide +kernel)
set_option maxRecDepth 100000 in
/-- GlacierMailModel.isRock -/
noncomputable def p2_s959 : ck_Sum := (((1 : Nat), (0 : Nat), (0 : Nat)), (245 : Nat), [.inr (.inr (.inl (226 : Nat))), .inl (ck_one 12)], ([], [], []), ([], []), [(.inr (some (.inl (ck_one 1))), (245 : Nat), ([], [], [((227 : Nat), (203 : Int), (203 : Int), ck_one (-1))])), (.inr (some (.inl (ck_one 0))), (245 : Nat), ([], [], [((227 : Nat), (203 : Int), (203 : Int), ((0 : Int), (7 : Int), []))]))])
set_option maxRecDepth 100000 in
theorem p2_s959_s {X : Int → Int} {LX : Nat} : ck_Ok p2_O X LX 303 p2_s959 := ck_okq (cuts := []) (f := 86) ⟨p2_nmu, ck_E1 (ck_S1 p2_s958_s ck_S0) ck_E0⟩ (by decide +kernel)
set_option maxRecDepth 100000 in
/-- GlacierMailModel.ofLetter -/
noncomputable def p2_s960 : ck_Sum := (((0 : Nat), (0 : Nat), (0 : Nat)), (245 : Nat), [.inr (.inr (.inl (226 : Nat))), .inl (ck_one 12), .inl (ck_one 5)], ([], [], []), ([], []), [(.inr (some (.inl (ck_one (-1)))), (245 : Nat), ([], [], [((227 : Nat), (208 : Int), (208 : Int), ck_one (-1))])), (.inr (some (.inl ((0 : Int), (7 : Int), []))), (245 : Nat), ([], [], [((227 : Nat), (208 : Int), (208 : Int), ((0 : Int), (7 : Int), []))]))])
set_option maxRecDepth 100000 in
theorem p2_s960_s {X : Int → Int} {LX : Nat} : ck_Ok p2_O X LX 301 p2_s960 := ck_okq (cuts := []) (f := 92) ⟨p2_nmu, ck_E0⟩ (by decide +kernel)
set_option maxRecDepth 100000 in
/-- GlacierMailModel.isWaiting -/
noncomputable def p2_s961 : ck_Sum := (((8 : Nat), (0 : Nat), (0 : Nat)), (245 : Nat), [.inr (.inr (.inl (226 : Nat))), .inl (ck_one 12)], ([], [], zl83), (zl81, []), [(.inr (some (.inl (ck_one 0))), (245 : Nat), ([], [], [])), (.inr (some (.inl (ck_one 1))), (245 : Nat), ([], [], [((226 : Nat), (29 : Int), (29 : Int), ((0 : Int), (299 : Int), [])), ((227 : Nat), (208 : Int), (208 : Int), ck_one (-1)), ((227 : Nat), (203 : Int), (203 : Int), ((0 : Int), (7 : Int), []))]))])
set_option maxRecDepth 100000 in
theorem p2_s961_s {X : Int → Int} {LX : Nat} : ck_Ok p2_O X LX 302 p2_s961 := ck_okq (cuts := []) (f := 114) ⟨p2_nmu, ck_E1 (ck_S1 p2_s959_s ck_S0) (ck_E1 (ck_S1 p2_s960_s ck_S0) (ck_E1 (ck_S1 p2_s381_s ck_S0) (ck_E1 (ck_S1 p2_s190_s ck_S0) ck_E0)))⟩ (by decide +kernel)
set_option maxRecDepth 100000 in
/-- GlacierMailModel.ofLetter -/
noncomputable def p2_s962 : ck_Sum := (((0 : Nat), (0 : Nat), (0 : Nat)), (245 : Nat), [.inr (.inr (.inl (226 : Nat))), .inl (ck_one 12), .inl (ck_one 1)], ([], [], []), ([], []), [(.inr (some (.inl (ck_one (-1)))), (245 : Nat), ([], [], [((227 : Nat), (204 : Int), (204 : Int), ck_one (-1))])), (.inr (some (.inl ((0 : Int), (7 : Int), []))), (245 : Nat), ([], [], [((227 : Nat), (204 : Int), (204 : Int), ((0 : Int), (7 : Int), []))]))])
set_option maxRecDepth 100000 in
theorem p2_s962_s {X : Int → Int} {LX : Nat} : ck_Ok p2_O X LX 301 p2_s962 := ck_okq (cuts := []) (f := 92) ⟨p2_nmu, ck_E0⟩ (by decide +kernel)
set_option maxRecDepth 100000 in
/-- GlacierMailModel.ofLetter -/
noncomputable def p2_s963 : ck_Sum := (((0 : Nat), (0 : Nat), (0 : Nat)), (245 : Nat), [.inr (.inr (.inl (226 : Nat))), .inl (ck_one 12), .inl (ck_one 3)], ([], [], []), ([], []), [(.inr (some (.inl ((0 : Int), (299 : Int), []))), (245 : Nat), ([], [], []))])
set_option maxRecDepth 100000 in
theorem p2_s963_s {X : Int → Int} {LX : Nat} : ck_Ok p2_O X LX 301 p2_s963 := ck_okq (cuts := []) (f := 92) ⟨p2_nmu, ck_E0⟩ (by decide +kernel)
/-- GlacierMailModel.opens -/
noncomputable def p2_s964 : ck_Sum := op_os0 12 (.inl (ck_one (-1))) 0 7 (-1) (-1)
theorem p2_s964_s {X : Int → Int} {LX : Nat} : ck_Ok p2_O X LX 319 p2_s964 := op_none (by decide) (by decide) (by decide)
/-- GlacierMailModel.opens -/
noncomputable def p2_s965 : ck_Sum := op_os 12 0 7
theorem p2_s965_s {X : Int → Int} {LX : Nat} : ck_Ok p2_O X LX 319 p2_s965 := op_open (by decide) (by decide) (by decide +kernel)
set_option maxRecDepth 100000 in
/-- GlacierMailModel.open -/
noncomputable def p2_s966 : ck_Sum := (((9 : Nat), (0 : Nat), (0 : Nat)), (245 : Nat), [.inr (.inr (.inl (226 : Nat))), .inl (ck_one 12)], ([], [], zl176), ([((226 : Nat), (0 : Int), (0 : Int)), ((226 : Nat), (6 : Int), (6 : Int)), ((226 : Nat), (17 : Int), (23 : Int)), ((226 : Nat), (26 : Int), (26 : Int)), ((226 : Nat), (29 : Int), (30 : Int)), ((227 : Nat), (14 : Int), (14 : Int)), ((227 : Nat), (208 : Int), (209 : Int)), ((227 : Nat), (323 : Int), (394 : Int)), ((230 : Nat), (0 : Int), (4739 : Int)), ((233 : Nat), (0 : Int), (399 : Int)), ((235 : Nat), (0 : Int), (29699 : Int)), ((236 : Nat), (0 : Int), (299 : Int)), ((237 : Nat), (0 : Int), (299 : Int))], []), [(.inr (some (.inl (ck_one 0))), (245 : Nat), ([], [], zl177)), (.inr (some (.inl ((-299 : Int), (299 : Int), []))), (245 : Nat), ([], [], [((227 : Nat), (208 : Int), (208 : Int), ((0 : Int), (7 : Int), [])), ((227 : Nat), (204 : Int), (204 : Int), ((0 : Int), (7 : Int), [])), ((226 : Nat), (6 : Int), (6 : Int), ((1 : Int), (12 : Int), [((1000027 : Nat), (0 : Int))])), ((226 : Nat), (29 : Int), (29 : Int), ((0 : Int), (299 : Int), [])), ((227 : Nat), (203 : Int), (203 : Int), ((0 : Int), (7 : Int), [])), ((226 : Nat), (0 : Int), (0 : Int), ck_one 0)]))])
set_option maxRecDepth 100000 in
theorem p2_s966_s {X : Int → Int} {LX : Nat} : ck_Ok p2_O X LX 318 p2_s966 := ck_okq (cuts := []) (f := 142) ⟨p2_nmu, ck_E1 (ck_S1 p2_s957_s ck_S0) (ck_E1 (ck_S1 p2_s241_s (ck_S1 p2_s242_s (ck_S1 p2_s244_s (ck_S1 p2_s243_s ck_S0)))) (ck_E1 (ck_S1 p2_s961_s ck_S0) (ck_E1 (ck_S1 p2_s553_s ck_S0) (ck_E1 (ck_S1 p2_s962_s (ck_S1 p2_s963_s ck_S0)) (ck_E1 (ck_S1 p2_s964_s (ck_S1 p2_s965_s ck_S0)) (ck_E1 (ck_S1 p2_s190_s ck_S0) ck_E0))))))⟩ (by decide +kernel)
set_option maxRecDepth 100000 in
/-- GlacierMailModel.in -/
noncomputable def p2_s967 : ck_Sum := (((0 : Nat), (0 : Nat), (0 : Nat)), (245 : Nat), [.inl (ck_one 13), .inl (ck_one 0), .inl ((-1 : Int), (23 : Int), [])], ([], [], []), ([], []), [(.inr (some (.inl (ck_one 0))), (245 : Nat), ([], [], [])), (.inr (some (.inl (ck_one 1))), (245 : Nat), ([], [], []))])
set_option maxRecDepth 100000 in
theorem p2_s967_s {X : Int → Int} {LX : Nat} : ck_Ok p2_O X LX 286 p2_s967 := ck_okq (cuts := []) (f := 88) ⟨p2_nmu, ck_E0⟩ (by decide +kernel)
set_option maxRecDepth 100000 in
/-- GlacierMailModel.noLetter -/
noncomputable def p2_s968 : ck_Sum := (((1 : Nat), (0 : Nat), (0 : Nat)), (245 : Nat), [.inr (.inr (.inl (226 : Nat))), .inl (ck_one 13)], ([], [], [((227 : Nat), (4 : Int), (4 : Int), ((0 : Int), (24 : Int), [((22 : Nat), (0 : Int))]))]), ([], []), [(.inr (some (.inl (ck_one 1))), (245 : Nat), ([], [], [])), (.inr (some (.inl (ck_one 0))), (245 : Nat), ([], [], []))])
set_option maxRecDepth 100000 in
theorem p2_s968_s {X : Int → Int} {LX : Nat} : ck_Ok p2_O X LX 309 p2_s968 := ck_okq (cuts := []) (f := 92) ⟨p2_nmu, ck_E1 (ck_S1 p2_s176_s ck_S0) (ck_E1 (ck_S1 p2_s967_s ck_S0) ck_E0)⟩ (by decide +kernel)
set_option maxRecDepth 100000 in
/-- GlacierMailModel.ofLetter -/
noncomputable def p2_s969 : ck_Sum := (((0 : Nat), (0 : Nat), (0 : Nat)), (245 : Nat), [.inr (.inr (.inl (226 : Nat))), .inl (ck_one 13), .inl (ck_one 0)], ([], [], []), ([], []), [(.inr (some (.inl (ck_one (-1)))), (245 : Nat), ([], [], [((227 : Nat), (210 : Int), (210 : Int), ck_one (-1))])), (.inr (some (.inl ((0 : Int), (7 : Int), []))), (245 : Nat), ([], [], [((227 : Nat), (210 : Int), (210 : Int), ((0 : Int), (7 : Int), []))]))])
set_option maxRecDepth 100000 in
theorem p2_s969_s {X : Int → Int} {LX : Nat} : ck_Ok p2_O X LX 301 p2_s969 := ck_okq (cuts := []) (f := 92) ⟨p2_nmu, ck_E0⟩ (by decide +kernel)
set_option maxRecDepth 100000 in
/-- GlacierMailModel.isRock -/
noncomputable def p2_s970 : ck_Sum := (((1 : Nat), (0 : Nat), (0 : Nat)), (245 : Nat), [.inr (.inr (.inl (226 : Nat))), .inl (ck_one 13)], ([], [], []), ([], []), [(.inr (some (.inl (ck_one 1))), (245 : Nat), ([], [], [((227 : Nat), (210 : Int), (210 : Int), ck_one (-1))])), (.inr (some (.inl (ck_one 0))), (245 : Nat), ([], [], [((227 : Nat), (210 : Int), (210 : Int), ((0 : Int), (7 : Int), []))]))])
set_option maxRecDepth 100000 in
theorem p2_s970_s {X : Int → Int} {LX : Nat} : ck_Ok p2_O X LX 303 p2_s970 := ck_okq (cuts := []) (f := 86) ⟨p2_nmu, ck_E1 (ck_S1 p2_s969_s ck_S0) ck_E0⟩ (by decide +kernel)
set_option maxRecDepth 100000 in
/-- GlacierMailModel.ofLetter -/
noncomputable def p2_s971 : ck_Sum := (((0 : Nat), (0 : Nat), (0 : Nat)), (245 : Nat), [.inr (.inr (.inl (226 : Nat))), .inl (ck_one 13), .inl (ck_one 5)], ([], [], []), ([], []), [(.inr (some (.inl (ck_one (-1)))), (245 : Nat), ([], [], [((227 : Nat), (215 : Int), (215 : Int), ck_one (-1))])), (.inr (some (.inl ((0 : Int), (7 : Int), []))), (245 : Nat), ([], [], [((227 : Nat), (215 : Int), (215 : Int), ((0 : Int), (7 : Int), []))]))])
set_option maxRecDepth 100000 in
theorem p2_s971_s {X : Int → Int} {LX : Nat} : ck_Ok p2_O X LX 301 p2_s971 := ck_okq (cuts := []) (f := 92) ⟨p2_nmu, ck_E0⟩ (by decide +kernel)
set_option maxRecDepth 100000 in
/-- GlacierMailModel.isWaiting -/
noncomputable def p2_s972 : ck_Sum := (((8 : Nat), (0 : Nat), (0 : Nat)), (245 : Nat), [.inr (.inr (.inl (226 : Nat))), .inl (ck_one 13)], ([], [], zl83), (zl81, []), [(.inr (some (.inl (ck_one 0))), (245 : Nat), ([], [], [])), (.inr (some (.inl (ck_one 1))), (245 : Nat), ([], [], [((226 : Nat), (29 : Int), (29 : Int), ((0 : Int), (299 : Int), [])), ((227 : Nat), (215 : Int), (215 : Int), ck_one (-1)), ((227 : Nat), (210 : Int), (210 : Int), ((0 : Int), (7 : Int), []))]))])
set_option maxRecDepth 100000 in
theorem p2_s972_s {X : Int → Int} {LX : Nat} : ck_Ok p2_O X LX 302 p2_s972 := ck_okq (cuts := []) (f := 114) ⟨p2_nmu, ck_E1 (ck_S1 p2_s970_s ck_S0) (ck_E1 (ck_S1 p2_s971_s ck_S0) (ck_E1 (ck_S1 p2_s381_s ck_S0) (ck_E1 (ck_S1 p2_s190_s ck_S0) ck_E0)))⟩ (by decide +kernel)
set_option maxRecDepth 100000 in
/-- GlacierMailModel.ofLetter -/
noncomputable def p2_s973 : ck_Sum := (((0 : Nat), (0 : Nat), (0 : Nat)), (245 : Nat), [.inr (.inr (.inl (226 : Nat))), .inl (ck_one 13), .inl (ck_one 1)], ([], [], []), ([], []), [(.inr (some (.inl (ck_one (-1)))), (245 : Nat), ([], [], [((227 : Nat), (211 : Int), (211 : Int), ck_one (-1))])), (.inr (some (.inl ((0 : Int), (7 : Int), []))), (245 : Nat), ([], [], [((227 : Nat), (211 : Int), (211 : Int), ((0 : Int), (7 : Int), []))]))])
set_option maxRecDepth 100000 in
theorem p2_s973_s {X : Int → Int} {LX : Nat} : ck_Ok p2_O X LX 301 p2_s973 := ck_okq (cuts := []) (f := 92) ⟨p2_nmu, ck_E0⟩ (by decide +kernel)
set_option maxRecDepth 100000 in
/-- GlacierMailModel.ofLetter -/
noncomputable def p2_s974 : ck_Sum := (((0 : Nat), (0 : Nat), (0 : Nat)), (245 : Nat), [.inr (.inr (.inl (226 : Nat))), .inl (ck_one 13), .inl (ck_one 3)], ([], [], []), ([], []), [(.inr (some (.inl ((0 : Int), (299 : Int), []))), (245 : Nat), ([], [], []))])
set_option maxRecDepth 100000 in
theorem p2_s974_s {X : Int → Int} {LX : Nat} : ck_Ok p2_O X LX 301 p2_s974 := ck_okq (cuts := []) (f := 92) ⟨p2_nmu, ck_E0⟩ (by decide +kernel)
/-- GlacierMailModel.opens -/
noncomputable def p2_s975 : ck_Sum := op_os0 13 (.inl (ck_one (-1))) 0 7 (-1) (-1)
theorem p2_s975_s {X : Int → Int} {LX : Nat} : ck_Ok p2_O X LX 319 p2_s975 := op_none (by decide) (by decide) (by decide)
/-- GlacierMailModel.opens -/
noncomputable def p2_s976 : ck_Sum := op_os 13 0 7
theorem p2_s976_s {X : Int → Int} {LX : Nat} : ck_Ok p2_O X LX 319 p2_s976 := op_open (by decide) (by decide) (by decide +kernel)
set_option maxRecDepth 100000 in
/-- GlacierMailModel.open -/
noncomputable def p2_s977 : ck_Sum := (((9 : Nat), (0 : Nat), (0 : Nat)), (245 : Nat), [.inr (.inr (.inl (226 : Nat))), .inl (ck_one 13)], ([], [], zl176), ([((226 : Nat), (0 : Int), (0 : Int)), ((226 : Nat), (6 : Int), (6 : Int)), ((226 : Nat), (17 : Int), (23 : Int)), ((226 : Nat), (26 : Int), (26 : Int)), ((226 : Nat), (29 : Int), (30 : Int)), ((227 : Nat), (14 : Int), (14 : Int)), ((227 : Nat), (215 : Int), (216 : Int)), ((227 : Nat), (323 : Int), (394 : Int)), ((230 : Nat), (0 : Int), (4739 : Int)), ((233 : Nat), (0 : Int), (399 : Int)), ((235 : Nat), (0 : Int), (29699 : Int)), ((236 : Nat), (0 : Int), (299 : Int)), ((237 : Nat), (0 : Int), (299 : Int))], []), [(.inr (some (.inl (ck_one 0))), (245 : Nat), ([], [], zl177)), (.inr (some (.inl ((-299 : Int), (299 : Int), []))), (245 : Nat), ([], [], [((227 : Nat), (215 : Int), (215 : Int), ((0 : Int), (7 : Int), [])), ((227 : Nat), (211 : Int), (211 : Int), ((0 : Int), (7 : Int), [])), ((226 : Nat), (6 : Int), (6 : Int), ((1 : Int), (12 : Int), [((1000027 : Nat), (0 : Int))])), ((226 : Nat), (29 : Int), (29 : Int), ((0 : Int), (299 : Int), [])), ((227 : Nat), (210 : Int), (210 : Int), ((0 : Int), (7 : Int), [])), ((226 : Nat), (0 : Int), (0 : Int), ck_one 0)]))])
set_option maxRecDepth 100000 in
theorem p2_s977_s {X : Int → Int} {LX : Nat} : ck_Ok p2_O X LX 318 p2_s977 := ck_okq (cuts := []) (f := 142) ⟨p2_nmu, ck_E1 (ck_S1 p2_s968_s ck_S0) (ck_E1 (ck_S1 p2_s241_s (ck_S1 p2_s242_s (ck_S1 p2_s244_s (ck_S1 p2_s243_s ck_S0)))) (ck_E1 (ck_S1 p2_s972_s ck_S0) (ck_E1 (ck_S1 p2_s553_s ck_S0) (ck_E1 (ck_S1 p2_s973_s (ck_S1 p2_s974_s ck_S0)) (ck_E1 (ck_S1 p2_s975_s (ck_S1 p2_s976_s ck_S0)) (ck_E1 (ck_S1 p2_s190_s ck_S0) ck_E0))))))⟩ (by decide +kernel)
set_option maxRecDepth 100000 in
/-- GlacierMailModel.in -/
noncomputable def p2_s978 : ck_Sum := (((0 : Nat), (0 : Nat), (0 : Nat)), (245 : Nat), [.inl (ck_one 14), .inl (ck_one 0), .inl ((-1 : Int), (23 : Int), [])], ([], [], []), ([], []), [(.inr (some (.inl (ck_one 0))), (245 : Nat), ([], [], [])), (.inr (some (.inl (ck_one 1))), (245 : Nat), ([], [], []))])
set_option maxRecDepth 100000 in
theorem p2_s978_s {X : Int → Int} {LX : Nat} : ck_Ok p2_O X LX 286 p2_s978 := ck_okq (cuts := []) (f := 88) ⟨p2_nmu, ck_E0⟩ (by decide +kernel)
set_option maxRecDepth 100000 in
/-- GlacierMailModel.noLetter -/
noncomputable def p2_s979 : ck_Sum := (((1 : Nat), (0 : Nat), (0 : Nat)), (245 : Nat), [.inr (.inr (.inl (226 : Nat))), .inl (ck_one 14)], ([], [], [((227 : Nat), (4 : Int), (4 : Int), ((0 : Int), (24 : Int), [((22 : Nat), (0 : Int))]))]), ([], []), [(.inr (some (.inl (ck_one 1))), (245 : Nat), ([], [], [])), (.inr (some (.inl (ck_one 0))), (245 : Nat), ([], [], []))])
set_option maxRecDepth 100000 in
theorem p2_s979_s {X : Int → Int} {LX : Nat} : ck_Ok p2_O X LX 309 p2_s979 := ck_okq (cuts := []) (f := 92) ⟨p2_nmu, ck_E1 (ck_S1 p2_s176_s ck_S0) (ck_E1 (ck_S1 p2_s978_s ck_S0) ck_E0)⟩ (by decide +kernel)
set_option maxRecDepth 100000 in
/-- GlacierMailModel.ofLetter -/
noncomputable def p2_s980 : ck_Sum := (((0 : Nat), (0 : Nat), (0 : Nat)), (245 : Nat), [.inr (.inr (.inl (226 : Nat))), .inl (ck_one 14), .inl (ck_one 0)], ([], [], []), ([], []), [(.inr (some (.inl (ck_one (-1)))), (245 : Nat), ([], [], [((227 : Nat), (217 : Int), (217 : Int), ck_one (-1))])), (.inr (some (.inl ((0 : Int), (7 : Int), []))), (245 : Nat), ([], [], [((227 : Nat), (217 : Int), (217 : Int), ((0 : Int), (7 : Int), []))]))])
set_option maxRecDepth 100000 in
theorem p2_s980_s {X : Int → Int} {LX : Nat} : ck_Ok p2_O X LX 301 p2_s980 := ck_okq (cuts := []) (f := 92) ⟨p2_nmu, ck_E0⟩ (by decide +kernel)
set_option maxRecDepth 100000 in
/-- GlacierMailModel.isRock -/
noncomputable def p2_s981 : ck_Sum := (((1 : Nat), (0 : Nat), (0 : Nat)), (245 : Nat), [.inr (.inr (.inl (226 : Nat))), .inl (ck_one 14)], ([], [], []), ([], []), [(.inr (some (.inl (ck_one 1))), (245 : Nat), ([], [], [((227 : Nat), (217 : Int), (217 : Int), ck_one (-1))])), (.inr (some (.inl (ck_one 0))), (245 : Nat), ([], [], [((227 : Nat), (217 : Int), (217 : Int), ((0 : Int), (7 : Int), []))]))])
set_option maxRecDepth 100000 in
theorem p2_s981_s {X : Int → Int} {LX : Nat} : ck_Ok p2_O X LX 303 p2_s981 := ck_okq (cuts := []) (f := 86) ⟨p2_nmu, ck_E1 (ck_S1 p2_s980_s ck_S0) ck_E0⟩ (by decide +kernel)
set_option maxRecDepth 100000 in
/-- GlacierMailModel.ofLetter -/
noncomputable def p2_s982 : ck_Sum := (((0 : Nat), (0 : Nat), (0 : Nat)), (245 : Nat), [.inr (.inr (.inl (226 : Nat))), .inl (ck_one 14), .inl (ck_one 5)], ([], [], []), ([], []), [(.inr (some (.inl (ck_one (-1)))), (245 : Nat), ([], [], [((227 : Nat), (222 : Int), (222 : Int), ck_one (-1))])), (.inr (some (.inl ((0 : Int), (7 : Int), []))), (245 : Nat), ([], [], [((227 : Nat), (222 : Int), (222 : Int), ((0 : Int), (7 : Int), []))]))])
set_option maxRecDepth 100000 in
theorem p2_s982_s {X : Int → Int} {LX : Nat} : ck_Ok p2_O X LX 301 p2_s982 := ck_okq (cuts := []) (f := 92) ⟨p2_nmu, ck_E0⟩ (by decide +kernel)
set_option maxRecDepth 100000 in
/-- GlacierMailModel.isWaiting -/
noncomputable def p2_s983 : ck_Sum := (((8 : Nat), (0 : Nat), (0 : Nat)), (245 : Nat), [.inr (.inr (.inl (226 : Nat))), .inl (ck_one 14)], ([], [], zl83), (zl81, []), [(.inr (some (.inl (ck_one 0))), (245 : Nat), ([], [], [])), (.inr (some (.inl (ck_one 1))), (245 : Nat), ([], [], [((226 : Nat), (29 : Int), (29 : Int), ((0 : Int), (299 : Int), [])), ((227 : Nat), (222 : Int), (222 : Int), ck_one (-1)), ((227 : Nat), (217 : Int), (217 : Int), ((0 : Int), (7 : Int), []))]))])
set_option maxRecDepth 100000 in
theorem p2_s983_s {X : Int → Int} {LX : Nat} : ck_Ok p2_O X LX 302 p2_s983 := ck_okq (cuts := []) (f := 114) ⟨p2_nmu, ck_E1 (ck_S1 p2_s981_s ck_S0) (ck_E1 (ck_S1 p2_s982_s ck_S0) (ck_E1 (ck_S1 p2_s381_s ck_S0) (ck_E1 (ck_S1 p2_s190_s ck_S0) ck_E0)))⟩ (by decide +kernel)
set_option maxRecDepth 100000 in
/-- GlacierMailModel.ofLetter -/
noncomputable def p2_s984 : ck_Sum := (((0 : Nat), (0 : Nat), (0 : Nat)), (245 : Nat), [.inr (.inr (.inl (226 : Nat))), .inl (ck_one 14), .inl (ck_one 1)], ([], [], []), ([], []), [(.inr (some (.inl (ck_one (-1)))), (245 : Nat), ([], [], [((227 : Nat), (218 : Int), (218 : Int), ck_one (-1))])), (.inr (some (.inl ((0 : Int), (7 : Int), []))), (245 : Nat), ([], [], [((227 : Nat), (218 : Int), (218 : Int), ((0 : Int), (7 : Int), []))]))])
set_option maxRecDepth 100000 in
theorem p2_s984_s {X : Int → Int} {LX : Nat} : ck_Ok p2_O X LX 301 p2_s984 := ck_okq (cuts := []) (f := 92) ⟨p2_nmu, ck_E0⟩ (by decide +kernel)
set_option maxRecDepth 100000 in
/-- GlacierMailModel.ofLetter -/
noncomputable def p2_s985 : ck_Sum := (((0 : Nat), (0 : Nat), (0 : Nat)), (245 : Nat), [.inr (.inr (.inl (226 : Nat))), .inl (ck_one 14), .inl (ck_one 3)], ([], [], []), ([], []), [(.inr (some (.inl ((0 : Int), (299 : Int), []))), (245 : Nat), ([], [], []))])
set_option maxRecDepth 100000 in
theorem p2_s985_s {X : Int → Int} {LX : Nat} : ck_Ok p2_O X LX 301 p2_s985 := ck_okq (cuts := []) (f := 92) ⟨p2_nmu, ck_E0⟩ (by decide +kernel)
/-- GlacierMailModel.opens -/
noncomputable def p2_s986 : ck_Sum := op_os0 14 (.inl (ck_one (-1))) 0 7 (-1) (-1)
theorem p2_s986_s {X : Int → Int} {LX : Nat} : ck_Ok p2_O X LX 319 p2_s986 := op_none (by decide) (by decide) (by decide)
/-- GlacierMailModel.opens -/
noncomputable def p2_s987 : ck_Sum := op_os 14 0 7
theorem p2_s987_s {X : Int → Int} {LX : Nat} : ck_Ok p2_O X LX 319 p2_s987 := op_open (by decide) (by decide) (by decide +kernel)
set_option maxRecDepth 100000 in
/-- GlacierMailModel.open -/
noncomputable def p2_s988 : ck_Sum := (((9 : Nat), (0 : Nat), (0 : Nat)), (245 : Nat), [.inr (.inr (.inl (226 : Nat))), .inl (ck_one 14)], ([], [], zl176), ([((226 : Nat), (0 : Int), (0 : Int)), ((226 : Nat), (6 : Int), (6 : Int)), ((226 : Nat), (17 : Int), (23 : Int)), ((226 : Nat), (26 : Int), (26 : Int)), ((226 : Nat), (29 : Int), (30 : Int)), ((227 : Nat), (14 : Int), (14 : Int)), ((227 : Nat), (222 : Int), (223 : Int)), ((227 : Nat), (323 : Int), (394 : Int)), ((230 : Nat), (0 : Int), (4739 : Int)), ((233 : Nat), (0 : Int), (399 : Int)), ((235 : Nat), (0 : Int), (29699 : Int)), ((236 : Nat), (0 : Int), (299 : Int)), ((237 : Nat), (0 : Int), (299 : Int))], []), [(.inr (some (.inl (ck_one 0))), (245 : Nat), ([], [], zl177)), (.inr (some (.inl ((-299 : Int), (299 : Int), []))), (245 : Nat), ([], [], [((227 : Nat), (222 : Int), (222 : Int), ((0 : Int), (7 : Int), [])), ((227 : Nat), (218 : Int), (218 : Int), ((0 : Int), (7 : Int), [])), ((226 : Nat), (6 : Int), (6 : Int), ((1 : Int), (12 : Int), [((1000027 : Nat), (0 : Int))])), ((226 : Nat), (29 : Int), (29 : Int), ((0 : Int), (299 : Int), [])), ((227 : Nat), (217 : Int), (217 : Int), ((0 : Int), (7 : Int), [])), ((226 : Nat), (0 : Int), (0 : Int), ck_one 0)]))])
set_option maxRecDepth 100000 in
theorem p2_s988_s {X : Int → Int} {LX : Nat} : ck_Ok p2_O X LX 318 p2_s988 := ck_okq (cuts := []) (f := 142) ⟨p2_nmu, ck_E1 (ck_S1 p2_s979_s ck_S0) (ck_E1 (ck_S1 p2_s241_s (ck_S1 p2_s242_s (ck_S1 p2_s244_s (ck_S1 p2_s243_s ck_S0)))) (ck_E1 (ck_S1 p2_s983_s ck_S0) (ck_E1 (ck_S1 p2_s553_s ck_S0) (ck_E1 (ck_S1 p2_s984_s (ck_S1 p2_s985_s ck_S0)) (ck_E1 (ck_S1 p2_s986_s (ck_S1 p2_s987_s ck_S0)) (ck_E1 (ck_S1 p2_s190_s ck_S0) ck_E0))))))⟩ (by decide +kernel)
set_option maxRecDepth 100000 in
/-- GlacierMailModel.in -/
noncomputable def p2_s989 : ck_Sum := (((0 : Nat), (0 : Nat), (0 : Nat)), (245 : Nat), [.inl (ck_one 15), .inl (ck_one 0), .inl ((-1 : Int), (23 : Int), [])], ([], [], []), ([], []), [(.inr (some (.inl (ck_one 0))), (245 : Nat), ([], [], [])), (.inr (some (.inl (ck_one 1))), (245 : Nat), ([], [], []))])
set_option maxRecDepth 100000 in
theorem p2_s989_s {X : Int → Int} {LX : Nat} : ck_Ok p2_O X LX 286 p2_s989 := ck_okq (cuts := []) (f := 88) ⟨p2_nmu, ck_E0⟩ (by decide +kernel)
set_option maxRecDepth 100000 in
/-- GlacierMailModel.noLetter -/
noncomputable def p2_s990 : ck_Sum := (((1 : Nat), (0 : Nat), (0 : Nat)), (245 : Nat), [.inr (.inr (.inl (226 : Nat))), .inl (ck_one 15)], ([], [], [((227 : Nat), (4 : Int), (4 : Int), ((0 : Int), (24 : Int), [((22 : Nat), (0 : Int))]))]), ([], []), [(.inr (some (.inl (ck_one 1))), (245 : Nat), ([], [], [])), (.inr (some (.inl (ck_one 0))), (245 : Nat), ([], [], []))])
set_option maxRecDepth 100000 in
theorem p2_s990_s {X : Int → Int} {LX : Nat} : ck_Ok p2_O X LX 309 p2_s990 := ck_okq (cuts := []) (f := 92) ⟨p2_nmu, ck_E1 (ck_S1 p2_s176_s ck_S0) (ck_E1 (ck_S1 p2_s989_s ck_S0) ck_E0)⟩ (by decide +kernel)
end
/-! 78r80a11.sf -/
section
/-! EVERY CALL ENDS, whatever was done before (laid by wip/am/p2k.py). -/
set_option maxRecDepth 100000 in
/-- GlacierMailModel.ofLetter -/
noncomputable def p2_s991 : ck_Sum := (((0 : Nat), (0 : Nat), (0 : Nat)), (245 : Nat), [.inr (.inr (.inl (226 : Nat))), .inl (ck_one 15), .inl (ck_one 0)], ([], [], []), ([], []), [(.inr (some (.inl (ck_one (-1)))), (245 : Nat), ([], [], [((227 : Nat), (224 : Int), (224 : Int), ck_one (-1))])), (.inr (some (.inl ((0 : Int), (7 : Int), []))), (245 : Nat), ([], [], [((227 : Nat), (224 : Int), (224 : Int), ((0 : Int), (7 : Int), []))]))])
set_option maxRecDepth 100000 in
theorem p2_s991_s {X : Int → Int} {LX : Nat} : ck_Ok p2_O X LX 301 p2_s991 := ck_okq (cuts := []) (f := 92) ⟨p2_nmu, ck_E0⟩ (by decide +kernel)
set_option maxRecDepth 100000 in
/-- GlacierMailModel.isRock -/
noncomputable def p2_s992 : ck_Sum := (((1 : Nat), (0 : Nat), (0 : Nat)), (245 : Nat), [.inr (.inr (.inl (226 : Nat))), .inl (ck_one 15)], ([], [], []), ([], []), [(.inr (some (.inl (ck_one 1))), (245 : Nat), ([], [], [((227 : Nat), (224 : Int), (224 : Int), ck_one (-1))])), (.inr (some (.inl (ck_one 0))), (245 : Nat), ([], [], [((227 : Nat), (224 : Int), (224 : Int), ((0 : Int), (7 : Int), []))]))])
set_option maxRecDepth 100000 in
theorem p2_s992_s {X : Int → Int} {LX : Nat} : ck_Ok p2_O X LX 303 p2_s992 := ck_okq (cuts := []) (f := 86) ⟨p2_nmu, ck_E1 (ck_S1 p2_s991_s ck_S0) ck_E0⟩ (by decide +kernel)
set_option maxRecDepth 100000 in
/-- GlacierMailModel.ofLetter -/
noncomputable def p2_s993 : ck_Sum := (((0 : Nat), (0 : Nat), (0 : Nat)), (245 : Nat), [.inr (.inr (.inl (226 : Nat))), .inl (ck_one 15), .inl (ck_one 5)], ([], [], []), ([], []), [(.inr (some (.inl (ck_one (-1)))), (245 : Nat), ([], [], [((227 : Nat), (229 : Int), (229 : Int), ck_one (-1))])), (.inr (some (.inl ((0 : Int), (7 : Int), []))), (245 : Nat), ([], [], [((227 : Nat), (229 : Int), (229 : Int), ((0 : Int), (7 : Int), []))]))])
set_option maxRecDepth 100000 in
theorem p2_s993_s {X : Int → Int} {LX : Nat} : ck_Ok p2_O X LX 301 p2_s993 := ck_okq (cuts := []) (f := 92) ⟨p2_nmu, ck_E0⟩ (by decide +kernel)
set_option maxRecDepth 100000 in
/-- GlacierMailModel.isWaiting -/
noncomputable def p2_s994 : ck_Sum := (((8 : Nat), (0 : Nat), (0 : Nat)), (245 : Nat), [.inr (.inr (.inl (226 : Nat))), .inl (ck_one 15)], ([], [], zl83), (zl81, []), [(.inr (some (.inl (ck_one 0))), (245 : Nat), ([], [], [])), (.inr (some (.inl (ck_one 1))), (245 : Nat), ([], [], [((226 : Nat), (29 : Int), (29 : Int), ((0 : Int), (299 : Int), [])), ((227 : Nat), (229 : Int), (229 : Int), ck_one (-1)), ((227 : Nat), (224 : Int), (224 : Int), ((0 : Int), (7 : Int), []))]))])
set_option maxRecDepth 100000 in
theorem p2_s994_s {X : Int → Int} {LX : Nat} : ck_Ok p2_O X LX 302 p2_s994 := ck_okq (cuts := []) (f := 114) ⟨p2_nmu, ck_E1 (ck_S1 p2_s992_s ck_S0) (ck_E1 (ck_S1 p2_s993_s ck_S0) (ck_E1 (ck_S1 p2_s381_s ck_S0) (ck_E1 (ck_S1 p2_s190_s ck_S0) ck_E0)))⟩ (by decide +kernel)
set_option maxRecDepth 100000 in
/-- GlacierMailModel.ofLetter -/
noncomputable def p2_s995 : ck_Sum := (((0 : Nat), (0 : Nat), (0 : Nat)), (245 : Nat), [.inr (.inr (.inl (226 : Nat))), .inl (ck_one 15), .inl (ck_one 1)], ([], [], []), ([], []), [(.inr (some (.inl (ck_one (-1)))), (245 : Nat), ([], [], [((227 : Nat), (225 : Int), (225 : Int), ck_one (-1))])), (.inr (some (.inl ((0 : Int), (7 : Int), []))), (245 : Nat), ([], [], [((227 : Nat), (225 : Int), (225 : Int), ((0 : Int), (7 : Int), []))]))])
set_option maxRecDepth 100000 in
theorem p2_s995_s {X : Int → Int} {LX : Nat} : ck_Ok p2_O X LX 301 p2_s995 := ck_okq (cuts := []) (f := 92) ⟨p2_nmu, ck_E0⟩ (by decide +kernel)
set_option maxRecDepth 100000 in
/-- GlacierMailModel.ofLetter -/
noncomputable def p2_s996 : ck_Sum := (((0 : Nat), (0 : Nat), (0 : Nat)), (245 : Nat), [.inr (.inr (.inl (226 : Nat))), .inl (ck_one 15), .inl (ck_one 3)], ([], [], []), ([], []), [(.inr (some (.inl ((0 : Int), (299 : Int), []))), (245 : Nat), ([], [], []))])
set_option maxRecDepth 100000 in
theorem p2_s996_s {X : Int → Int} {LX : Nat} : ck_Ok p2_O X LX 301 p2_s996 := ck_okq (cuts := []) (f := 92) ⟨p2_nmu, ck_E0⟩ (by decide +kernel)
/-- GlacierMailModel.opens -/
noncomputable def p2_s997 : ck_Sum := op_os0 15 (.inl (ck_one (-1))) 0 7 (-1) (-1)
theorem p2_s997_s {X : Int → Int} {LX : Nat} : ck_Ok p2_O X LX 319 p2_s997 := op_none (by decide) (by decide) (by decide)
/-- GlacierMailModel.opens -/
noncomputable def p2_s998 : ck_Sum := op_os 15 0 7
theorem p2_s998_s {X : Int → Int} {LX : Nat} : ck_Ok p2_O X LX 319 p2_s998 := op_open (by decide) (by decide) (by decide +kernel)
set_option maxRecDepth 100000 in
/-- GlacierMailModel.open -/
noncomputable def p2_s999 : ck_Sum := (((9 : Nat), (0 : Nat), (0 : Nat)), (245 : Nat), [.inr (.inr (.inl (226 : Nat))), .inl (ck_one 15)], ([], [], zl176), ([((226 : Nat), (0 : Int), (0 : Int)), ((226 : Nat), (6 : Int), (6 : Int)), ((226 : Nat), (17 : Int), (23 : Int)), ((226 : Nat), (26 : Int), (26 : Int)), ((226 : Nat), (29 : Int), (30 : Int)), ((227 : Nat), (14 : Int), (14 : Int)), ((227 : Nat), (229 : Int), (230 : Int)), ((227 : Nat), (323 : Int), (394 : Int)), ((230 : Nat), (0 : Int), (4739 : Int)), ((233 : Nat), (0 : Int), (399 : Int)), ((235 : Nat), (0 : Int), (29699 : Int)), ((236 : Nat), (0 : Int), (299 : Int)), ((237 : Nat), (0 : Int), (299 : Int))], []), [(.inr (some (.inl (ck_one 0))), (245 : Nat), ([], [], zl177)), (.inr (some (.inl ((-299 : Int), (299 : Int), []))), (245 : Nat), ([], [], [((227 : Nat), (229 : Int), (229 : Int), ((0 : Int), (7 : Int), [])), ((227 : Nat), (225 : Int), (225 : Int), ((0 : Int), (7 : Int), [])), ((226 : Nat), (6 : Int), (6 : Int), ((1 : Int), (12 : Int), [((1000027 : Nat), (0 : Int))])), ((226 : Nat), (29 : Int), (29 : Int), ((0 : Int), (299 : Int), [])), ((227 : Nat), (224 : Int), (224 : Int), ((0 : Int), (7 : Int), [])), ((226 : Nat), (0 : Int), (0 : Int), ck_one 0)]))])
set_option maxRecDepth 100000 in
theorem p2_s999_s {X : Int → Int} {LX : Nat} : ck_Ok p2_O X LX 318 p2_s999 := ck_okq (cuts := []) (f := 142) ⟨p2_nmu, ck_E1 (ck_S1 p2_s990_s ck_S0) (ck_E1 (ck_S1 p2_s241_s (ck_S1 p2_s242_s (ck_S1 p2_s244_s (ck_S1 p2_s243_s ck_S0)))) (ck_E1 (ck_S1 p2_s994_s ck_S0) (ck_E1 (ck_S1 p2_s553_s ck_S0) (ck_E1 (ck_S1 p2_s995_s (ck_S1 p2_s996_s ck_S0)) (ck_E1 (ck_S1 p2_s997_s (ck_S1 p2_s998_s ck_S0)) (ck_E1 (ck_S1 p2_s190_s ck_S0) ck_E0))))))⟩ (by decide +kernel)
set_option maxRecDepth 100000 in
/-- GlacierMailModel.in -/
noncomputable def p2_s1000 : ck_Sum := (((0 : Nat), (0 : Nat), (0 : Nat)), (245 : Nat), [.inl (ck_one 16), .inl (ck_one 0), .inl ((-1 : Int), (23 : Int), [])], ([], [], []), ([], []), [(.inr (some (.inl (ck_one 0))), (245 : Nat), ([], [], [])), (.inr (some (.inl (ck_one 1))), (245 : Nat), ([], [], []))])
set_option maxRecDepth 100000 in
theorem p2_s1000_s {X : Int → Int} {LX : Nat} : ck_Ok p2_O X LX 286 p2_s1000 := ck_okq (cuts := []) (f := 88) ⟨p2_nmu, ck_E0⟩ (by decide +kernel)
set_option maxRecDepth 100000 in
/-- GlacierMailModel.noLetter -/
noncomputable def p2_s1001 : ck_Sum := (((1 : Nat), (0 : Nat), (0 : Nat)), (245 : Nat), [.inr (.inr (.inl (226 : Nat))), .inl (ck_one 16)], ([], [], [((227 : Nat), (4 : Int), (4 : Int), ((0 : Int), (24 : Int), [((22 : Nat), (0 : Int))]))]), ([], []), [(.inr (some (.inl (ck_one 1))), (245 : Nat), ([], [], [])), (.inr (some (.inl (ck_one 0))), (245 : Nat), ([], [], []))])
set_option maxRecDepth 100000 in
theorem p2_s1001_s {X : Int → Int} {LX : Nat} : ck_Ok p2_O X LX 309 p2_s1001 := ck_okq (cuts := []) (f := 92) ⟨p2_nmu, ck_E1 (ck_S1 p2_s176_s ck_S0) (ck_E1 (ck_S1 p2_s1000_s ck_S0) ck_E0)⟩ (by decide +kernel)
set_option maxRecDepth 100000 in
/-- GlacierMailModel.ofLetter -/
noncomputable def p2_s1002 : ck_Sum := (((0 : Nat), (0 : Nat), (0 : Nat)), (245 : Nat), [.inr (.inr (.inl (226 : Nat))), .inl (ck_one 16), .inl (ck_one 0)], ([], [], []), ([], []), [(.inr (some (.inl (ck_one (-1)))), (245 : Nat), ([], [], [((227 : Nat), (231 : Int), (231 : Int), ck_one (-1))])), (.inr (some (.inl ((0 : Int), (7 : Int), []))), (245 : Nat), ([], [], [((227 : Nat), (231 : Int), (231 : Int), ((0 : Int), (7 : Int), []))]))])
set_option maxRecDepth 100000 in
theorem p2_s1002_s {X : Int → Int} {LX : Nat} : ck_Ok p2_O X LX 301 p2_s1002 := ck_okq (cuts := []) (f := 92) ⟨p2_nmu, ck_E0⟩ (by decide +kernel)
set_option maxRecDepth 100000 in
/-- GlacierMailModel.isRock -/
noncomputable def p2_s1003 : ck_Sum := (((1 : Nat), (0 : Nat), (0 : Nat)), (245 : Nat), [.inr (.inr (.inl (226 : Nat))), .inl (ck_one 16)], ([], [], []), ([], []), [(.inr (some (.inl (ck_one 1))), (245 : Nat), ([], [], [((227 : Nat), (231 : Int), (231 : Int), ck_one (-1))])), (.inr (some (.inl (ck_one 0))), (245 : Nat), ([], [], [((227 : Nat), (231 : Int), (231 : Int), ((0 : Int), (7 : Int), []))]))])
set_option maxRecDepth 100000 in
theorem p2_s1003_s {X : Int → Int} {LX : Nat} : ck_Ok p2_O X LX 303 p2_s1003 := ck_okq (cuts := []) (f := 86) ⟨p2_nmu, ck_E1 (ck_S1 p2_s1002_s ck_S0) ck_E0⟩ (by decide +kernel)
set_option maxRecDepth 100000 in
/-- GlacierMailModel.ofLetter -/
noncomputable def p2_s1004 : ck_Sum := (((0 : Nat), (0 : Nat), (0 : Nat)), (245 : Nat), [.inr (.inr (.inl (226 : Nat))), .inl (ck_one 16), .inl (ck_one 5)], ([], [], []), ([], []), [(.inr (some (.inl (ck_one (-1)))), (245 : Nat), ([], [], [((227 : Nat), (236 : Int), (236 : Int), ck_one (-1))])), (.inr (some (.inl ((0 : Int), (7 : Int), []))), (245 : Nat), ([], [], [((227 : Nat), (236 : Int), (236 : Int), ((0 : Int), (7 : Int), []))]))])
set_option maxRecDepth 100000 in
theorem p2_s1004_s {X : Int → Int} {LX : Nat} : ck_Ok p2_O X LX 301 p2_s1004 := ck_okq (cuts := []) (f := 92) ⟨p2_nmu, ck_E0⟩ (by decide +kernel)
set_option maxRecDepth 100000 in
/-- GlacierMailModel.isWaiting -/
noncomputable def p2_s1005 : ck_Sum := (((8 : Nat), (0 : Nat), (0 : Nat)), (245 : Nat), [.inr (.inr (.inl (226 : Nat))), .inl (ck_one 16)], ([], [], zl83), (zl81, []), [(.inr (some (.inl (ck_one 0))), (245 : Nat), ([], [], [])), (.inr (some (.inl (ck_one 1))), (245 : Nat), ([], [], [((226 : Nat), (29 : Int), (29 : Int), ((0 : Int), (299 : Int), [])), ((227 : Nat), (236 : Int), (236 : Int), ck_one (-1)), ((227 : Nat), (231 : Int), (231 : Int), ((0 : Int), (7 : Int), []))]))])
set_option maxRecDepth 100000 in
theorem p2_s1005_s {X : Int → Int} {LX : Nat} : ck_Ok p2_O X LX 302 p2_s1005 := ck_okq (cuts := []) (f := 114) ⟨p2_nmu, ck_E1 (ck_S1 p2_s1003_s ck_S0) (ck_E1 (ck_S1 p2_s1004_s ck_S0) (ck_E1 (ck_S1 p2_s381_s ck_S0) (ck_E1 (ck_S1 p2_s190_s ck_S0) ck_E0)))⟩ (by decide +kernel)
set_option maxRecDepth 100000 in
/-- GlacierMailModel.ofLetter -/
noncomputable def p2_s1006 : ck_Sum := (((0 : Nat), (0 : Nat), (0 : Nat)), (245 : Nat), [.inr (.inr (.inl (226 : Nat))), .inl (ck_one 16), .inl (ck_one 1)], ([], [], []), ([], []), [(.inr (some (.inl (ck_one (-1)))), (245 : Nat), ([], [], [((227 : Nat), (232 : Int), (232 : Int), ck_one (-1))])), (.inr (some (.inl ((0 : Int), (7 : Int), []))), (245 : Nat), ([], [], [((227 : Nat), (232 : Int), (232 : Int), ((0 : Int), (7 : Int), []))]))])
set_option maxRecDepth 100000 in
theorem p2_s1006_s {X : Int → Int} {LX : Nat} : ck_Ok p2_O X LX 301 p2_s1006 := ck_okq (cuts := []) (f := 92) ⟨p2_nmu, ck_E0⟩ (by decide +kernel)
set_option maxRecDepth 100000 in
/-- GlacierMailModel.ofLetter -/
noncomputable def p2_s1007 : ck_Sum := (((0 : Nat), (0 : Nat), (0 : Nat)), (245 : Nat), [.inr (.inr (.inl (226 : Nat))), .inl (ck_one 16), .inl (ck_one 3)], ([], [], []), ([], []), [(.inr (some (.inl ((0 : Int), (299 : Int), []))), (245 : Nat), ([], [], []))])
set_option maxRecDepth 100000 in
theorem p2_s1007_s {X : Int → Int} {LX : Nat} : ck_Ok p2_O X LX 301 p2_s1007 := ck_okq (cuts := []) (f := 92) ⟨p2_nmu, ck_E0⟩ (by decide +kernel)
/-- GlacierMailModel.opens -/
noncomputable def p2_s1008 : ck_Sum := op_os0 16 (.inl (ck_one (-1))) 0 7 (-1) (-1)
theorem p2_s1008_s {X : Int → Int} {LX : Nat} : ck_Ok p2_O X LX 319 p2_s1008 := op_none (by decide) (by decide) (by decide)
/-- GlacierMailModel.opens -/
noncomputable def p2_s1009 : ck_Sum := op_os 16 0 7
theorem p2_s1009_s {X : Int → Int} {LX : Nat} : ck_Ok p2_O X LX 319 p2_s1009 := op_open (by decide) (by decide) (by decide +kernel)
set_option maxRecDepth 100000 in
/-- GlacierMailModel.open -/
noncomputable def p2_s1010 : ck_Sum := (((9 : Nat), (0 : Nat), (0 : Nat)), (245 : Nat), [.inr (.inr (.inl (226 : Nat))), .inl (ck_one 16)], ([], [], zl176), ([((226 : Nat), (0 : Int), (0 : Int)), ((226 : Nat), (6 : Int), (6 : Int)), ((226 : Nat), (17 : Int), (23 : Int)), ((226 : Nat), (26 : Int), (26 : Int)), ((226 : Nat), (29 : Int), (30 : Int)), ((227 : Nat), (14 : Int), (14 : Int)), ((227 : Nat), (236 : Int), (237 : Int)), ((227 : Nat), (323 : Int), (394 : Int)), ((230 : Nat), (0 : Int), (4739 : Int)), ((233 : Nat), (0 : Int), (399 : Int)), ((235 : Nat), (0 : Int), (29699 : Int)), ((236 : Nat), (0 : Int), (299 : Int)), ((237 : Nat), (0 : Int), (299 : Int))], []), [(.inr (some (.inl (ck_one 0))), (245 : Nat), ([], [], zl177)), (.inr (some (.inl ((-299 : Int), (299 : Int), []))), (245 : Nat), ([], [], [((227 : Nat), (236 : Int), (236 : Int), ((0 : Int), (7 : Int), [])), ((227 : Nat), (232 : Int), (232 : Int), ((0 : Int), (7 : Int), [])), ((226 : Nat), (6 : Int), (6 : Int), ((1 : Int), (12 : Int), [((1000027 : Nat), (0 : Int))])), ((226 : Nat), (29 : Int), (29 : Int), ((0 : Int), (299 : Int), [])), ((227 : Nat), (231 : Int), (231 : Int), ((0 : Int), (7 : Int), [])), ((226 : Nat), (0 : Int), (0 : Int), ck_one 0)]))])
set_option maxRecDepth 100000 in
theorem p2_s1010_s {X : Int → Int} {LX : Nat} : ck_Ok p2_O X LX 318 p2_s1010 := ck_okq (cuts := []) (f := 142) ⟨p2_nmu, ck_E1 (ck_S1 p2_s1001_s ck_S0) (ck_E1 (ck_S1 p2_s241_s (ck_S1 p2_s242_s (ck_S1 p2_s244_s (ck_S1 p2_s243_s ck_S0)))) (ck_E1 (ck_S1 p2_s1005_s ck_S0) (ck_E1 (ck_S1 p2_s553_s ck_S0) (ck_E1 (ck_S1 p2_s1006_s (ck_S1 p2_s1007_s ck_S0)) (ck_E1 (ck_S1 p2_s1008_s (ck_S1 p2_s1009_s ck_S0)) (ck_E1 (ck_S1 p2_s190_s ck_S0) ck_E0))))))⟩ (by decide +kernel)
set_option maxRecDepth 100000 in
/-- GlacierMailModel.in -/
noncomputable def p2_s1011 : ck_Sum := (((0 : Nat), (0 : Nat), (0 : Nat)), (245 : Nat), [.inl (ck_one 17), .inl (ck_one 0), .inl ((-1 : Int), (23 : Int), [])], ([], [], []), ([], []), [(.inr (some (.inl (ck_one 0))), (245 : Nat), ([], [], [])), (.inr (some (.inl (ck_one 1))), (245 : Nat), ([], [], []))])
set_option maxRecDepth 100000 in
theorem p2_s1011_s {X : Int → Int} {LX : Nat} : ck_Ok p2_O X LX 286 p2_s1011 := ck_okq (cuts := []) (f := 88) ⟨p2_nmu, ck_E0⟩ (by decide +kernel)
set_option maxRecDepth 100000 in
/-- GlacierMailModel.noLetter -/
noncomputable def p2_s1012 : ck_Sum := (((1 : Nat), (0 : Nat), (0 : Nat)), (245 : Nat), [.inr (.inr (.inl (226 : Nat))), .inl (ck_one 17)], ([], [], [((227 : Nat), (4 : Int), (4 : Int), ((0 : Int), (24 : Int), [((22 : Nat), (0 : Int))]))]), ([], []), [(.inr (some (.inl (ck_one 1))), (245 : Nat), ([], [], [])), (.inr (some (.inl (ck_one 0))), (245 : Nat), ([], [], []))])
set_option maxRecDepth 100000 in
theorem p2_s1012_s {X : Int → Int} {LX : Nat} : ck_Ok p2_O X LX 309 p2_s1012 := ck_okq (cuts := []) (f := 92) ⟨p2_nmu, ck_E1 (ck_S1 p2_s176_s ck_S0) (ck_E1 (ck_S1 p2_s1011_s ck_S0) ck_E0)⟩ (by decide +kernel)
set_option maxRecDepth 100000 in
/-- GlacierMailModel.ofLetter -/
noncomputable def p2_s1013 : ck_Sum := (((0 : Nat), (0 : Nat), (0 : Nat)), (245 : Nat), [.inr (.inr (.inl (226 : Nat))), .inl (ck_one 17), .inl (ck_one 0)], ([], [], []), ([], []), [(.inr (some (.inl (ck_one (-1)))), (245 : Nat), ([], [], [((227 : Nat), (238 : Int), (238 : Int), ck_one (-1))])), (.inr (some (.inl ((0 : Int), (7 : Int), []))), (245 : Nat), ([], [], [((227 : Nat), (238 : Int), (238 : Int), ((0 : Int), (7 : Int), []))]))])
set_option maxRecDepth 100000 in
theorem p2_s1013_s {X : Int → Int} {LX : Nat} : ck_Ok p2_O X LX 301 p2_s1013 := ck_okq (cuts := []) (f := 92) ⟨p2_nmu, ck_E0⟩ (by decide +kernel)
set_option maxRecDepth 100000 in
/-- GlacierMailModel.isRock -/
noncomputable def p2_s1014 : ck_Sum := (((1 : Nat), (0 : Nat), (0 : Nat)), (245 : Nat), [.inr (.inr (.inl (226 : Nat))), .inl (ck_one 17)], ([], [], []), ([], []), [(.inr (some (.inl (ck_one 1))), (245 : Nat), ([], [], [((227 : Nat), (238 : Int), (238 : Int), ck_one (-1))])), (.inr (some (.inl (ck_one 0))), (245 : Nat), ([], [], [((227 : Nat), (238 : Int), (238 : Int), ((0 : Int), (7 : Int), []))]))])
set_option maxRecDepth 100000 in
theorem p2_s1014_s {X : Int → Int} {LX : Nat} : ck_Ok p2_O X LX 303 p2_s1014 := ck_okq (cuts := []) (f := 86) ⟨p2_nmu, ck_E1 (ck_S1 p2_s1013_s ck_S0) ck_E0⟩ (by decide +kernel)
set_option maxRecDepth 100000 in
/-- GlacierMailModel.ofLetter -/
noncomputable def p2_s1015 : ck_Sum := (((0 : Nat), (0 : Nat), (0 : Nat)), (245 : Nat), [.inr (.inr (.inl (226 : Nat))), .inl (ck_one 17), .inl (ck_one 5)], ([], [], []), ([], []), [(.inr (some (.inl (ck_one (-1)))), (245 : Nat), ([], [], [((227 : Nat), (243 : Int), (243 : Int), ck_one (-1))])), (.inr (some (.inl ((0 : Int), (7 : Int), []))), (245 : Nat), ([], [], [((227 : Nat), (243 : Int), (243 : Int), ((0 : Int), (7 : Int), []))]))])
set_option maxRecDepth 100000 in
theorem p2_s1015_s {X : Int → Int} {LX : Nat} : ck_Ok p2_O X LX 301 p2_s1015 := ck_okq (cuts := []) (f := 92) ⟨p2_nmu, ck_E0⟩ (by decide +kernel)
set_option maxRecDepth 100000 in
/-- GlacierMailModel.isWaiting -/
noncomputable def p2_s1016 : ck_Sum := (((8 : Nat), (0 : Nat), (0 : Nat)), (245 : Nat), [.inr (.inr (.inl (226 : Nat))), .inl (ck_one 17)], ([], [], zl83), (zl81, []), [(.inr (some (.inl (ck_one 0))), (245 : Nat), ([], [], [])), (.inr (some (.inl (ck_one 1))), (245 : Nat), ([], [], [((226 : Nat), (29 : Int), (29 : Int), ((0 : Int), (299 : Int), [])), ((227 : Nat), (243 : Int), (243 : Int), ck_one (-1)), ((227 : Nat), (238 : Int), (238 : Int), ((0 : Int), (7 : Int), []))]))])
set_option maxRecDepth 100000 in
theorem p2_s1016_s {X : Int → Int} {LX : Nat} : ck_Ok p2_O X LX 302 p2_s1016 := ck_okq (cuts := []) (f := 114) ⟨p2_nmu, ck_E1 (ck_S1 p2_s1014_s ck_S0) (ck_E1 (ck_S1 p2_s1015_s ck_S0) (ck_E1 (ck_S1 p2_s381_s ck_S0) (ck_E1 (ck_S1 p2_s190_s ck_S0) ck_E0)))⟩ (by decide +kernel)
set_option maxRecDepth 100000 in
/-- GlacierMailModel.ofLetter -/
noncomputable def p2_s1017 : ck_Sum := (((0 : Nat), (0 : Nat), (0 : Nat)), (245 : Nat), [.inr (.inr (.inl (226 : Nat))), .inl (ck_one 17), .inl (ck_one 1)], ([], [], []), ([], []), [(.inr (some (.inl (ck_one (-1)))), (245 : Nat), ([], [], [((227 : Nat), (239 : Int), (239 : Int), ck_one (-1))])), (.inr (some (.inl ((0 : Int), (7 : Int), []))), (245 : Nat), ([], [], [((227 : Nat), (239 : Int), (239 : Int), ((0 : Int), (7 : Int), []))]))])
set_option maxRecDepth 100000 in
theorem p2_s1017_s {X : Int → Int} {LX : Nat} : ck_Ok p2_O X LX 301 p2_s1017 := ck_okq (cuts := []) (f := 92) ⟨p2_nmu, ck_E0⟩ (by decide +kernel)
set_option maxRecDepth 100000 in
/-- GlacierMailModel.ofLetter -/
noncomputable def p2_s1018 : ck_Sum := (((0 : Nat), (0 : Nat), (0 : Nat)), (245 : Nat), [.inr (.inr (.inl (226 : Nat))), .inl (ck_one 17), .inl (ck_one 3)], ([], [], []), ([], []), [(.inr (some (.inl ((0 : Int), (299 : Int), []))), (245 : Nat), ([], [], []))])
set_option maxRecDepth 100000 in
theorem p2_s1018_s {X : Int → Int} {LX : Nat} : ck_Ok p2_O X LX 301 p2_s1018 := ck_okq (cuts := []) (f := 92) ⟨p2_nmu, ck_E0⟩ (by decide +kernel)
/-- GlacierMailModel.opens -/
noncomputable def p2_s1019 : ck_Sum := op_os0 17 (.inl (ck_one (-1))) 0 7 (-1) (-1)
theorem p2_s1019_s {X : Int → Int} {LX : Nat} : ck_Ok p2_O X LX 319 p2_s1019 := op_none (by decide) (by decide) (by decide)
/-- GlacierMailModel.opens -/
noncomputable def p2_s1020 : ck_Sum := op_os 17 0 7
theorem p2_s1020_s {X : Int → Int} {LX : Nat} : ck_Ok p2_O X LX 319 p2_s1020 := op_open (by decide) (by decide) (by decide +kernel)
set_option maxRecDepth 100000 in
/-- GlacierMailModel.open -/
noncomputable def p2_s1021 : ck_Sum := (((9 : Nat), (0 : Nat), (0 : Nat)), (245 : Nat), [.inr (.inr (.inl (226 : Nat))), .inl (ck_one 17)], ([], [], zl176), ([((226 : Nat), (0 : Int), (0 : Int)), ((226 : Nat), (6 : Int), (6 : Int)), ((226 : Nat), (17 : Int), (23 : Int)), ((226 : Nat), (26 : Int), (26 : Int)), ((226 : Nat), (29 : Int), (30 : Int)), ((227 : Nat), (14 : Int), (14 : Int)), ((227 : Nat), (243 : Int), (244 : Int)), ((227 : Nat), (323 : Int), (394 : Int)), ((230 : Nat), (0 : Int), (4739 : Int)), ((233 : Nat), (0 : Int), (399 : Int)), ((235 : Nat), (0 : Int), (29699 : Int)), ((236 : Nat), (0 : Int), (299 : Int)), ((237 : Nat), (0 : Int), (299 : Int))], []), [(.inr (some (.inl (ck_one 0))), (245 : Nat), ([], [], zl177)), (.inr (some (.inl ((-299 : Int), (299 : Int), []))), (245 : Nat), ([], [], [((227 : Nat), (243 : Int), (243 : Int), ((0 : Int), (7 : Int), [])), ((227 : Nat), (239 : Int), (239 : Int), ((0 : Int), (7 : Int), [])), ((226 : Nat), (6 : Int), (6 : Int), ((1 : Int), (12 : Int), [((1000027 : Nat), (0 : Int))])), ((226 : Nat), (29 : Int), (29 : Int), ((0 : Int), (299 : Int), [])), ((227 : Nat), (238 : Int), (238 : Int), ((0 : Int), (7 : Int), [])), ((226 : Nat), (0 : Int), (0 : Int), ck_one 0)]))])
set_option maxRecDepth 100000 in
theorem p2_s1021_s {X : Int → Int} {LX : Nat} : ck_Ok p2_O X LX 318 p2_s1021 := ck_okq (cuts := []) (f := 142) ⟨p2_nmu, ck_E1 (ck_S1 p2_s1012_s ck_S0) (ck_E1 (ck_S1 p2_s241_s (ck_S1 p2_s242_s (ck_S1 p2_s244_s (ck_S1 p2_s243_s ck_S0)))) (ck_E1 (ck_S1 p2_s1016_s ck_S0) (ck_E1 (ck_S1 p2_s553_s ck_S0) (ck_E1 (ck_S1 p2_s1017_s (ck_S1 p2_s1018_s ck_S0)) (ck_E1 (ck_S1 p2_s1019_s (ck_S1 p2_s1020_s ck_S0)) (ck_E1 (ck_S1 p2_s190_s ck_S0) ck_E0))))))⟩ (by decide +kernel)
set_option maxRecDepth 100000 in
/-- GlacierMailModel.in -/
noncomputable def p2_s1022 : ck_Sum := (((0 : Nat), (0 : Nat), (0 : Nat)), (245 : Nat), [.inl (ck_one 18), .inl (ck_one 0), .inl ((-1 : Int), (23 : Int), [])], ([], [], []), ([], []), [(.inr (some (.inl (ck_one 0))), (245 : Nat), ([], [], [])), (.inr (some (.inl (ck_one 1))), (245 : Nat), ([], [], []))])
set_option maxRecDepth 100000 in
theorem p2_s1022_s {X : Int → Int} {LX : Nat} : ck_Ok p2_O X LX 286 p2_s1022 := ck_okq (cuts := []) (f := 88) ⟨p2_nmu, ck_E0⟩ (by decide +kernel)
set_option maxRecDepth 100000 in
/-- GlacierMailModel.noLetter -/
noncomputable def p2_s1023 : ck_Sum := (((1 : Nat), (0 : Nat), (0 : Nat)), (245 : Nat), [.inr (.inr (.inl (226 : Nat))), .inl (ck_one 18)], ([], [], [((227 : Nat), (4 : Int), (4 : Int), ((0 : Int), (24 : Int), [((22 : Nat), (0 : Int))]))]), ([], []), [(.inr (some (.inl (ck_one 1))), (245 : Nat), ([], [], [])), (.inr (some (.inl (ck_one 0))), (245 : Nat), ([], [], []))])
set_option maxRecDepth 100000 in
theorem p2_s1023_s {X : Int → Int} {LX : Nat} : ck_Ok p2_O X LX 309 p2_s1023 := ck_okq (cuts := []) (f := 92) ⟨p2_nmu, ck_E1 (ck_S1 p2_s176_s ck_S0) (ck_E1 (ck_S1 p2_s1022_s ck_S0) ck_E0)⟩ (by decide +kernel)
set_option maxRecDepth 100000 in
/-- GlacierMailModel.ofLetter -/
noncomputable def p2_s1024 : ck_Sum := (((0 : Nat), (0 : Nat), (0 : Nat)), (245 : Nat), [.inr (.inr (.inl (226 : Nat))), .inl (ck_one 18), .inl (ck_one 0)], ([], [], []), ([], []), [(.inr (some (.inl (ck_one (-1)))), (245 : Nat), ([], [], [((227 : Nat), (245 : Int), (245 : Int), ck_one (-1))])), (.inr (some (.inl ((0 : Int), (7 : Int), []))), (245 : Nat), ([], [], [((227 : Nat), (245 : Int), (245 : Int), ((0 : Int), (7 : Int), []))]))])
set_option maxRecDepth 100000 in
theorem p2_s1024_s {X : Int → Int} {LX : Nat} : ck_Ok p2_O X LX 301 p2_s1024 := ck_okq (cuts := []) (f := 92) ⟨p2_nmu, ck_E0⟩ (by decide +kernel)
set_option maxRecDepth 100000 in
/-- GlacierMailModel.isRock -/
noncomputable def p2_s1025 : ck_Sum := (((1 : Nat), (0 : Nat), (0 : Nat)), (245 : Nat), [.inr (.inr (.inl (226 : Nat))), .inl (ck_one 18)], ([], [], []), ([], []), [(.inr (some (.inl (ck_one 1))), (245 : Nat), ([], [], [((227 : Nat), (245 : Int), (245 : Int), ck_one (-1))])), (.inr (some (.inl (ck_one 0))), (245 : Nat), ([], [], [((227 : Nat), (245 : Int), (245 : Int), ((0 : Int), (7 : Int), []))]))])
set_option maxRecDepth 100000 in
theorem p2_s1025_s {X : Int → Int} {LX : Nat} : ck_Ok p2_O X LX 303 p2_s1025 := ck_okq (cuts := []) (f := 86) ⟨p2_nmu, ck_E1 (ck_S1 p2_s1024_s ck_S0) ck_E0⟩ (by decide +kernel)
set_option maxRecDepth 100000 in
/-- GlacierMailModel.ofLetter -/
noncomputable def p2_s1026 : ck_Sum := (((0 : Nat), (0 : Nat), (0 : Nat)), (245 : Nat), [.inr (.inr (.inl (226 : Nat))), .inl (ck_one 18), .inl (ck_one 5)], ([], [], []), ([], []), [(.inr (some (.inl (ck_one (-1)))), (245 : Nat), ([], [], [((227 : Nat), (250 : Int), (250 : Int), ck_one (-1))])), (.inr (some (.inl ((0 : Int), (7 : Int), []))), (245 : Nat), ([], [], [((227 : Nat), (250 : Int), (250 : Int), ((0 : Int), (7 : Int), []))]))])
set_option maxRecDepth 100000 in
theorem p2_s1026_s {X : Int → Int} {LX : Nat} : ck_Ok p2_O X LX 301 p2_s1026 := ck_okq (cuts := []) (f := 92) ⟨p2_nmu, ck_E0⟩ (by decide +kernel)
set_option maxRecDepth 100000 in
/-- GlacierMailModel.isWaiting -/
noncomputable def p2_s1027 : ck_Sum := (((8 : Nat), (0 : Nat), (0 : Nat)), (245 : Nat), [.inr (.inr (.inl (226 : Nat))), .inl (ck_one 18)], ([], [], zl83), (zl81, []), [(.inr (some (.inl (ck_one 0))), (245 : Nat), ([], [], [])), (.inr (some (.inl (ck_one 1))), (245 : Nat), ([], [], [((226 : Nat), (29 : Int), (29 : Int), ((0 : Int), (299 : Int), [])), ((227 : Nat), (250 : Int), (250 : Int), ck_one (-1)), ((227 : Nat), (245 : Int), (245 : Int), ((0 : Int), (7 : Int), []))]))])
set_option maxRecDepth 100000 in
theorem p2_s1027_s {X : Int → Int} {LX : Nat} : ck_Ok p2_O X LX 302 p2_s1027 := ck_okq (cuts := []) (f := 114) ⟨p2_nmu, ck_E1 (ck_S1 p2_s1025_s ck_S0) (ck_E1 (ck_S1 p2_s1026_s ck_S0) (ck_E1 (ck_S1 p2_s381_s ck_S0) (ck_E1 (ck_S1 p2_s190_s ck_S0) ck_E0)))⟩ (by decide +kernel)
set_option maxRecDepth 100000 in
/-- GlacierMailModel.ofLetter -/
noncomputable def p2_s1028 : ck_Sum := (((0 : Nat), (0 : Nat), (0 : Nat)), (245 : Nat), [.inr (.inr (.inl (226 : Nat))), .inl (ck_one 18), .inl (ck_one 1)], ([], [], []), ([], []), [(.inr (some (.inl (ck_one (-1)))), (245 : Nat), ([], [], [((227 : Nat), (246 : Int), (246 : Int), ck_one (-1))])), (.inr (some (.inl ((0 : Int), (7 : Int), []))), (245 : Nat), ([], [], [((227 : Nat), (246 : Int), (246 : Int), ((0 : Int), (7 : Int), []))]))])
set_option maxRecDepth 100000 in
theorem p2_s1028_s {X : Int → Int} {LX : Nat} : ck_Ok p2_O X LX 301 p2_s1028 := ck_okq (cuts := []) (f := 92) ⟨p2_nmu, ck_E0⟩ (by decide +kernel)
set_option maxRecDepth 100000 in
/-- GlacierMailModel.ofLetter -/
noncomputable def p2_s1029 : ck_Sum := (((0 : Nat), (0 : Nat), (0 : Nat)), (245 : Nat), [.inr (.inr (.inl (226 : Nat))), .inl (ck_one 18), .inl (ck_one 3)], ([], [], []), ([], []), [(.inr (some (.inl ((0 : Int), (299 : Int), []))), (245 : Nat), ([], [], []))])
set_option maxRecDepth 100000 in
theorem p2_s1029_s {X : Int → Int} {LX : Nat} : ck_Ok p2_O X LX 301 p2_s1029 := ck_okq (cuts := []) (f := 92) ⟨p2_nmu, ck_E0⟩ (by decide +kernel)
/-- GlacierMailModel.opens -/
noncomputable def p2_s1030 : ck_Sum := op_os0 18 (.inl (ck_one (-1))) 0 7 (-1) (-1)
theorem p2_s1030_s {X : Int → Int} {LX : Nat} : ck_Ok p2_O X LX 319 p2_s1030 := op_none (by decide) (by decide) (by decide)
/-- GlacierMailModel.opens -/
noncomputable def p2_s1031 : ck_Sum := op_os 18 0 7
theorem p2_s1031_s {X : Int → Int} {LX : Nat} : ck_Ok p2_O X LX 319 p2_s1031 := op_open (by decide) (by decide) (by decide +kernel)
set_option maxRecDepth 100000 in
/-- GlacierMailModel.open -/
noncomputable def p2_s1032 : ck_Sum := (((9 : Nat), (0 : Nat), (0 : Nat)), (245 : Nat), [.inr (.inr (.inl (226 : Nat))), .inl (ck_one 18)], ([], [], zl176), ([((226 : Nat), (0 : Int), (0 : Int)), ((226 : Nat), (6 : Int), (6 : Int)), ((226 : Nat), (17 : Int), (23 : Int)), ((226 : Nat), (26 : Int), (26 : Int)), ((226 : Nat), (29 : Int), (30 : Int)), ((227 : Nat), (14 : Int), (14 : Int)), ((227 : Nat), (250 : Int), (251 : Int)), ((227 : Nat), (323 : Int), (394 : Int)), ((230 : Nat), (0 : Int), (4739 : Int)), ((233 : Nat), (0 : Int), (399 : Int)), ((235 : Nat), (0 : Int), (29699 : Int)), ((236 : Nat), (0 : Int), (299 : Int)), ((237 : Nat), (0 : Int), (299 : Int))], []), [(.inr (some (.inl (ck_one 0))), (245 : Nat), ([], [], zl177)), (.inr (some (.inl ((-299 : Int), (299 : Int), []))), (245 : Nat), ([], [], [((227 : Nat), (250 : Int), (250 : Int), ((0 : Int), (7 : Int), [])), ((227 : Nat), (246 : Int), (246 : Int), ((0 : Int), (7 : Int), [])), ((226 : Nat), (6 : Int), (6 : Int), ((1 : Int), (12 : Int), [((1000027 : Nat), (0 : Int))])), ((226 : Nat), (29 : Int), (29 : Int), ((0 : Int), (299 : Int), [])), ((227 : Nat), (245 : Int), (245 : Int), ((0 : Int), (7 : Int), [])), ((226 : Nat), (0 : Int), (0 : Int), ck_one 0)]))])
set_option maxRecDepth 100000 in
theorem p2_s1032_s {X : Int → Int} {LX : Nat} : ck_Ok p2_O X LX 318 p2_s1032 := ck_okq (cuts := []) (f := 142) ⟨p2_nmu, ck_E1 (ck_S1 p2_s1023_s ck_S0) (ck_E1 (ck_S1 p2_s241_s (ck_S1 p2_s242_s (ck_S1 p2_s244_s (ck_S1 p2_s243_s ck_S0)))) (ck_E1 (ck_S1 p2_s1027_s ck_S0) (ck_E1 (ck_S1 p2_s553_s ck_S0) (ck_E1 (ck_S1 p2_s1028_s (ck_S1 p2_s1029_s ck_S0)) (ck_E1 (ck_S1 p2_s1030_s (ck_S1 p2_s1031_s ck_S0)) (ck_E1 (ck_S1 p2_s190_s ck_S0) ck_E0))))))⟩ (by decide +kernel)
set_option maxRecDepth 100000 in
/-- GlacierMailModel.in -/
noncomputable def p2_s1033 : ck_Sum := (((0 : Nat), (0 : Nat), (0 : Nat)), (245 : Nat), [.inl (ck_one 19), .inl (ck_one 0), .inl ((-1 : Int), (23 : Int), [])], ([], [], []), ([], []), [(.inr (some (.inl (ck_one 0))), (245 : Nat), ([], [], [])), (.inr (some (.inl (ck_one 1))), (245 : Nat), ([], [], []))])
set_option maxRecDepth 100000 in
theorem p2_s1033_s {X : Int → Int} {LX : Nat} : ck_Ok p2_O X LX 286 p2_s1033 := ck_okq (cuts := []) (f := 88) ⟨p2_nmu, ck_E0⟩ (by decide +kernel)
set_option maxRecDepth 100000 in
/-- GlacierMailModel.noLetter -/
noncomputable def p2_s1034 : ck_Sum := (((1 : Nat), (0 : Nat), (0 : Nat)), (245 : Nat), [.inr (.inr (.inl (226 : Nat))), .inl (ck_one 19)], ([], [], [((227 : Nat), (4 : Int), (4 : Int), ((0 : Int), (24 : Int), [((22 : Nat), (0 : Int))]))]), ([], []), [(.inr (some (.inl (ck_one 1))), (245 : Nat), ([], [], [])), (.inr (some (.inl (ck_one 0))), (245 : Nat), ([], [], []))])
set_option maxRecDepth 100000 in
theorem p2_s1034_s {X : Int → Int} {LX : Nat} : ck_Ok p2_O X LX 309 p2_s1034 := ck_okq (cuts := []) (f := 92) ⟨p2_nmu, ck_E1 (ck_S1 p2_s176_s ck_S0) (ck_E1 (ck_S1 p2_s1033_s ck_S0) ck_E0)⟩ (by decide +kernel)
set_option maxRecDepth 100000 in
/-- GlacierMailModel.ofLetter -/
noncomputable def p2_s1035 : ck_Sum := (((0 : Nat), (0 : Nat), (0 : Nat)), (245 : Nat), [.inr (.inr (.inl (226 : Nat))), .inl (ck_one 19), .inl (ck_one 0)], ([], [], []), ([], []), [(.inr (some (.inl (ck_one (-1)))), (245 : Nat), ([], [], [((227 : Nat), (252 : Int), (252 : Int), ck_one (-1))])), (.inr (some (.inl ((0 : Int), (7 : Int), []))), (245 : Nat), ([], [], [((227 : Nat), (252 : Int), (252 : Int), ((0 : Int), (7 : Int), []))]))])
set_option maxRecDepth 100000 in
theorem p2_s1035_s {X : Int → Int} {LX : Nat} : ck_Ok p2_O X LX 301 p2_s1035 := ck_okq (cuts := []) (f := 92) ⟨p2_nmu, ck_E0⟩ (by decide +kernel)
set_option maxRecDepth 100000 in
/-- GlacierMailModel.isRock -/
noncomputable def p2_s1036 : ck_Sum := (((1 : Nat), (0 : Nat), (0 : Nat)), (245 : Nat), [.inr (.inr (.inl (226 : Nat))), .inl (ck_one 19)], ([], [], []), ([], []), [(.inr (some (.inl (ck_one 1))), (245 : Nat), ([], [], [((227 : Nat), (252 : Int), (252 : Int), ck_one (-1))])), (.inr (some (.inl (ck_one 0))), (245 : Nat), ([], [], [((227 : Nat), (252 : Int), (252 : Int), ((0 : Int), (7 : Int), []))]))])
set_option maxRecDepth 100000 in
theorem p2_s1036_s {X : Int → Int} {LX : Nat} : ck_Ok p2_O X LX 303 p2_s1036 := ck_okq (cuts := []) (f := 86) ⟨p2_nmu, ck_E1 (ck_S1 p2_s1035_s ck_S0) ck_E0⟩ (by decide +kernel)
set_option maxRecDepth 100000 in
/-- GlacierMailModel.ofLetter -/
noncomputable def p2_s1037 : ck_Sum := (((0 : Nat), (0 : Nat), (0 : Nat)), (245 : Nat), [.inr (.inr (.inl (226 : Nat))), .inl (ck_one 19), .inl (ck_one 5)], ([], [], []), ([], []), [(.inr (some (.inl (ck_one (-1)))), (245 : Nat), ([], [], [((227 : Nat), (257 : Int), (257 : Int), ck_one (-1))])), (.inr (some (.inl ((0 : Int), (7 : Int), []))), (245 : Nat), ([], [], [((227 : Nat), (257 : Int), (257 : Int), ((0 : Int), (7 : Int), []))]))])
set_option maxRecDepth 100000 in
theorem p2_s1037_s {X : Int → Int} {LX : Nat} : ck_Ok p2_O X LX 301 p2_s1037 := ck_okq (cuts := []) (f := 92) ⟨p2_nmu, ck_E0⟩ (by decide +kernel)
set_option maxRecDepth 100000 in
/-- GlacierMailModel.isWaiting -/
noncomputable def p2_s1038 : ck_Sum := (((8 : Nat), (0 : Nat), (0 : Nat)), (245 : Nat), [.inr (.inr (.inl (226 : Nat))), .inl (ck_one 19)], ([], [], zl83), (zl81, []), [(.inr (some (.inl (ck_one 0))), (245 : Nat), ([], [], [])), (.inr (some (.inl (ck_one 1))), (245 : Nat), ([], [], [((226 : Nat), (29 : Int), (29 : Int), ((0 : Int), (299 : Int), [])), ((227 : Nat), (257 : Int), (257 : Int), ck_one (-1)), ((227 : Nat), (252 : Int), (252 : Int), ((0 : Int), (7 : Int), []))]))])
set_option maxRecDepth 100000 in
theorem p2_s1038_s {X : Int → Int} {LX : Nat} : ck_Ok p2_O X LX 302 p2_s1038 := ck_okq (cuts := []) (f := 114) ⟨p2_nmu, ck_E1 (ck_S1 p2_s1036_s ck_S0) (ck_E1 (ck_S1 p2_s1037_s ck_S0) (ck_E1 (ck_S1 p2_s381_s ck_S0) (ck_E1 (ck_S1 p2_s190_s ck_S0) ck_E0)))⟩ (by decide +kernel)
set_option maxRecDepth 100000 in
/-- GlacierMailModel.ofLetter -/
noncomputable def p2_s1039 : ck_Sum := (((0 : Nat), (0 : Nat), (0 : Nat)), (245 : Nat), [.inr (.inr (.inl (226 : Nat))), .inl (ck_one 19), .inl (ck_one 1)], ([], [], []), ([], []), [(.inr (some (.inl (ck_one (-1)))), (245 : Nat), ([], [], [((227 : Nat), (253 : Int), (253 : Int), ck_one (-1))])), (.inr (some (.inl ((0 : Int), (7 : Int), []))), (245 : Nat), ([], [], [((227 : Nat), (253 : Int), (253 : Int), ((0 : Int), (7 : Int), []))]))])
set_option maxRecDepth 100000 in
theorem p2_s1039_s {X : Int → Int} {LX : Nat} : ck_Ok p2_O X LX 301 p2_s1039 := ck_okq (cuts := []) (f := 92) ⟨p2_nmu, ck_E0⟩ (by decide +kernel)
set_option maxRecDepth 100000 in
/-- GlacierMailModel.ofLetter -/
noncomputable def p2_s1040 : ck_Sum := (((0 : Nat), (0 : Nat), (0 : Nat)), (245 : Nat), [.inr (.inr (.inl (226 : Nat))), .inl (ck_one 19), .inl (ck_one 3)], ([], [], []), ([], []), [(.inr (some (.inl ((0 : Int), (299 : Int), []))), (245 : Nat), ([], [], []))])
set_option maxRecDepth 100000 in
theorem p2_s1040_s {X : Int → Int} {LX : Nat} : ck_Ok p2_O X LX 301 p2_s1040 := ck_okq (cuts := []) (f := 92) ⟨p2_nmu, ck_E0⟩ (by decide +kernel)
/-- GlacierMailModel.opens -/
noncomputable def p2_s1041 : ck_Sum := op_os0 19 (.inl (ck_one (-1))) 0 7 (-1) (-1)
theorem p2_s1041_s {X : Int → Int} {LX : Nat} : ck_Ok p2_O X LX 319 p2_s1041 := op_none (by decide) (by decide) (by decide)
/-- GlacierMailModel.opens -/
noncomputable def p2_s1042 : ck_Sum := op_os 19 0 7
theorem p2_s1042_s {X : Int → Int} {LX : Nat} : ck_Ok p2_O X LX 319 p2_s1042 := op_open (by decide) (by decide) (by decide +kernel)
set_option maxRecDepth 100000 in
/-- GlacierMailModel.open -/
noncomputable def p2_s1043 : ck_Sum := (((9 : Nat), (0 : Nat), (0 : Nat)), (245 : Nat), [.inr (.inr (.inl (226 : Nat))), .inl (ck_one 19)], ([], [], zl176), ([((226 : Nat), (0 : Int), (0 : Int)), ((226 : Nat), (6 : Int), (6 : Int)), ((226 : Nat), (17 : Int), (23 : Int)), ((226 : Nat), (26 : Int), (26 : Int)), ((226 : Nat), (29 : Int), (30 : Int)), ((227 : Nat), (14 : Int), (14 : Int)), ((227 : Nat), (257 : Int), (258 : Int)), ((227 : Nat), (323 : Int), (394 : Int)), ((230 : Nat), (0 : Int), (4739 : Int)), ((233 : Nat), (0 : Int), (399 : Int)), ((235 : Nat), (0 : Int), (29699 : Int)), ((236 : Nat), (0 : Int), (299 : Int)), ((237 : Nat), (0 : Int), (299 : Int))], []), [(.inr (some (.inl (ck_one 0))), (245 : Nat), ([], [], zl177)), (.inr (some (.inl ((-299 : Int), (299 : Int), []))), (245 : Nat), ([], [], [((227 : Nat), (257 : Int), (257 : Int), ((0 : Int), (7 : Int), [])), ((227 : Nat), (253 : Int), (253 : Int), ((0 : Int), (7 : Int), [])), ((226 : Nat), (6 : Int), (6 : Int), ((1 : Int), (12 : Int), [((1000027 : Nat), (0 : Int))])), ((226 : Nat), (29 : Int), (29 : Int), ((0 : Int), (299 : Int), [])), ((227 : Nat), (252 : Int), (252 : Int), ((0 : Int), (7 : Int), [])), ((226 : Nat), (0 : Int), (0 : Int), ck_one 0)]))])
set_option maxRecDepth 100000 in
theorem p2_s1043_s {X : Int → Int} {LX : Nat} : ck_Ok p2_O X LX 318 p2_s1043 := ck_okq (cuts := []) (f := 142) ⟨p2_nmu, ck_E1 (ck_S1 p2_s1034_s ck_S0) (ck_E1 (ck_S1 p2_s241_s (ck_S1 p2_s242_s (ck_S1 p2_s244_s (ck_S1 p2_s243_s ck_S0)))) (ck_E1 (ck_S1 p2_s1038_s ck_S0) (ck_E1 (ck_S1 p2_s553_s ck_S0) (ck_E1 (ck_S1 p2_s1039_s (ck_S1 p2_s1040_s ck_S0)) (ck_E1 (ck_S1 p2_s1041_s (ck_S1 p2_s1042_s ck_S0)) (ck_E1 (ck_S1 p2_s190_s ck_S0) ck_E0))))))⟩ (by decide +kernel)
set_option maxRecDepth 100000 in
/-- GlacierMailModel.in -/
noncomputable def p2_s1044 : ck_Sum := (((0 : Nat), (0 : Nat), (0 : Nat)), (245 : Nat), [.inl (ck_one 20), .inl (ck_one 0), .inl ((-1 : Int), (23 : Int), [])], ([], [], []), ([], []), [(.inr (some (.inl (ck_one 0))), (245 : Nat), ([], [], [])), (.inr (some (.inl (ck_one 1))), (245 : Nat), ([], [], []))])
set_option maxRecDepth 100000 in
theorem p2_s1044_s {X : Int → Int} {LX : Nat} : ck_Ok p2_O X LX 286 p2_s1044 := ck_okq (cuts := []) (f := 88) ⟨p2_nmu, ck_E0⟩ (by decide +kernel)
set_option maxRecDepth 100000 in
/-- GlacierMailModel.noLetter -/
noncomputable def p2_s1045 : ck_Sum := (((1 : Nat), (0 : Nat), (0 : Nat)), (245 : Nat), [.inr (.inr (.inl (226 : Nat))), .inl (ck_one 20)], ([], [], [((227 : Nat), (4 : Int), (4 : Int), ((0 : Int), (24 : Int), [((22 : Nat), (0 : Int))]))]), ([], []), [(.inr (some (.inl (ck_one 1))), (245 : Nat), ([], [], [])), (.inr (some (.inl (ck_one 0))), (245 : Nat), ([], [], []))])
set_option maxRecDepth 100000 in
theorem p2_s1045_s {X : Int → Int} {LX : Nat} : ck_Ok p2_O X LX 309 p2_s1045 := ck_okq (cuts := []) (f := 92) ⟨p2_nmu, ck_E1 (ck_S1 p2_s176_s ck_S0) (ck_E1 (ck_S1 p2_s1044_s ck_S0) ck_E0)⟩ (by decide +kernel)
set_option maxRecDepth 100000 in
/-- GlacierMailModel.ofLetter -/
noncomputable def p2_s1046 : ck_Sum := (((0 : Nat), (0 : Nat), (0 : Nat)), (245 : Nat), [.inr (.inr (.inl (226 : Nat))), .inl (ck_one 20), .inl (ck_one 0)], ([], [], []), ([], []), [(.inr (some (.inl (ck_one (-1)))), (245 : Nat), ([], [], [((227 : Nat), (259 : Int), (259 : Int), ck_one (-1))])), (.inr (some (.inl ((0 : Int), (7 : Int), []))), (245 : Nat), ([], [], [((227 : Nat), (259 : Int), (259 : Int), ((0 : Int), (7 : Int), []))]))])
set_option maxRecDepth 100000 in
theorem p2_s1046_s {X : Int → Int} {LX : Nat} : ck_Ok p2_O X LX 301 p2_s1046 := ck_okq (cuts := []) (f := 92) ⟨p2_nmu, ck_E0⟩ (by decide +kernel)
set_option maxRecDepth 100000 in
/-- GlacierMailModel.isRock -/
noncomputable def p2_s1047 : ck_Sum := (((1 : Nat), (0 : Nat), (0 : Nat)), (245 : Nat), [.inr (.inr (.inl (226 : Nat))), .inl (ck_one 20)], ([], [], []), ([], []), [(.inr (some (.inl (ck_one 1))), (245 : Nat), ([], [], [((227 : Nat), (259 : Int), (259 : Int), ck_one (-1))])), (.inr (some (.inl (ck_one 0))), (245 : Nat), ([], [], [((227 : Nat), (259 : Int), (259 : Int), ((0 : Int), (7 : Int), []))]))])
set_option maxRecDepth 100000 in
theorem p2_s1047_s {X : Int → Int} {LX : Nat} : ck_Ok p2_O X LX 303 p2_s1047 := ck_okq (cuts := []) (f := 86) ⟨p2_nmu, ck_E1 (ck_S1 p2_s1046_s ck_S0) ck_E0⟩ (by decide +kernel)
set_option maxRecDepth 100000 in
/-- GlacierMailModel.ofLetter -/
noncomputable def p2_s1048 : ck_Sum := (((0 : Nat), (0 : Nat), (0 : Nat)), (245 : Nat), [.inr (.inr (.inl (226 : Nat))), .inl (ck_one 20), .inl (ck_one 5)], ([], [], []), ([], []), [(.inr (some (.inl (ck_one (-1)))), (245 : Nat), ([], [], [((227 : Nat), (264 : Int), (264 : Int), ck_one (-1))])), (.inr (some (.inl ((0 : Int), (7 : Int), []))), (245 : Nat), ([], [], [((227 : Nat), (264 : Int), (264 : Int), ((0 : Int), (7 : Int), []))]))])
set_option maxRecDepth 100000 in
theorem p2_s1048_s {X : Int → Int} {LX : Nat} : ck_Ok p2_O X LX 301 p2_s1048 := ck_okq (cuts := []) (f := 92) ⟨p2_nmu, ck_E0⟩ (by decide +kernel)
set_option maxRecDepth 100000 in
/-- GlacierMailModel.isWaiting -/
noncomputable def p2_s1049 : ck_Sum := (((8 : Nat), (0 : Nat), (0 : Nat)), (245 : Nat), [.inr (.inr (.inl (226 : Nat))), .inl (ck_one 20)], ([], [], zl83), (zl81, []), [(.inr (some (.inl (ck_one 0))), (245 : Nat), ([], [], [])), (.inr (some (.inl (ck_one 1))), (245 : Nat), ([], [], [((226 : Nat), (29 : Int), (29 : Int), ((0 : Int), (299 : Int), [])), ((227 : Nat), (264 : Int), (264 : Int), ck_one (-1)), ((227 : Nat), (259 : Int), (259 : Int), ((0 : Int), (7 : Int), []))]))])
set_option maxRecDepth 100000 in
theorem p2_s1049_s {X : Int → Int} {LX : Nat} : ck_Ok p2_O X LX 302 p2_s1049 := ck_okq (cuts := []) (f := 114) ⟨p2_nmu, ck_E1 (ck_S1 p2_s1047_s ck_S0) (ck_E1 (ck_S1 p2_s1048_s ck_S0) (ck_E1 (ck_S1 p2_s381_s ck_S0) (ck_E1 (ck_S1 p2_s190_s ck_S0) ck_E0)))⟩ (by decide +kernel)
set_option maxRecDepth 100000 in
/-- GlacierMailModel.ofLetter -/
noncomputable def p2_s1050 : ck_Sum := (((0 : Nat), (0 : Nat), (0 : Nat)), (245 : Nat), [.inr (.inr (.inl (226 : Nat))), .inl (ck_one 20), .inl (ck_one 1)], ([], [], []), ([], []), [(.inr (some (.inl (ck_one (-1)))), (245 : Nat), ([], [], [((227 : Nat), (260 : Int), (260 : Int), ck_one (-1))])), (.inr (some (.inl ((0 : Int), (7 : Int), []))), (245 : Nat), ([], [], [((227 : Nat), (260 : Int), (260 : Int), ((0 : Int), (7 : Int), []))]))])
set_option maxRecDepth 100000 in
theorem p2_s1050_s {X : Int → Int} {LX : Nat} : ck_Ok p2_O X LX 301 p2_s1050 := ck_okq (cuts := []) (f := 92) ⟨p2_nmu, ck_E0⟩ (by decide +kernel)
set_option maxRecDepth 100000 in
/-- GlacierMailModel.ofLetter -/
noncomputable def p2_s1051 : ck_Sum := (((0 : Nat), (0 : Nat), (0 : Nat)), (245 : Nat), [.inr (.inr (.inl (226 : Nat))), .inl (ck_one 20), .inl (ck_one 3)], ([], [], []), ([], []), [(.inr (some (.inl ((0 : Int), (299 : Int), []))), (245 : Nat), ([], [], []))])
set_option maxRecDepth 100000 in
theorem p2_s1051_s {X : Int → Int} {LX : Nat} : ck_Ok p2_O X LX 301 p2_s1051 := ck_okq (cuts := []) (f := 92) ⟨p2_nmu, ck_E0⟩ (by decide +kernel)
/-- GlacierMailModel.opens -/
noncomputable def p2_s1052 : ck_Sum := op_os0 20 (.inl (ck_one (-1))) 0 7 (-1) (-1)
theorem p2_s1052_s {X : Int → Int} {LX : Nat} : ck_Ok p2_O X LX 319 p2_s1052 := op_none (by decide) (by decide) (by decide)
/-- GlacierMailModel.opens -/
noncomputable def p2_s1053 : ck_Sum := op_os 20 0 7
theorem p2_s1053_s {X : Int → Int} {LX : Nat} : ck_Ok p2_O X LX 319 p2_s1053 := op_open (by decide) (by decide) (by decide +kernel)
set_option maxRecDepth 100000 in
/-- GlacierMailModel.open -/
noncomputable def p2_s1054 : ck_Sum := (((9 : Nat), (0 : Nat), (0 : Nat)), (245 : Nat), [.inr (.inr (.inl (226 : Nat))), .inl (ck_one 20)], ([], [], zl176), ([((226 : Nat), (0 : Int), (0 : Int)), ((226 : Nat), (6 : Int), (6 : Int)), ((226 : Nat), (17 : Int), (23 : Int)), ((226 : Nat), (26 : Int), (26 : Int)), ((226 : Nat), (29 : Int), (30 : Int)), ((227 : Nat), (14 : Int), (14 : Int)), ((227 : Nat), (264 : Int), (265 : Int)), ((227 : Nat), (323 : Int), (394 : Int)), ((230 : Nat), (0 : Int), (4739 : Int)), ((233 : Nat), (0 : Int), (399 : Int)), ((235 : Nat), (0 : Int), (29699 : Int)), ((236 : Nat), (0 : Int), (299 : Int)), ((237 : Nat), (0 : Int), (299 : Int))], []), [(.inr (some (.inl (ck_one 0))), (245 : Nat), ([], [], zl177)), (.inr (some (.inl ((-299 : Int), (299 : Int), []))), (245 : Nat), ([], [], [((227 : Nat), (264 : Int), (264 : Int), ((0 : Int), (7 : Int), [])), ((227 : Nat), (260 : Int), (260 : Int), ((0 : Int), (7 : Int), [])), ((226 : Nat), (6 : Int), (6 : Int), ((1 : Int), (12 : Int), [((1000027 : Nat), (0 : Int))])), ((226 : Nat), (29 : Int), (29 : Int), ((0 : Int), (299 : Int), [])), ((227 : Nat), (259 : Int), (259 : Int), ((0 : Int), (7 : Int), [])), ((226 : Nat), (0 : Int), (0 : Int), ck_one 0)]))])
set_option maxRecDepth 100000 in
theorem p2_s1054_s {X : Int → Int} {LX : Nat} : ck_Ok p2_O X LX 318 p2_s1054 := ck_okq (cuts := []) (f := 142) ⟨p2_nmu, ck_E1 (ck_S1 p2_s1045_s ck_S0) (ck_E1 (ck_S1 p2_s241_s (ck_S1 p2_s242_s (ck_S1 p2_s244_s (ck_S1 p2_s243_s ck_S0)))) (ck_E1 (ck_S1 p2_s1049_s ck_S0) (ck_E1 (ck_S1 p2_s553_s ck_S0) (ck_E1 (ck_S1 p2_s1050_s (ck_S1 p2_s1051_s ck_S0)) (ck_E1 (ck_S1 p2_s1052_s (ck_S1 p2_s1053_s ck_S0)) (ck_E1 (ck_S1 p2_s190_s ck_S0) ck_E0))))))⟩ (by decide +kernel)
set_option maxRecDepth 100000 in
/-- GlacierMailModel.in -/
noncomputable def p2_s1055 : ck_Sum := (((0 : Nat), (0 : Nat), (0 : Nat)), (245 : Nat), [.inl (ck_one 21), .inl (ck_one 0), .inl ((-1 : Int), (23 : Int), [])], ([], [], []), ([], []), [(.inr (some (.inl (ck_one 0))), (245 : Nat), ([], [], [])), (.inr (some (.inl (ck_one 1))), (245 : Nat), ([], [], []))])
set_option maxRecDepth 100000 in
theorem p2_s1055_s {X : Int → Int} {LX : Nat} : ck_Ok p2_O X LX 286 p2_s1055 := ck_okq (cuts := []) (f := 88) ⟨p2_nmu, ck_E0⟩ (by decide +kernel)
set_option maxRecDepth 100000 in
/-- GlacierMailModel.noLetter -/
noncomputable def p2_s1056 : ck_Sum := (((1 : Nat), (0 : Nat), (0 : Nat)), (245 : Nat), [.inr (.inr (.inl (226 : Nat))), .inl (ck_one 21)], ([], [], [((227 : Nat), (4 : Int), (4 : Int), ((0 : Int), (24 : Int), [((22 : Nat), (0 : Int))]))]), ([], []), [(.inr (some (.inl (ck_one 1))), (245 : Nat), ([], [], [])), (.inr (some (.inl (ck_one 0))), (245 : Nat), ([], [], []))])
set_option maxRecDepth 100000 in
theorem p2_s1056_s {X : Int → Int} {LX : Nat} : ck_Ok p2_O X LX 309 p2_s1056 := ck_okq (cuts := []) (f := 92) ⟨p2_nmu, ck_E1 (ck_S1 p2_s176_s ck_S0) (ck_E1 (ck_S1 p2_s1055_s ck_S0) ck_E0)⟩ (by decide +kernel)
set_option maxRecDepth 100000 in
/-- GlacierMailModel.ofLetter -/
noncomputable def p2_s1057 : ck_Sum := (((0 : Nat), (0 : Nat), (0 : Nat)), (245 : Nat), [.inr (.inr (.inl (226 : Nat))), .inl (ck_one 21), .inl (ck_one 0)], ([], [], []), ([], []), [(.inr (some (.inl (ck_one (-1)))), (245 : Nat), ([], [], [((227 : Nat), (266 : Int), (266 : Int), ck_one (-1))])), (.inr (some (.inl ((0 : Int), (7 : Int), []))), (245 : Nat), ([], [], [((227 : Nat), (266 : Int), (266 : Int), ((0 : Int), (7 : Int), []))]))])
set_option maxRecDepth 100000 in
theorem p2_s1057_s {X : Int → Int} {LX : Nat} : ck_Ok p2_O X LX 301 p2_s1057 := ck_okq (cuts := []) (f := 92) ⟨p2_nmu, ck_E0⟩ (by decide +kernel)
set_option maxRecDepth 100000 in
/-- GlacierMailModel.isRock -/
noncomputable def p2_s1058 : ck_Sum := (((1 : Nat), (0 : Nat), (0 : Nat)), (245 : Nat), [.inr (.inr (.inl (226 : Nat))), .inl (ck_one 21)], ([], [], []), ([], []), [(.inr (some (.inl (ck_one 1))), (245 : Nat), ([], [], [((227 : Nat), (266 : Int), (266 : Int), ck_one (-1))])), (.inr (some (.inl (ck_one 0))), (245 : Nat), ([], [], [((227 : Nat), (266 : Int), (266 : Int), ((0 : Int), (7 : Int), []))]))])
set_option maxRecDepth 100000 in
theorem p2_s1058_s {X : Int → Int} {LX : Nat} : ck_Ok p2_O X LX 303 p2_s1058 := ck_okq (cuts := []) (f := 86) ⟨p2_nmu, ck_E1 (ck_S1 p2_s1057_s ck_S0) ck_E0⟩ (by decide +kernel)
set_option maxRecDepth 100000 in
/-- GlacierMailModel.ofLetter -/
noncomputable def p2_s1059 : ck_Sum := (((0 : Nat), (0 : Nat), (0 : Nat)), (245 : Nat), [.inr (.inr (.inl (226 : Nat))), .inl (ck_one 21), .inl (ck_one 5)], ([], [], []), ([], []), [(.inr (some (.inl (ck_one (-1)))), (245 : Nat), ([], [], [((227 : Nat), (271 : Int), (271 : Int), ck_one (-1))])), (.inr (some (.inl ((0 : Int), (7 : Int), []))), (245 : Nat), ([], [], [((227 : Nat), (271 : Int), (271 : Int), ((0 : Int), (7 : Int), []))]))])
set_option maxRecDepth 100000 in
theorem p2_s1059_s {X : Int → Int} {LX : Nat} : ck_Ok p2_O X LX 301 p2_s1059 := ck_okq (cuts := []) (f := 92) ⟨p2_nmu, ck_E0⟩ (by decide +kernel)
set_option maxRecDepth 100000 in
/-- GlacierMailModel.isWaiting -/
noncomputable def p2_s1060 : ck_Sum := (((8 : Nat), (0 : Nat), (0 : Nat)), (245 : Nat), [.inr (.inr (.inl (226 : Nat))), .inl (ck_one 21)], ([], [], zl83), (zl81, []), [(.inr (some (.inl (ck_one 0))), (245 : Nat), ([], [], [])), (.inr (some (.inl (ck_one 1))), (245 : Nat), ([], [], [((226 : Nat), (29 : Int), (29 : Int), ((0 : Int), (299 : Int), [])), ((227 : Nat), (271 : Int), (271 : Int), ck_one (-1)), ((227 : Nat), (266 : Int), (266 : Int), ((0 : Int), (7 : Int), []))]))])
set_option maxRecDepth 100000 in
theorem p2_s1060_s {X : Int → Int} {LX : Nat} : ck_Ok p2_O X LX 302 p2_s1060 := ck_okq (cuts := []) (f := 114) ⟨p2_nmu, ck_E1 (ck_S1 p2_s1058_s ck_S0) (ck_E1 (ck_S1 p2_s1059_s ck_S0) (ck_E1 (ck_S1 p2_s381_s ck_S0) (ck_E1 (ck_S1 p2_s190_s ck_S0) ck_E0)))⟩ (by decide +kernel)
set_option maxRecDepth 100000 in
/-- GlacierMailModel.ofLetter -/
noncomputable def p2_s1061 : ck_Sum := (((0 : Nat), (0 : Nat), (0 : Nat)), (245 : Nat), [.inr (.inr (.inl (226 : Nat))), .inl (ck_one 21), .inl (ck_one 1)], ([], [], []), ([], []), [(.inr (some (.inl (ck_one (-1)))), (245 : Nat), ([], [], [((227 : Nat), (267 : Int), (267 : Int), ck_one (-1))])), (.inr (some (.inl ((0 : Int), (7 : Int), []))), (245 : Nat), ([], [], [((227 : Nat), (267 : Int), (267 : Int), ((0 : Int), (7 : Int), []))]))])
set_option maxRecDepth 100000 in
theorem p2_s1061_s {X : Int → Int} {LX : Nat} : ck_Ok p2_O X LX 301 p2_s1061 := ck_okq (cuts := []) (f := 92) ⟨p2_nmu, ck_E0⟩ (by decide +kernel)
set_option maxRecDepth 100000 in
/-- GlacierMailModel.ofLetter -/
noncomputable def p2_s1062 : ck_Sum := (((0 : Nat), (0 : Nat), (0 : Nat)), (245 : Nat), [.inr (.inr (.inl (226 : Nat))), .inl (ck_one 21), .inl (ck_one 3)], ([], [], []), ([], []), [(.inr (some (.inl ((0 : Int), (299 : Int), []))), (245 : Nat), ([], [], []))])
set_option maxRecDepth 100000 in
theorem p2_s1062_s {X : Int → Int} {LX : Nat} : ck_Ok p2_O X LX 301 p2_s1062 := ck_okq (cuts := []) (f := 92) ⟨p2_nmu, ck_E0⟩ (by decide +kernel)
/-- GlacierMailModel.opens -/
noncomputable def p2_s1063 : ck_Sum := op_os0 21 (.inl (ck_one (-1))) 0 7 (-1) (-1)
theorem p2_s1063_s {X : Int → Int} {LX : Nat} : ck_Ok p2_O X LX 319 p2_s1063 := op_none (by decide) (by decide) (by decide)
/-- GlacierMailModel.opens -/
noncomputable def p2_s1064 : ck_Sum := op_os 21 0 7
theorem p2_s1064_s {X : Int → Int} {LX : Nat} : ck_Ok p2_O X LX 319 p2_s1064 := op_open (by decide) (by decide) (by decide +kernel)
set_option maxRecDepth 100000 in
/-- GlacierMailModel.open -/
noncomputable def p2_s1065 : ck_Sum := (((9 : Nat), (0 : Nat), (0 : Nat)), (245 : Nat), [.inr (.inr (.inl (226 : Nat))), .inl (ck_one 21)], ([], [], zl176), ([((226 : Nat), (0 : Int), (0 : Int)), ((226 : Nat), (6 : Int), (6 : Int)), ((226 : Nat), (17 : Int), (23 : Int)), ((226 : Nat), (26 : Int), (26 : Int)), ((226 : Nat), (29 : Int), (30 : Int)), ((227 : Nat), (14 : Int), (14 : Int)), ((227 : Nat), (271 : Int), (272 : Int)), ((227 : Nat), (323 : Int), (394 : Int)), ((230 : Nat), (0 : Int), (4739 : Int)), ((233 : Nat), (0 : Int), (399 : Int)), ((235 : Nat), (0 : Int), (29699 : Int)), ((236 : Nat), (0 : Int), (299 : Int)), ((237 : Nat), (0 : Int), (299 : Int))], []), [(.inr (some (.inl (ck_one 0))), (245 : Nat), ([], [], zl177)), (.inr (some (.inl ((-299 : Int), (299 : Int), []))), (245 : Nat), ([], [], [((227 : Nat), (271 : Int), (271 : Int), ((0 : Int), (7 : Int), [])), ((227 : Nat), (267 : Int), (267 : Int), ((0 : Int), (7 : Int), [])), ((226 : Nat), (6 : Int), (6 : Int), ((1 : Int), (12 : Int), [((1000027 : Nat), (0 : Int))])), ((226 : Nat), (29 : Int), (29 : Int), ((0 : Int), (299 : Int), [])), ((227 : Nat), (266 : Int), (266 : Int), ((0 : Int), (7 : Int), [])), ((226 : Nat), (0 : Int), (0 : Int), ck_one 0)]))])
set_option maxRecDepth 100000 in
theorem p2_s1065_s {X : Int → Int} {LX : Nat} : ck_Ok p2_O X LX 318 p2_s1065 := ck_okq (cuts := []) (f := 142) ⟨p2_nmu, ck_E1 (ck_S1 p2_s1056_s ck_S0) (ck_E1 (ck_S1 p2_s241_s (ck_S1 p2_s242_s (ck_S1 p2_s244_s (ck_S1 p2_s243_s ck_S0)))) (ck_E1 (ck_S1 p2_s1060_s ck_S0) (ck_E1 (ck_S1 p2_s553_s ck_S0) (ck_E1 (ck_S1 p2_s1061_s (ck_S1 p2_s1062_s ck_S0)) (ck_E1 (ck_S1 p2_s1063_s (ck_S1 p2_s1064_s ck_S0)) (ck_E1 (ck_S1 p2_s190_s ck_S0) ck_E0))))))⟩ (by decide +kernel)
set_option maxRecDepth 100000 in
/-- GlacierMailModel.in -/
noncomputable def p2_s1066 : ck_Sum := (((0 : Nat), (0 : Nat), (0 : Nat)), (245 : Nat), [.inl (ck_one 22), .inl (ck_one 0), .inl ((-1 : Int), (23 : Int), [])], ([], [], []), ([], []), [(.inr (some (.inl (ck_one 0))), (245 : Nat), ([], [], [])), (.inr (some (.inl (ck_one 1))), (245 : Nat), ([], [], []))])
set_option maxRecDepth 100000 in
theorem p2_s1066_s {X : Int → Int} {LX : Nat} : ck_Ok p2_O X LX 286 p2_s1066 := ck_okq (cuts := []) (f := 88) ⟨p2_nmu, ck_E0⟩ (by decide +kernel)
set_option maxRecDepth 100000 in
/-- GlacierMailModel.noLetter -/
noncomputable def p2_s1067 : ck_Sum := (((1 : Nat), (0 : Nat), (0 : Nat)), (245 : Nat), [.inr (.inr (.inl (226 : Nat))), .inl (ck_one 22)], ([], [], [((227 : Nat), (4 : Int), (4 : Int), ((0 : Int), (24 : Int), [((22 : Nat), (0 : Int))]))]), ([], []), [(.inr (some (.inl (ck_one 1))), (245 : Nat), ([], [], [])), (.inr (some (.inl (ck_one 0))), (245 : Nat), ([], [], []))])
set_option maxRecDepth 100000 in
theorem p2_s1067_s {X : Int → Int} {LX : Nat} : ck_Ok p2_O X LX 309 p2_s1067 := ck_okq (cuts := []) (f := 92) ⟨p2_nmu, ck_E1 (ck_S1 p2_s176_s ck_S0) (ck_E1 (ck_S1 p2_s1066_s ck_S0) ck_E0)⟩ (by decide +kernel)
set_option maxRecDepth 100000 in
/-- GlacierMailModel.ofLetter -/
noncomputable def p2_s1068 : ck_Sum := (((0 : Nat), (0 : Nat), (0 : Nat)), (245 : Nat), [.inr (.inr (.inl (226 : Nat))), .inl (ck_one 22), .inl (ck_one 0)], ([], [], []), ([], []), [(.inr (some (.inl (ck_one (-1)))), (245 : Nat), ([], [], [((227 : Nat), (273 : Int), (273 : Int), ck_one (-1))])), (.inr (some (.inl ((0 : Int), (7 : Int), []))), (245 : Nat), ([], [], [((227 : Nat), (273 : Int), (273 : Int), ((0 : Int), (7 : Int), []))]))])
set_option maxRecDepth 100000 in
theorem p2_s1068_s {X : Int → Int} {LX : Nat} : ck_Ok p2_O X LX 301 p2_s1068 := ck_okq (cuts := []) (f := 92) ⟨p2_nmu, ck_E0⟩ (by decide +kernel)
set_option maxRecDepth 100000 in
/-- GlacierMailModel.isRock -/
noncomputable def p2_s1069 : ck_Sum := (((1 : Nat), (0 : Nat), (0 : Nat)), (245 : Nat), [.inr (.inr (.inl (226 : Nat))), .inl (ck_one 22)], ([], [], []), ([], []), [(.inr (some (.inl (ck_one 1))), (245 : Nat), ([], [], [((227 : Nat), (273 : Int), (273 : Int), ck_one (-1))])), (.inr (some (.inl (ck_one 0))), (245 : Nat), ([], [], [((227 : Nat), (273 : Int), (273 : Int), ((0 : Int), (7 : Int), []))]))])
set_option maxRecDepth 100000 in
theorem p2_s1069_s {X : Int → Int} {LX : Nat} : ck_Ok p2_O X LX 303 p2_s1069 := ck_okq (cuts := []) (f := 86) ⟨p2_nmu, ck_E1 (ck_S1 p2_s1068_s ck_S0) ck_E0⟩ (by decide +kernel)
set_option maxRecDepth 100000 in
/-- GlacierMailModel.ofLetter -/
noncomputable def p2_s1070 : ck_Sum := (((0 : Nat), (0 : Nat), (0 : Nat)), (245 : Nat), [.inr (.inr (.inl (226 : Nat))), .inl (ck_one 22), .inl (ck_one 5)], ([], [], []), ([], []), [(.inr (some (.inl (ck_one (-1)))), (245 : Nat), ([], [], [((227 : Nat), (278 : Int), (278 : Int), ck_one (-1))])), (.inr (some (.inl ((0 : Int), (7 : Int), []))), (245 : Nat), ([], [], [((227 : Nat), (278 : Int), (278 : Int), ((0 : Int), (7 : Int), []))]))])
set_option maxRecDepth 100000 in
theorem p2_s1070_s {X : Int → Int} {LX : Nat} : ck_Ok p2_O X LX 301 p2_s1070 := ck_okq (cuts := []) (f := 92) ⟨p2_nmu, ck_E0⟩ (by decide +kernel)
set_option maxRecDepth 100000 in
/-- GlacierMailModel.isWaiting -/
noncomputable def p2_s1071 : ck_Sum := (((8 : Nat), (0 : Nat), (0 : Nat)), (245 : Nat), [.inr (.inr (.inl (226 : Nat))), .inl (ck_one 22)], ([], [], zl83), (zl81, []), [(.inr (some (.inl (ck_one 0))), (245 : Nat), ([], [], [])), (.inr (some (.inl (ck_one 1))), (245 : Nat), ([], [], [((226 : Nat), (29 : Int), (29 : Int), ((0 : Int), (299 : Int), [])), ((227 : Nat), (278 : Int), (278 : Int), ck_one (-1)), ((227 : Nat), (273 : Int), (273 : Int), ((0 : Int), (7 : Int), []))]))])
set_option maxRecDepth 100000 in
theorem p2_s1071_s {X : Int → Int} {LX : Nat} : ck_Ok p2_O X LX 302 p2_s1071 := ck_okq (cuts := []) (f := 114) ⟨p2_nmu, ck_E1 (ck_S1 p2_s1069_s ck_S0) (ck_E1 (ck_S1 p2_s1070_s ck_S0) (ck_E1 (ck_S1 p2_s381_s ck_S0) (ck_E1 (ck_S1 p2_s190_s ck_S0) ck_E0)))⟩ (by decide +kernel)
set_option maxRecDepth 100000 in
/-- GlacierMailModel.ofLetter -/
noncomputable def p2_s1072 : ck_Sum := (((0 : Nat), (0 : Nat), (0 : Nat)), (245 : Nat), [.inr (.inr (.inl (226 : Nat))), .inl (ck_one 22), .inl (ck_one 1)], ([], [], []), ([], []), [(.inr (some (.inl (ck_one (-1)))), (245 : Nat), ([], [], [((227 : Nat), (274 : Int), (274 : Int), ck_one (-1))])), (.inr (some (.inl ((0 : Int), (7 : Int), []))), (245 : Nat), ([], [], [((227 : Nat), (274 : Int), (274 : Int), ((0 : Int), (7 : Int), []))]))])
set_option maxRecDepth 100000 in
theorem p2_s1072_s {X : Int → Int} {LX : Nat} : ck_Ok p2_O X LX 301 p2_s1072 := ck_okq (cuts := []) (f := 92) ⟨p2_nmu, ck_E0⟩ (by decide +kernel)
set_option maxRecDepth 100000 in
/-- GlacierMailModel.ofLetter -/
noncomputable def p2_s1073 : ck_Sum := (((0 : Nat), (0 : Nat), (0 : Nat)), (245 : Nat), [.inr (.inr (.inl (226 : Nat))), .inl (ck_one 22), .inl (ck_one 3)], ([], [], []), ([], []), [(.inr (some (.inl ((0 : Int), (299 : Int), []))), (245 : Nat), ([], [], []))])
set_option maxRecDepth 100000 in
theorem p2_s1073_s {X : Int → Int} {LX : Nat} : ck_Ok p2_O X LX 301 p2_s1073 := ck_okq (cuts := []) (f := 92) ⟨p2_nmu, ck_E0⟩ (by decide +kernel)
/-- GlacierMailModel.opens -/
noncomputable def p2_s1074 : ck_Sum := op_os0 22 (.inl (ck_one (-1))) 0 7 (-1) (-1)
theorem p2_s1074_s {X : Int → Int} {LX : Nat} : ck_Ok p2_O X LX 319 p2_s1074 := op_none (by decide) (by decide) (by decide)
/-- GlacierMailModel.opens -/
noncomputable def p2_s1075 : ck_Sum := op_os 22 0 7
theorem p2_s1075_s {X : Int → Int} {LX : Nat} : ck_Ok p2_O X LX 319 p2_s1075 := op_open (by decide) (by decide) (by decide +kernel)
set_option maxRecDepth 100000 in
/-- GlacierMailModel.open -/
noncomputable def p2_s1076 : ck_Sum := (((9 : Nat), (0 : Nat), (0 : Nat)), (245 : Nat), [.inr (.inr (.inl (226 : Nat))), .inl (ck_one 22)], ([], [], zl176), ([((226 : Nat), (0 : Int), (0 : Int)), ((226 : Nat), (6 : Int), (6 : Int)), ((226 : Nat), (17 : Int), (23 : Int)), ((226 : Nat), (26 : Int), (26 : Int)), ((226 : Nat), (29 : Int), (30 : Int)), ((227 : Nat), (14 : Int), (14 : Int)), ((227 : Nat), (278 : Int), (279 : Int)), ((227 : Nat), (323 : Int), (394 : Int)), ((230 : Nat), (0 : Int), (4739 : Int)), ((233 : Nat), (0 : Int), (399 : Int)), ((235 : Nat), (0 : Int), (29699 : Int)), ((236 : Nat), (0 : Int), (299 : Int)), ((237 : Nat), (0 : Int), (299 : Int))], []), [(.inr (some (.inl (ck_one 0))), (245 : Nat), ([], [], zl177)), (.inr (some (.inl ((-299 : Int), (299 : Int), []))), (245 : Nat), ([], [], [((227 : Nat), (278 : Int), (278 : Int), ((0 : Int), (7 : Int), [])), ((227 : Nat), (274 : Int), (274 : Int), ((0 : Int), (7 : Int), [])), ((226 : Nat), (6 : Int), (6 : Int), ((1 : Int), (12 : Int), [((1000027 : Nat), (0 : Int))])), ((226 : Nat), (29 : Int), (29 : Int), ((0 : Int), (299 : Int), [])), ((227 : Nat), (273 : Int), (273 : Int), ((0 : Int), (7 : Int), [])), ((226 : Nat), (0 : Int), (0 : Int), ck_one 0)]))])
set_option maxRecDepth 100000 in
theorem p2_s1076_s {X : Int → Int} {LX : Nat} : ck_Ok p2_O X LX 318 p2_s1076 := ck_okq (cuts := []) (f := 142) ⟨p2_nmu, ck_E1 (ck_S1 p2_s1067_s ck_S0) (ck_E1 (ck_S1 p2_s241_s (ck_S1 p2_s242_s (ck_S1 p2_s244_s (ck_S1 p2_s243_s ck_S0)))) (ck_E1 (ck_S1 p2_s1071_s ck_S0) (ck_E1 (ck_S1 p2_s553_s ck_S0) (ck_E1 (ck_S1 p2_s1072_s (ck_S1 p2_s1073_s ck_S0)) (ck_E1 (ck_S1 p2_s1074_s (ck_S1 p2_s1075_s ck_S0)) (ck_E1 (ck_S1 p2_s190_s ck_S0) ck_E0))))))⟩ (by decide +kernel)
set_option maxRecDepth 100000 in
/-- GlacierMailModel.in -/
noncomputable def p2_s1077 : ck_Sum := (((0 : Nat), (0 : Nat), (0 : Nat)), (245 : Nat), [.inl (ck_one 23), .inl (ck_one 0), .inl ((-1 : Int), (23 : Int), [])], ([], [], []), ([], []), [(.inr (some (.inl (ck_one 0))), (245 : Nat), ([], [], [])), (.inr (some (.inl (ck_one 1))), (245 : Nat), ([], [], []))])
set_option maxRecDepth 100000 in
theorem p2_s1077_s {X : Int → Int} {LX : Nat} : ck_Ok p2_O X LX 286 p2_s1077 := ck_okq (cuts := []) (f := 88) ⟨p2_nmu, ck_E0⟩ (by decide +kernel)
set_option maxRecDepth 100000 in
/-- GlacierMailModel.noLetter -/
noncomputable def p2_s1078 : ck_Sum := (((1 : Nat), (0 : Nat), (0 : Nat)), (245 : Nat), [.inr (.inr (.inl (226 : Nat))), .inl (ck_one 23)], ([], [], [((227 : Nat), (4 : Int), (4 : Int), ((0 : Int), (24 : Int), [((22 : Nat), (0 : Int))]))]), ([], []), [(.inr (some (.inl (ck_one 1))), (245 : Nat), ([], [], [])), (.inr (some (.inl (ck_one 0))), (245 : Nat), ([], [], []))])
set_option maxRecDepth 100000 in
theorem p2_s1078_s {X : Int → Int} {LX : Nat} : ck_Ok p2_O X LX 309 p2_s1078 := ck_okq (cuts := []) (f := 92) ⟨p2_nmu, ck_E1 (ck_S1 p2_s176_s ck_S0) (ck_E1 (ck_S1 p2_s1077_s ck_S0) ck_E0)⟩ (by decide +kernel)
set_option maxRecDepth 100000 in
/-- GlacierMailModel.ofLetter -/
noncomputable def p2_s1079 : ck_Sum := (((0 : Nat), (0 : Nat), (0 : Nat)), (245 : Nat), [.inr (.inr (.inl (226 : Nat))), .inl (ck_one 23), .inl (ck_one 0)], ([], [], []), ([], []), [(.inr (some (.inl (ck_one (-1)))), (245 : Nat), ([], [], [((227 : Nat), (280 : Int), (280 : Int), ck_one (-1))])), (.inr (some (.inl ((0 : Int), (7 : Int), []))), (245 : Nat), ([], [], [((227 : Nat), (280 : Int), (280 : Int), ((0 : Int), (7 : Int), []))]))])
set_option maxRecDepth 100000 in
theorem p2_s1079_s {X : Int → Int} {LX : Nat} : ck_Ok p2_O X LX 301 p2_s1079 := ck_okq (cuts := []) (f := 92) ⟨p2_nmu, ck_E0⟩ (by decide +kernel)
set_option maxRecDepth 100000 in
/-- GlacierMailModel.isRock -/
noncomputable def p2_s1080 : ck_Sum := (((1 : Nat), (0 : Nat), (0 : Nat)), (245 : Nat), [.inr (.inr (.inl (226 : Nat))), .inl (ck_one 23)], ([], [], []), ([], []), [(.inr (some (.inl (ck_one 1))), (245 : Nat), ([], [], [((227 : Nat), (280 : Int), (280 : Int), ck_one (-1))])), (.inr (some (.inl (ck_one 0))), (245 : Nat), ([], [], [((227 : Nat), (280 : Int), (280 : Int), ((0 : Int), (7 : Int), []))]))])
set_option maxRecDepth 100000 in
theorem p2_s1080_s {X : Int → Int} {LX : Nat} : ck_Ok p2_O X LX 303 p2_s1080 := ck_okq (cuts := []) (f := 86) ⟨p2_nmu, ck_E1 (ck_S1 p2_s1079_s ck_S0) ck_E0⟩ (by decide +kernel)
end
/-! 78r80a12.sf -/
section
/-! EVERY CALL ENDS, whatever was done before (laid by wip/am/p2k.py). -/
set_option maxRecDepth 100000 in
/-- GlacierMailModel.ofLetter -/
noncomputable def p2_s1081 : ck_Sum := (((0 : Nat), (0 : Nat), (0 : Nat)), (245 : Nat), [.inr (.inr (.inl (226 : Nat))), .inl (ck_one 23), .inl (ck_one 5)], ([], [], []), ([], []), [(.inr (some (.inl (ck_one (-1)))), (245 : Nat), ([], [], [((227 : Nat), (285 : Int), (285 : Int), ck_one (-1))])), (.inr (some (.inl ((0 : Int), (7 : Int), []))), (245 : Nat), ([], [], [((227 : Nat), (285 : Int), (285 : Int), ((0 : Int), (7 : Int), []))]))])
set_option maxRecDepth 100000 in
theorem p2_s1081_s {X : Int → Int} {LX : Nat} : ck_Ok p2_O X LX 301 p2_s1081 := ck_okq (cuts := []) (f := 92) ⟨p2_nmu, ck_E0⟩ (by decide +kernel)
set_option maxRecDepth 100000 in
/-- GlacierMailModel.isWaiting -/
noncomputable def p2_s1082 : ck_Sum := (((8 : Nat), (0 : Nat), (0 : Nat)), (245 : Nat), [.inr (.inr (.inl (226 : Nat))), .inl (ck_one 23)], ([], [], zl83), (zl81, []), [(.inr (some (.inl (ck_one 0))), (245 : Nat), ([], [], [])), (.inr (some (.inl (ck_one 1))), (245 : Nat), ([], [], [((226 : Nat), (29 : Int), (29 : Int), ((0 : Int), (299 : Int), [])), ((227 : Nat), (285 : Int), (285 : Int), ck_one (-1)), ((227 : Nat), (280 : Int), (280 : Int), ((0 : Int), (7 : Int), []))]))])
set_option maxRecDepth 100000 in
theorem p2_s1082_s {X : Int → Int} {LX : Nat} : ck_Ok p2_O X LX 302 p2_s1082 := ck_okq (cuts := []) (f := 114) ⟨p2_nmu, ck_E1 (ck_S1 p2_s1080_s ck_S0) (ck_E1 (ck_S1 p2_s1081_s ck_S0) (ck_E1 (ck_S1 p2_s381_s ck_S0) (ck_E1 (ck_S1 p2_s190_s ck_S0) ck_E0)))⟩ (by decide +kernel)
set_option maxRecDepth 100000 in
/-- GlacierMailModel.ofLetter -/
noncomputable def p2_s1083 : ck_Sum := (((0 : Nat), (0 : Nat), (0 : Nat)), (245 : Nat), [.inr (.inr (.inl (226 : Nat))), .inl (ck_one 23), .inl (ck_one 1)], ([], [], []), ([], []), [(.inr (some (.inl (ck_one (-1)))), (245 : Nat), ([], [], [((227 : Nat), (281 : Int), (281 : Int), ck_one (-1))])), (.inr (some (.inl ((0 : Int), (7 : Int), []))), (245 : Nat), ([], [], [((227 : Nat), (281 : Int), (281 : Int), ((0 : Int), (7 : Int), []))]))])
set_option maxRecDepth 100000 in
theorem p2_s1083_s {X : Int → Int} {LX : Nat} : ck_Ok p2_O X LX 301 p2_s1083 := ck_okq (cuts := []) (f := 92) ⟨p2_nmu, ck_E0⟩ (by decide +kernel)
set_option maxRecDepth 100000 in
/-- GlacierMailModel.ofLetter -/
noncomputable def p2_s1084 : ck_Sum := (((0 : Nat), (0 : Nat), (0 : Nat)), (245 : Nat), [.inr (.inr (.inl (226 : Nat))), .inl (ck_one 23), .inl (ck_one 3)], ([], [], []), ([], []), [(.inr (some (.inl ((0 : Int), (299 : Int), []))), (245 : Nat), ([], [], []))])
set_option maxRecDepth 100000 in
theorem p2_s1084_s {X : Int → Int} {LX : Nat} : ck_Ok p2_O X LX 301 p2_s1084 := ck_okq (cuts := []) (f := 92) ⟨p2_nmu, ck_E0⟩ (by decide +kernel)
/-- GlacierMailModel.opens -/
noncomputable def p2_s1085 : ck_Sum := op_os0 23 (.inl (ck_one (-1))) 0 7 (-1) (-1)
theorem p2_s1085_s {X : Int → Int} {LX : Nat} : ck_Ok p2_O X LX 319 p2_s1085 := op_none (by decide) (by decide) (by decide)
/-- GlacierMailModel.opens -/
noncomputable def p2_s1086 : ck_Sum := op_os 23 0 7
theorem p2_s1086_s {X : Int → Int} {LX : Nat} : ck_Ok p2_O X LX 319 p2_s1086 := op_open (by decide) (by decide) (by decide +kernel)
set_option maxRecDepth 100000 in
/-- GlacierMailModel.open -/
noncomputable def p2_s1087 : ck_Sum := (((9 : Nat), (0 : Nat), (0 : Nat)), (245 : Nat), [.inr (.inr (.inl (226 : Nat))), .inl (ck_one 23)], ([], [], zl176), ([((226 : Nat), (0 : Int), (0 : Int)), ((226 : Nat), (6 : Int), (6 : Int)), ((226 : Nat), (17 : Int), (23 : Int)), ((226 : Nat), (26 : Int), (26 : Int)), ((226 : Nat), (29 : Int), (30 : Int)), ((227 : Nat), (14 : Int), (14 : Int)), ((227 : Nat), (285 : Int), (286 : Int)), ((227 : Nat), (323 : Int), (394 : Int)), ((230 : Nat), (0 : Int), (4739 : Int)), ((233 : Nat), (0 : Int), (399 : Int)), ((235 : Nat), (0 : Int), (29699 : Int)), ((236 : Nat), (0 : Int), (299 : Int)), ((237 : Nat), (0 : Int), (299 : Int))], []), [(.inr (some (.inl (ck_one 0))), (245 : Nat), ([], [], zl177)), (.inr (some (.inl ((-299 : Int), (299 : Int), []))), (245 : Nat), ([], [], [((227 : Nat), (285 : Int), (285 : Int), ((0 : Int), (7 : Int), [])), ((227 : Nat), (281 : Int), (281 : Int), ((0 : Int), (7 : Int), [])), ((226 : Nat), (6 : Int), (6 : Int), ((1 : Int), (12 : Int), [((1000027 : Nat), (0 : Int))])), ((226 : Nat), (29 : Int), (29 : Int), ((0 : Int), (299 : Int), [])), ((227 : Nat), (280 : Int), (280 : Int), ((0 : Int), (7 : Int), [])), ((226 : Nat), (0 : Int), (0 : Int), ck_one 0)]))])
set_option maxRecDepth 100000 in
theorem p2_s1087_s {X : Int → Int} {LX : Nat} : ck_Ok p2_O X LX 318 p2_s1087 := ck_okq (cuts := []) (f := 142) ⟨p2_nmu, ck_E1 (ck_S1 p2_s1078_s ck_S0) (ck_E1 (ck_S1 p2_s241_s (ck_S1 p2_s242_s (ck_S1 p2_s244_s (ck_S1 p2_s243_s ck_S0)))) (ck_E1 (ck_S1 p2_s1082_s ck_S0) (ck_E1 (ck_S1 p2_s553_s ck_S0) (ck_E1 (ck_S1 p2_s1083_s (ck_S1 p2_s1084_s ck_S0)) (ck_E1 (ck_S1 p2_s1085_s (ck_S1 p2_s1086_s ck_S0)) (ck_E1 (ck_S1 p2_s190_s ck_S0) ck_E0))))))⟩ (by decide +kernel)
set_option maxRecDepth 100000 in
/-- GlacierMail.years -/
noncomputable def p2_s1088 : ck_Sum := (((6 : Nat), (1 : Nat), (6 : Nat)), (245 : Nat), [.inr (.inr (.inl (1 : Nat))), .inl ((-2147483648 : Int), (0 : Int), [])], ([], [], []), ([], []), [(.inl (0 : Nat), (245 : Nat), ([], [], []))])
set_option maxRecDepth 100000 in
theorem p2_s1088_s {X : Int → Int} {LX : Nat} : ck_Ok p2_O X LX 161 p2_s1088 := ck_okq (cuts := []) (f := 78) ⟨p2_nmu, ck_E0⟩ (by decide +kernel)
set_option maxRecDepth 100000 in
/-- GlacierMail.years -/
noncomputable def p2_s1089 : ck_Sum := (((6 : Nat), (1 : Nat), (6 : Nat)), (245 : Nat), [.inr (.inr (.inl (1 : Nat))), .inl ((51 : Int), (2147483647 : Int), [])], ([], [], []), ([], []), [(.inl (0 : Nat), (245 : Nat), ([], [], []))])
set_option maxRecDepth 100000 in
theorem p2_s1089_s {X : Int → Int} {LX : Nat} : ck_Ok p2_O X LX 161 p2_s1089 := ck_okq (cuts := []) (f := 84) ⟨p2_nmu, ck_E0⟩ (by decide +kernel)
set_option maxRecDepth 100000 in
/-- GlacierMail$Ice.mayOpen -/
noncomputable def p2_s1090 : ck_Sum := (((0 : Nat), (0 : Nat), (0 : Nat)), (245 : Nat), [.inr (.inr (.inl (200 : Nat))), .inl ((0 : Int), (7 : Int), []), .inl ((-1 : Int), (98 : Int), []), .inl ((-299 : Int), (300 : Int), []), .inl ((-2147483648 : Int), (299 : Int), [])], ([], [((3 : Nat), (8 : Int), (0 : Nat))], []), ([], []), [(.inr (some (.inl (ck_one 0))), (245 : Nat), ([], [], []))])
set_option maxRecDepth 100000 in
theorem p2_s1090_s {X : Int → Int} {LX : Nat} : ck_Ok p2_O X LX 164 p2_s1090 := ck_okq (cuts := []) (f := 82) ⟨p2_nmu, ck_E0⟩ (by decide +kernel)
set_option maxRecDepth 100000 in
/-- GlacierMail.openerOf -/
noncomputable def p2_s1091 : ck_Sum := (((1 : Nat), (0 : Nat), (0 : Nat)), (245 : Nat), [.inr (.inr (.inl (1 : Nat))), .inl ((0 : Int), (23 : Int), [])], ([], [((3 : Nat), (8 : Int), (0 : Nat))], [((3 : Nat), (6 : Int), (6 : Int), ((0 : Int), (299 : Int), [((10 : Nat), (0 : Int))]))]), ([], []), [(.inr (some (.inl ((-1 : Int), (299 : Int), []))), (245 : Nat), ([], [], []))])
set_option maxRecDepth 100000 in
theorem p2_s1091_s {X : Int → Int} {LX : Nat} : ck_Ok p2_O X LX 163 p2_s1091 := ck_okq (cuts := [((69 : Nat), [some (.inr (.inr (.inl (1 : Nat)))), some (.inl ((0 : Int), (23 : Int), [])), some (.inl ((-1 : Int), (299 : Int), [])), some (.inl ((-1 : Int), (299 : Int), [])), some (.inl ((-299 : Int), (300 : Int), [])), some (.inl ((0 : Int), (9 : Int), []))], ([], [((3 : Nat), (8 : Int), (0 : Nat))], [((3 : Nat), (6 : Int), (6 : Int), ((0 : Int), (299 : Int), [((10 : Nat), (0 : Int))]))]), (100 : Nat), .inl (5 : Nat), true)]) (f := 234) ⟨p2_nmu, ck_E1 (ck_S1 p2_s335_s (ck_S1 p2_s356_s (ck_S1 p2_s350_s ck_S0))) (ck_E1 (ck_S1 p2_s320_s ck_S0) (ck_E1 (ck_S1 p2_s1090_s ck_S0) ck_E0))⟩ (by decide +kernel)
set_option maxRecDepth 100000 in
/-- GlacierMail$Rows.put -/
noncomputable def p2_s1092 : ck_Sum := (((0 : Nat), (0 : Nat), (0 : Nat)), (245 : Nat), [.inr (.inr (.inl (10 : Nat))), .inl ((0 : Int), (23 : Int), []), .inl (ck_one 5), .inl ((0 : Int), (299 : Int), [])], ([], [], []), (zl137, []), [(.inr none, (245 : Nat), ([], [], []))])
set_option maxRecDepth 100000 in
theorem p2_s1092_s {X : Int → Int} {LX : Nat} : ck_Ok p2_O X LX 45 p2_s1092 := ck_okq (cuts := []) (f := 116) ⟨p2_nmu, ck_E0⟩ (by decide +kernel)
set_option maxRecDepth 100000 in
/-- GlacierMail$Rows.put -/
noncomputable def p2_s1093 : ck_Sum := (((0 : Nat), (0 : Nat), (0 : Nat)), (245 : Nat), [.inr (.inr (.inl (10 : Nat))), .inl ((0 : Int), (23 : Int), []), .inl (ck_one 6), .inl ((0 : Int), (299 : Int), [])], ([], [], []), (zl138, []), [(.inr none, (245 : Nat), ([], [], []))])
set_option maxRecDepth 100000 in
theorem p2_s1093_s {X : Int → Int} {LX : Nat} : ck_Ok p2_O X LX 45 p2_s1093 := ck_okq (cuts := []) (f := 116) ⟨p2_nmu, ck_E0⟩ (by decide +kernel)
set_option maxRecDepth 100000 in
/-- GlacierMail$Rows.put -/
noncomputable def p2_s1094 : ck_Sum := (((0 : Nat), (0 : Nat), (0 : Nat)), (245 : Nat), [.inr (.inr (.inl (14 : Nat))), .inl ((0 : Int), (23 : Int), []), .inl (ck_one 1), .inl ((0 : Int), (23 : Int), [])], ([], [], []), (zl173, []), [(.inr none, (245 : Nat), ([], [], []))])
set_option maxRecDepth 100000 in
theorem p2_s1094_s {X : Int → Int} {LX : Nat} : ck_Ok p2_O X LX 45 p2_s1094 := ck_okq (cuts := []) (f := 116) ⟨p2_nmu, ck_E0⟩ (by decide +kernel)
set_option maxRecDepth 100000 in
/-- GlacierMail$Rows.put -/
noncomputable def p2_s1095 : ck_Sum := (((0 : Nat), (0 : Nat), (0 : Nat)), (245 : Nat), [.inr (.inr (.inl (14 : Nat))), .inl ((0 : Int), (23 : Int), []), .inl (ck_one 2), .inl ((0 : Int), (299 : Int), [])], ([], [], []), (zl174, []), [(.inr none, (245 : Nat), ([], [], []))])
set_option maxRecDepth 100000 in
theorem p2_s1095_s {X : Int → Int} {LX : Nat} : ck_Ok p2_O X LX 45 p2_s1095 := ck_okq (cuts := []) (f := 116) ⟨p2_nmu, ck_E0⟩ (by decide +kernel)
set_option maxRecDepth 100000 in
/-- GlacierMail$Rows.put -/
noncomputable def p2_s1096 : ck_Sum := (((0 : Nat), (0 : Nat), (0 : Nat)), (245 : Nat), [.inr (.inr (.inl (14 : Nat))), .inl (ck_one (-1)), .inl (ck_one 1), .inl ((0 : Int), (23 : Int), [])], ([], [], []), ([], []), [(.inr none, (245 : Nat), ([], [], []))])
set_option maxRecDepth 100000 in
theorem p2_s1096_s {X : Int → Int} {LX : Nat} : ck_Ok p2_O X LX 45 p2_s1096 := ck_okq (cuts := []) (f := 76) ⟨p2_nmu, ck_E0⟩ (by decide +kernel)
set_option maxRecDepth 100000 in
/-- GlacierMail$Rows.put -/
noncomputable def p2_s1097 : ck_Sum := (((0 : Nat), (0 : Nat), (0 : Nat)), (245 : Nat), [.inr (.inr (.inl (14 : Nat))), .inl (ck_one (-1)), .inl (ck_one 2), .inl ((0 : Int), (299 : Int), [])], ([], [], []), ([], []), [(.inr none, (245 : Nat), ([], [], []))])
set_option maxRecDepth 100000 in
theorem p2_s1097_s {X : Int → Int} {LX : Nat} : ck_Ok p2_O X LX 45 p2_s1097 := ck_okq (cuts := []) (f := 76) ⟨p2_nmu, ck_E0⟩ (by decide +kernel)
set_option maxRecDepth 100000 in
/-- GlacierMail$State.openLetter -/
noncomputable def p2_s1098 : ck_Sum := (((1 : Nat), (0 : Nat), (0 : Nat)), (245 : Nat), [.inr (.inr (.inl (3 : Nat))), .inl ((0 : Int), (23 : Int), []), .inl ((0 : Int), (299 : Int), [])], ([], [], [((3 : Nat), (6 : Int), (6 : Int), ((0 : Int), (299 : Int), [((10 : Nat), (0 : Int))]))]), (zl178, []), [(.inr none, (245 : Nat), ([], [], [((14 : Nat), (3 : Int), (3 : Int), ((1 : Int), (24 : Int), []))]))])
set_option maxRecDepth 100000 in
theorem p2_s1098_s {X : Int → Int} {LX : Nat} : ck_Ok p2_O X LX 159 p2_s1098 := ck_okq (cuts := []) (f := 144) ⟨p2_nmu, ck_E1 (ck_S1 p2_s1092_s (ck_S1 p2_s1093_s (ck_S1 p2_s583_s (ck_S1 p2_s1094_s (ck_S1 p2_s1095_s (ck_S1 p2_s586_s (ck_S1 p2_s1096_s (ck_S1 p2_s1097_s ck_S0)))))))) (ck_E1 (ck_S1 p2_s589_s ck_S0) ck_E0)⟩ (by decide +kernel)
set_option maxRecDepth 100000 in
/-- GlacierMail.oneYearMore -/
noncomputable def p2_s1099 : ck_Sum := (((3 : Nat), (0 : Nat), (0 : Nat)), (245 : Nat), [.inr (.inr (.inl (1 : Nat)))], ([], [((3 : Nat), (8 : Int), (0 : Nat))], [((3 : Nat), (6 : Int), (6 : Int), ((0 : Int), (298 : Int), [((10 : Nat), (0 : Int))]))]), ([((3 : Nat), (6 : Int), (6 : Int)), ((11 : Nat), (5 : Int), (6 : Int)), ((11 : Nat), (12 : Int), (13 : Int)), ((11 : Nat), (19 : Int), (20 : Int)), ((11 : Nat), (26 : Int), (27 : Int)), ((11 : Nat), (33 : Int), (34 : Int)), ((11 : Nat), (40 : Int), (41 : Int)), ((11 : Nat), (47 : Int), (48 : Int)), ((11 : Nat), (54 : Int), (55 : Int)), ((11 : Nat), (61 : Int), (62 : Int)), ((11 : Nat), (68 : Int), (69 : Int)), ((11 : Nat), (75 : Int), (76 : Int)), ((11 : Nat), (82 : Int), (83 : Int)), ((11 : Nat), (89 : Int), (90 : Int)), ((11 : Nat), (96 : Int), (97 : Int)), ((11 : Nat), (103 : Int), (104 : Int)), ((11 : Nat), (110 : Int), (111 : Int)), ((11 : Nat), (117 : Int), (118 : Int)), ((11 : Nat), (124 : Int), (125 : Int)), ((11 : Nat), (131 : Int), (132 : Int)), ((11 : Nat), (138 : Int), (139 : Int)), ((11 : Nat), (145 : Int), (146 : Int)), ((11 : Nat), (152 : Int), (153 : Int)), ((11 : Nat), (159 : Int), (160 : Int)), ((11 : Nat), (166 : Int), (167 : Int)), ((14 : Nat), (3 : Int), (3 : Int)), ((15 : Nat), (0 : Int), (71 : Int))], []), [(.inr (some (.inl ((-2147483648 : Int), (2147483647 : Int), []))), (245 : Nat), ([], [], [((3 : Nat), (6 : Int), (6 : Int), ((1 : Int), (299 : Int), [((10 : Nat), (1 : Int))]))]))])
set_option maxRecDepth 100000 in
theorem p2_s1099_s {X : Int → Int} {LX : Nat} : ck_Ok p2_O X LX 162 p2_s1099 := ck_okq (cuts := [((17 : Nat), [some (.inr (.inr (.inl (1 : Nat)))), some (.inl ((-2147483648 : Int), (2147483647 : Int), [])), some (.inl ((0 : Int), (24 : Int), [])), none], ([], [((3 : Nat), (8 : Int), (0 : Nat))], [((3 : Nat), (6 : Int), (6 : Int), ((1 : Int), (299 : Int), [((10 : Nat), (1 : Int))]))]), (100 : Nat), .inl (2 : Nat), true)]) (f := 194) ⟨p2_nmu, ck_E1 (ck_S1 p2_s331_s ck_S0) (ck_E1 (ck_S1 p2_s352_s ck_S0) (ck_E1 (ck_S1 p2_s1091_s ck_S0) (ck_E1 (ck_S1 p2_s1098_s ck_S0) ck_E0)))⟩ (by decide +kernel)
set_option maxRecDepth 100000 in
/-- GlacierMail.years, any number -/
noncomputable def p2_yy : ck_Sum := (((6 : Nat), (1 : Nat), (6 : Nat)), (245 : Nat), [.inr (.inr (.inl (1 : Nat))), .inl ((1 : Int), (50 : Int), [])], ([], zl102, [((3 : Nat), (6 : Int), (6 : Int), ((0 : Int), (299 : Int), [((10 : Nat), (0 : Int))]))]), ([((1 : Nat), (15 : Int), (15 : Int)), ((3 : Nat), (6 : Int), (6 : Int)), ((11 : Nat), (5 : Int), (6 : Int)), ((11 : Nat), (12 : Int), (13 : Int)), ((11 : Nat), (19 : Int), (20 : Int)), ((11 : Nat), (26 : Int), (27 : Int)), ((11 : Nat), (33 : Int), (34 : Int)), ((11 : Nat), (40 : Int), (41 : Int)), ((11 : Nat), (47 : Int), (48 : Int)), ((11 : Nat), (54 : Int), (55 : Int)), ((11 : Nat), (61 : Int), (62 : Int)), ((11 : Nat), (68 : Int), (69 : Int)), ((11 : Nat), (75 : Int), (76 : Int)), ((11 : Nat), (82 : Int), (83 : Int)), ((11 : Nat), (89 : Int), (90 : Int)), ((11 : Nat), (96 : Int), (97 : Int)), ((11 : Nat), (103 : Int), (104 : Int)), ((11 : Nat), (110 : Int), (111 : Int)), ((11 : Nat), (117 : Int), (118 : Int)), ((11 : Nat), (124 : Int), (125 : Int)), ((11 : Nat), (131 : Int), (132 : Int)), ((11 : Nat), (138 : Int), (139 : Int)), ((11 : Nat), (145 : Int), (146 : Int)), ((11 : Nat), (152 : Int), (153 : Int)), ((11 : Nat), (159 : Int), (160 : Int)), ((11 : Nat), (166 : Int), (167 : Int)), ((14 : Nat), (3 : Int), (3 : Int)), ((15 : Nat), (0 : Int), (71 : Int)), ((42 : Nat), (1 : Int), (2 : Int)), ((44 : Nat), (0 : Int), (7 : Int)), ((45 : Nat), (3 : Int), (3 : Int)), ((46 : Nat), (0 : Int), (55 : Int)), ((47 : Nat), (3 : Int), (3 : Int)), ((48 : Nat), (0 : Int), (23 : Int)), ((49 : Nat), (3 : Int), (3 : Int)), ((50 : Nat), (0 : Int), (23 : Int)), ((51 : Nat), (3 : Int), (3 : Int)), ((52 : Nat), (0 : Int), (167 : Int)), ((53 : Nat), (3 : Int), (3 : Int)), ((54 : Nat), (0 : Int), (35 : Int)), ((55 : Nat), (3 : Int), (3 : Int)), ((56 : Nat), (0 : Int), (71 : Int)), ((57 : Nat), (0 : Int), (7 : Int)), ((58 : Nat), (3 : Int), (3 : Int)), ((59 : Nat), (0 : Int), (55 : Int)), ((60 : Nat), (3 : Int), (3 : Int)), ((61 : Nat), (0 : Int), (23 : Int)), ((62 : Nat), (3 : Int), (3 : Int)), ((63 : Nat), (0 : Int), (23 : Int)), ((64 : Nat), (3 : Int), (3 : Int)), ((65 : Nat), (0 : Int), (167 : Int)), ((66 : Nat), (3 : Int), (3 : Int)), ((67 : Nat), (0 : Int), (35 : Int)), ((68 : Nat), (3 : Int), (3 : Int)), ((69 : Nat), (0 : Int), (71 : Int)), ((70 : Nat), (0 : Int), (7 : Int)), ((71 : Nat), (3 : Int), (3 : Int)), ((72 : Nat), (0 : Int), (55 : Int)), ((73 : Nat), (3 : Int), (3 : Int)), ((74 : Nat), (0 : Int), (23 : Int)), ((75 : Nat), (3 : Int), (3 : Int)), ((76 : Nat), (0 : Int), (23 : Int)), ((77 : Nat), (3 : Int), (3 : Int)), ((78 : Nat), (0 : Int), (167 : Int)), ((79 : Nat), (3 : Int), (3 : Int)), ((80 : Nat), (0 : Int), (35 : Int)), ((81 : Nat), (3 : Int), (3 : Int)), ((82 : Nat), (0 : Int), (71 : Int)), ((83 : Nat), (0 : Int), (7 : Int)), ((84 : Nat), (3 : Int), (3 : Int)), ((85 : Nat), (0 : Int), (55 : Int)), ((86 : Nat), (3 : Int), (3 : Int)), ((87 : Nat), (0 : Int), (23 : Int)), ((88 : Nat), (3 : Int), (3 : Int)), ((89 : Nat), (0 : Int), (23 : Int)), ((90 : Nat), (3 : Int), (3 : Int)), ((91 : Nat), (0 : Int), (167 : Int)), ((92 : Nat), (3 : Int), (3 : Int)), ((93 : Nat), (0 : Int), (35 : Int)), ((94 : Nat), (3 : Int), (3 : Int)), ((95 : Nat), (0 : Int), (71 : Int)), ((96 : Nat), (0 : Int), (7 : Int)), ((97 : Nat), (3 : Int), (3 : Int)), ((98 : Nat), (0 : Int), (55 : Int)), ((99 : Nat), (3 : Int), (3 : Int)), ((100 : Nat), (0 : Int), (23 : Int)), ((101 : Nat), (3 : Int), (3 : Int)), ((102 : Nat), (0 : Int), (23 : Int)), ((103 : Nat), (3 : Int), (3 : Int)), ((104 : Nat), (0 : Int), (167 : Int)), ((105 : Nat), (3 : Int), (3 : Int)), ((106 : Nat), (0 : Int), (35 : Int)), ((107 : Nat), (3 : Int), (3 : Int)), ((108 : Nat), (0 : Int), (71 : Int)), ((109 : Nat), (0 : Int), (7 : Int)), ((110 : Nat), (3 : Int), (3 : Int)), ((111 : Nat), (0 : Int), (55 : Int)), ((112 : Nat), (3 : Int), (3 : Int)), ((113 : Nat), (0 : Int), (23 : Int)), ((114 : Nat), (3 : Int), (3 : Int)), ((115 : Nat), (0 : Int), (23 : Int)), ((116 : Nat), (3 : Int), (3 : Int)), ((117 : Nat), (0 : Int), (167 : Int)), ((118 : Nat), (3 : Int), (3 : Int)), ((119 : Nat), (0 : Int), (35 : Int)), ((120 : Nat), (3 : Int), (3 : Int)), ((121 : Nat), (0 : Int), (71 : Int)), ((122 : Nat), (0 : Int), (7 : Int)), ((123 : Nat), (3 : Int), (3 : Int)), ((124 : Nat), (0 : Int), (55 : Int)), ((125 : Nat), (3 : Int), (3 : Int)), ((126 : Nat), (0 : Int), (23 : Int)), ((127 : Nat), (3 : Int), (3 : Int)), ((128 : Nat), (0 : Int), (23 : Int)), ((129 : Nat), (3 : Int), (3 : Int)), ((130 : Nat), (0 : Int), (167 : Int)), ((131 : Nat), (3 : Int), (3 : Int)), ((132 : Nat), (0 : Int), (35 : Int)), ((133 : Nat), (3 : Int), (3 : Int)), ((134 : Nat), (0 : Int), (71 : Int)), ((135 : Nat), (0 : Int), (7 : Int)), ((136 : Nat), (3 : Int), (3 : Int)), ((137 : Nat), (0 : Int), (55 : Int)), ((138 : Nat), (3 : Int), (3 : Int)), ((139 : Nat), (0 : Int), (23 : Int)), ((140 : Nat), (3 : Int), (3 : Int)), ((141 : Nat), (0 : Int), (23 : Int)), ((142 : Nat), (3 : Int), (3 : Int)), ((143 : Nat), (0 : Int), (167 : Int)), ((144 : Nat), (3 : Int), (3 : Int)), ((145 : Nat), (0 : Int), (35 : Int)), ((146 : Nat), (3 : Int), (3 : Int)), ((147 : Nat), (0 : Int), (71 : Int)), ((148 : Nat), (0 : Int), (7 : Int)), ((149 : Nat), (3 : Int), (3 : Int)), ((150 : Nat), (0 : Int), (55 : Int)), ((151 : Nat), (3 : Int), (3 : Int)), ((152 : Nat), (0 : Int), (23 : Int)), ((153 : Nat), (3 : Int), (3 : Int)), ((154 : Nat), (0 : Int), (23 : Int)), ((155 : Nat), (3 : Int), (3 : Int)), ((156 : Nat), (0 : Int), (167 : Int)), ((157 : Nat), (3 : Int), (3 : Int)), ((158 : Nat), (0 : Int), (35 : Int)), ((159 : Nat), (3 : Int), (3 : Int)), ((160 : Nat), (0 : Int), (71 : Int)), ((161 : Nat), (0 : Int), (7 : Int)), ((162 : Nat), (3 : Int), (3 : Int)), ((163 : Nat), (0 : Int), (55 : Int)), ((164 : Nat), (3 : Int), (3 : Int)), ((165 : Nat), (0 : Int), (23 : Int)), ((166 : Nat), (3 : Int), (3 : Int)), ((167 : Nat), (0 : Int), (23 : Int)), ((168 : Nat), (3 : Int), (3 : Int)), ((169 : Nat), (0 : Int), (167 : Int)), ((170 : Nat), (3 : Int), (3 : Int)), ((171 : Nat), (0 : Int), (35 : Int)), ((172 : Nat), (3 : Int), (3 : Int)), ((173 : Nat), (0 : Int), (71 : Int)), ((174 : Nat), (0 : Int), (7 : Int)), ((175 : Nat), (3 : Int), (3 : Int)), ((176 : Nat), (0 : Int), (55 : Int)), ((177 : Nat), (3 : Int), (3 : Int)), ((178 : Nat), (0 : Int), (23 : Int)), ((179 : Nat), (3 : Int), (3 : Int)), ((180 : Nat), (0 : Int), (23 : Int)), ((181 : Nat), (3 : Int), (3 : Int)), ((182 : Nat), (0 : Int), (167 : Int)), ((183 : Nat), (3 : Int), (3 : Int)), ((184 : Nat), (0 : Int), (35 : Int)), ((185 : Nat), (3 : Int), (3 : Int)), ((186 : Nat), (0 : Int), (71 : Int)), ((187 : Nat), (0 : Int), (7 : Int)), ((188 : Nat), (3 : Int), (3 : Int)), ((189 : Nat), (0 : Int), (55 : Int)), ((190 : Nat), (3 : Int), (3 : Int)), ((191 : Nat), (0 : Int), (23 : Int)), ((192 : Nat), (3 : Int), (3 : Int)), ((193 : Nat), (0 : Int), (23 : Int)), ((194 : Nat), (3 : Int), (3 : Int)), ((195 : Nat), (0 : Int), (167 : Int)), ((196 : Nat), (3 : Int), (3 : Int)), ((197 : Nat), (0 : Int), (35 : Int)), ((198 : Nat), (3 : Int), (3 : Int)), ((199 : Nat), (0 : Int), (71 : Int)), ((206 : Nat), (2 : Int), (8 : Int)), ((220 : Nat), (3 : Int), (3 : Int)), ((221 : Nat), (0 : Int), (47 : Int))], zl104), [(.inr (some (.inl ((-2147483648 : Int), (2147483647 : Int), []))), (245 : Nat), ([], zl105, [])), (.inr (some (.inl ((-2147483648 : Int), (2147483647 : Int), []))), (245 : Nat), ([], zl129, [])), (.inr (some (.inl ((-2147483648 : Int), (2147483647 : Int), []))), (245 : Nat), ([], zl127, [])), (.inr (some (.inl ((-2147483648 : Int), (2147483647 : Int), []))), (245 : Nat), ([], zl125, [])), (.inr (some (.inl ((-2147483648 : Int), (2147483647 : Int), []))), (245 : Nat), ([], zl123, [])), (.inr (some (.inl ((-2147483648 : Int), (2147483647 : Int), []))), (245 : Nat), ([], zl121, [])), (.inr (some (.inl ((-2147483648 : Int), (2147483647 : Int), []))), (245 : Nat), ([], zl119, [])), (.inr (some (.inl ((-2147483648 : Int), (2147483647 : Int), []))), (245 : Nat), ([], zl117, [])), (.inr (some (.inl ((-2147483648 : Int), (2147483647 : Int), []))), (245 : Nat), ([], zl115, [])), (.inr (some (.inl ((-2147483648 : Int), (2147483647 : Int), []))), (245 : Nat), ([], zl113, [])), (.inr (some (.inl ((-2147483648 : Int), (2147483647 : Int), []))), (245 : Nat), ([], zl111, [])), (.inr (some (.inl ((-2147483648 : Int), (2147483647 : Int), []))), (245 : Nat), ([], zl109, [])), (.inr (some (.inl ((-2147483648 : Int), (2147483647 : Int), []))), (245 : Nat), ([], zl107, [])), (.inl (0 : Nat), (245 : Nat), ([], zl105, []))])
noncomputable def p2_yy_E : List (Nat × List ck_Sum) := [((154 : Nat), [p2_s529]), ((24 : Nat), [p2_s349]), ((162 : Nat), [p2_s1099])]
noncomputable def p2_yy_RF : List (Nat × Int × Nat) := [((3 : Nat), (8 : Int), (0 : Nat)), ((44 : Nat), (8 : Int), (100044 : Nat)), ((57 : Nat), (8 : Int), (100057 : Nat)), ((70 : Nat), (8 : Int), (100070 : Nat)), ((83 : Nat), (8 : Int), (100083 : Nat)), ((96 : Nat), (8 : Int), (100096 : Nat)), ((109 : Nat), (8 : Int), (100109 : Nat)), ((122 : Nat), (8 : Int), (100122 : Nat)), ((135 : Nat), (8 : Int), (100135 : Nat)), ((148 : Nat), (8 : Int), (100148 : Nat)), ((161 : Nat), (8 : Int), (100161 : Nat)), ((174 : Nat), (8 : Int), (100174 : Nat)), ((187 : Nat), (8 : Int), (100187 : Nat))]
set_option maxRecDepth 100000 in
noncomputable def p2_yy_RS : List (Nat × List (Nat × Int × Nat)) := [((0 : Nat), [((3 : Nat), (8 : Int), (0 : Nat)), ((44 : Nat), (8 : Int), (100044 : Nat)), ((57 : Nat), (8 : Int), (100057 : Nat)), ((70 : Nat), (8 : Int), (100070 : Nat)), ((83 : Nat), (8 : Int), (100083 : Nat)), ((96 : Nat), (8 : Int), (100096 : Nat)), ((109 : Nat), (8 : Int), (100109 : Nat)), ((122 : Nat), (8 : Int), (100122 : Nat)), ((135 : Nat), (8 : Int), (100135 : Nat)), ((148 : Nat), (8 : Int), (100148 : Nat)), ((161 : Nat), (8 : Int), (100161 : Nat)), ((174 : Nat), (8 : Int), (100174 : Nat)), ((187 : Nat), (8 : Int), (100187 : Nat))]), ((2000000 : Nat), [((3 : Nat), (8 : Int), (0 : Nat)), ((44 : Nat), (8 : Int), (0 : Nat)), ((57 : Nat), (8 : Int), (100057 : Nat)), ((70 : Nat), (8 : Int), (100070 : Nat)), ((83 : Nat), (8 : Int), (100083 : Nat)), ((96 : Nat), (8 : Int), (100096 : Nat)), ((109 : Nat), (8 : Int), (100109 : Nat)), ((122 : Nat), (8 : Int), (100122 : Nat)), ((135 : Nat), (8 : Int), (100135 : Nat)), ((148 : Nat), (8 : Int), (100148 : Nat)), ((161 : Nat), (8 : Int), (100161 : Nat)), ((174 : Nat), (8 : Int), (100174 : Nat)), ((187 : Nat), (8 : Int), (100187 : Nat))]), ((2000001 : Nat), [((3 : Nat), (8 : Int), (0 : Nat)), ((44 : Nat), (8 : Int), (100044 : Nat)), ((57 : Nat), (8 : Int), (100057 : Nat)), ((70 : Nat), (8 : Int), (100070 : Nat)), ((83 : Nat), (8 : Int), (100083 : Nat)), ((96 : Nat), (8 : Int), (100096 : Nat)), ((109 : Nat), (8 : Int), (100109 : Nat)), ((122 : Nat), (8 : Int), (100122 : Nat)), ((135 : Nat), (8 : Int), (100135 : Nat)), ((148 : Nat), (8 : Int), (100148 : Nat)), ((161 : Nat), (8 : Int), (100161 : Nat)), ((174 : Nat), (8 : Int), (100174 : Nat)), ((187 : Nat), (8 : Int), (0 : Nat))]), ((2000002 : Nat), [((3 : Nat), (8 : Int), (0 : Nat)), ((44 : Nat), (8 : Int), (100044 : Nat)), ((57 : Nat), (8 : Int), (100057 : Nat)), ((70 : Nat), (8 : Int), (100070 : Nat)), ((83 : Nat), (8 : Int), (100083 : Nat)), ((96 : Nat), (8 : Int), (100096 : Nat)), ((109 : Nat), (8 : Int), (100109 : Nat)), ((122 : Nat), (8 : Int), (100122 : Nat)), ((135 : Nat), (8 : Int), (100135 : Nat)), ((148 : Nat), (8 : Int), (100148 : Nat)), ((161 : Nat), (8 : Int), (100161 : Nat)), ((174 : Nat), (8 : Int), (0 : Nat)), ((187 : Nat), (8 : Int), (100187 : Nat))]), ((2000003 : Nat), [((3 : Nat), (8 : Int), (0 : Nat)), ((44 : Nat), (8 : Int), (100044 : Nat)), ((57 : Nat), (8 : Int), (100057 : Nat)), ((70 : Nat), (8 : Int), (100070 : Nat)), ((83 : Nat), (8 : Int), (100083 : Nat)), ((96 : Nat), (8 : Int), (100096 : Nat)), ((109 : Nat), (8 : Int), (100109 : Nat)), ((122 : Nat), (8 : Int), (100122 : Nat)), ((135 : Nat), (8 : Int), (100135 : Nat)), ((148 : Nat), (8 : Int), (100148 : Nat)), ((161 : Nat), (8 : Int), (0 : Nat)), ((174 : Nat), (8 : Int), (100174 : Nat)), ((187 : Nat), (8 : Int), (100187 : Nat))]), ((2000004 : Nat), [((3 : Nat), (8 : Int), (0 : Nat)), ((44 : Nat), (8 : Int), (100044 : Nat)), ((57 : Nat), (8 : Int), (100057 : Nat)), ((70 : Nat), (8 : Int), (100070 : Nat)), ((83 : Nat), (8 : Int), (100083 : Nat)), ((96 : Nat), (8 : Int), (100096 : Nat)), ((109 : Nat), (8 : Int), (100109 : Nat)), ((122 : Nat), (8 : Int), (100122 : Nat)), ((135 : Nat), (8 : Int), (100135 : Nat)), ((148 : Nat), (8 : Int), (0 : Nat)), ((161 : Nat), (8 : Int), (100161 : Nat)), ((174 : Nat), (8 : Int), (100174 : Nat)), ((187 : Nat), (8 : Int), (100187 : Nat))]), ((2000005 : Nat), [((3 : Nat), (8 : Int), (0 : Nat)), ((44 : Nat), (8 : Int), (100044 : Nat)), ((57 : Nat), (8 : Int), (100057 : Nat)), ((70 : Nat), (8 : Int), (100070 : Nat)), ((83 : Nat), (8 : Int), (100083 : Nat)), ((96 : Nat), (8 : Int), (100096 : Nat)), ((109 : Nat), (8 : Int), (100109 : Nat)), ((122 : Nat), (8 : Int), (100122 : Nat)), ((135 : Nat), (8 : Int), (0 : Nat)), ((148 : Nat), (8 : Int), (100148 : Nat)), ((161 : Nat), (8 : Int), (100161 : Nat)), ((174 : Nat), (8 : Int), (100174 : Nat)), ((187 : Nat), (8 : Int), (100187 : Nat))]), ((2000006 : Nat), [((3 : Nat), (8 : Int), (0 : Nat)), ((44 : Nat), (8 : Int), (100044 : Nat)), ((57 : Nat), (8 : Int), (100057 : Nat)), ((70 : Nat), (8 : Int), (100070 : Nat)), ((83 : Nat), (8 : Int), (100083 : Nat)), ((96 : Nat), (8 : Int), (100096 : Nat)), ((109 : Nat), (8 : Int), (100109 : Nat)), ((122 : Nat), (8 : Int), (0 : Nat)), ((135 : Nat), (8 : Int), (100135 : Nat)), ((148 : Nat), (8 : Int), (100148 : Nat)), ((161 : Nat), (8 : Int), (100161 : Nat)), ((174 : Nat), (8 : Int), (100174 : Nat)), ((187 : Nat), (8 : Int), (100187 : Nat))]), ((2000007 : Nat), [((3 : Nat), (8 : Int), (0 : Nat)), ((44 : Nat), (8 : Int), (100044 : Nat)), ((57 : Nat), (8 : Int), (100057 : Nat)), ((70 : Nat), (8 : Int), (100070 : Nat)), ((83 : Nat), (8 : Int), (100083 : Nat)), ((96 : Nat), (8 : Int), (100096 : Nat)), ((109 : Nat), (8 : Int), (0 : Nat)), ((122 : Nat), (8 : Int), (100122 : Nat)), ((135 : Nat), (8 : Int), (100135 : Nat)), ((148 : Nat), (8 : Int), (100148 : Nat)), ((161 : Nat), (8 : Int), (100161 : Nat)), ((174 : Nat), (8 : Int), (100174 : Nat)), ((187 : Nat), (8 : Int), (100187 : Nat))]), ((2000008 : Nat), [((3 : Nat), (8 : Int), (0 : Nat)), ((44 : Nat), (8 : Int), (100044 : Nat)), ((57 : Nat), (8 : Int), (100057 : Nat)), ((70 : Nat), (8 : Int), (100070 : Nat)), ((83 : Nat), (8 : Int), (100083 : Nat)), ((96 : Nat), (8 : Int), (0 : Nat)), ((109 : Nat), (8 : Int), (100109 : Nat)), ((122 : Nat), (8 : Int), (100122 : Nat)), ((135 : Nat), (8 : Int), (100135 : Nat)), ((148 : Nat), (8 : Int), (100148 : Nat)), ((161 : Nat), (8 : Int), (100161 : Nat)), ((174 : Nat), (8 : Int), (100174 : Nat)), ((187 : Nat), (8 : Int), (100187 : Nat))]), ((2000009 : Nat), [((3 : Nat), (8 : Int), (0 : Nat)), ((44 : Nat), (8 : Int), (100044 : Nat)), ((57 : Nat), (8 : Int), (100057 : Nat)), ((70 : Nat), (8 : Int), (100070 : Nat)), ((83 : Nat), (8 : Int), (0 : Nat)), ((96 : Nat), (8 : Int), (100096 : Nat)), ((109 : Nat), (8 : Int), (100109 : Nat)), ((122 : Nat), (8 : Int), (100122 : Nat)), ((135 : Nat), (8 : Int), (100135 : Nat)), ((148 : Nat), (8 : Int), (100148 : Nat)), ((161 : Nat), (8 : Int), (100161 : Nat)), ((174 : Nat), (8 : Int), (100174 : Nat)), ((187 : Nat), (8 : Int), (100187 : Nat))]), ((2000010 : Nat), [((3 : Nat), (8 : Int), (0 : Nat)), ((44 : Nat), (8 : Int), (100044 : Nat)), ((57 : Nat), (8 : Int), (100057 : Nat)), ((70 : Nat), (8 : Int), (0 : Nat)), ((83 : Nat), (8 : Int), (100083 : Nat)), ((96 : Nat), (8 : Int), (100096 : Nat)), ((109 : Nat), (8 : Int), (100109 : Nat)), ((122 : Nat), (8 : Int), (100122 : Nat)), ((135 : Nat), (8 : Int), (100135 : Nat)), ((148 : Nat), (8 : Int), (100148 : Nat)), ((161 : Nat), (8 : Int), (100161 : Nat)), ((174 : Nat), (8 : Int), (100174 : Nat)), ((187 : Nat), (8 : Int), (100187 : Nat))]), ((2000011 : Nat), [((3 : Nat), (8 : Int), (0 : Nat)), ((44 : Nat), (8 : Int), (100044 : Nat)), ((57 : Nat), (8 : Int), (0 : Nat)), ((70 : Nat), (8 : Int), (100070 : Nat)), ((83 : Nat), (8 : Int), (100083 : Nat)), ((96 : Nat), (8 : Int), (100096 : Nat)), ((109 : Nat), (8 : Int), (100109 : Nat)), ((122 : Nat), (8 : Int), (100122 : Nat)), ((135 : Nat), (8 : Int), (100135 : Nat)), ((148 : Nat), (8 : Int), (100148 : Nat)), ((161 : Nat), (8 : Int), (100161 : Nat)), ((174 : Nat), (8 : Int), (100174 : Nat)), ((187 : Nat), (8 : Int), (100187 : Nat))])]
set_option maxRecDepth 100000 in
theorem p2_yy_a : (decide (p2_yy.2.2.1.length ≤ gm_ml 161) && ck_go p2_O none [] p2_yy_E 161 p2_yy.1.1 p2_yy.2.1 p2_yy.2.2.2.2.1 p2_yy.2.2.2.2.2 [(11, yy_C0 p2_yy_RF)] 170 false [(11, yy_C0 p2_yy_RF, 1, 6, p2_yy.2.1)] p2_yy.1.2.1 p2_yy.1.2.2 0 (p2_yy.2.2.1.map some ++ List.replicate (gm_ml 161 - p2_yy.2.2.1.length) none) [] p2_yy.2.1 p2_yy.2.2.2.1) = true := by decide +kernel
set_option maxRecDepth 100000 in
theorem p2_yy_b : ck_go p2_O none [] p2_yy_E 161 p2_yy.1.1 p2_yy.2.1 p2_yy.2.2.2.2.1 p2_yy.2.2.2.2.2 [] 170 true [] 1 6 26 (yy_A (1, 50, []) none none) [] p2_yy.2.1 (yy_F p2_yy_RF (0, 299, [(10, 0)])) = true := by decide +kernel
set_option maxRecDepth 100000 in
theorem p2_yy_cu : ck_cu (p2_yy_RS.map fun p => (56, yy_C1 p.2 p.1)) = true := by decide +kernel
set_option maxRecDepth 100000 in
theorem p2_yy_c : ck_go p2_O none [] p2_yy_E 161 p2_yy.1.1 p2_yy.2.1 p2_yy.2.2.2.2.1 p2_yy.2.2.2.2.2 (p2_yy_RS.map fun p => (56, yy_C1 p.2 p.1)) 170 true (p2_yy_RS.map fun p => (56, yy_C1 p.2 p.1, 0, 0, p2_yy.2.1)) 1 6 37 (yy_A (1, 50, [(302, 0)]) none none) [] p2_yy.2.1 (yy_F p2_yy_RF (0, 298, [(10, 0), (303, 0)])) = true := by decide +kernel
set_option maxRecDepth 100000 in
theorem p2_yy_d : (p2_yy_RS.all fun p => ck_go p2_O none [] p2_yy_E 161 p2_yy.1.1 p2_yy.2.1 p2_yy.2.2.2.2.1 p2_yy.2.2.2.2.2 [(56, yy_C2 p.2)] 170 true [(56, yy_C2 p.2, 0, 0, p2_yy.2.1)] 0 0 61 (yy_A (1, 50, [(302, 0)]) (some (.inl ck_top)) (some (.inl (0, 49, [(304, 0)])))) [] p2_yy.2.1 (yy_F p.2 (0, 298, [(303, 0)])) && ck_go p2_O none [] p2_yy_E 161 p2_yy.1.1 p2_yy.2.1 p2_yy.2.2.2.2.1 p2_yy.2.2.2.2.2 [] 170 true [] 0 0 74 (yy_A (1, 50, []) (some (.inl ck_top)) none) [] p2_yy.2.1 ([], p.2, [])) = true := by decide +kernel
theorem p2_yy_s {X : Int → Int} {LX : Nat} : ck_Ok p2_O X LX 161 p2_yy := yy_s ⟨p2_nmu, ck_E1 (ck_S1 p2_s529_s ck_S0) (ck_E1 (ck_S1 p2_s349_s ck_S0) (ck_E1 (ck_S1 p2_s1099_s ck_S0) ck_E0))⟩ (by decide +kernel) (by decide +kernel) (by decide +kernel) (by decide) (by decide) (by decide) p2_yy_a p2_yy_b p2_yy_cu p2_yy_c p2_yy_d
end
/-! 78r80a15.sf -/
section
/-! EVERY CALL ENDS, whatever was done before (laid by wip/am/p2k.py). -/
set_option maxRecDepth 100000 in
/-- GlacierMailModel.in -/
noncomputable def p2_s1150 : ck_Sum := (((0 : Nat), (0 : Nat), (0 : Nat)), (245 : Nat), [.inl ((-2147483648 : Int), (0 : Int), []), .inl (ck_one 1), .inl (ck_one 50)], ([], [], []), ([], []), [(.inr (some (.inl (ck_one 0))), (245 : Nat), ([], [], []))])
set_option maxRecDepth 100000 in
theorem p2_s1150_s {X : Int → Int} {LX : Nat} : ck_Ok p2_O X LX 286 p2_s1150 := ck_okq (cuts := []) (f := 80) ⟨p2_nmu, ck_E0⟩ (by decide +kernel)
set_option maxRecDepth 100000 in
/-- GlacierMailModel.years -/
noncomputable def p2_s1151 : ck_Sum := (((1 : Nat), (0 : Nat), (0 : Nat)), (245 : Nat), [.inr (.inr (.inl (226 : Nat))), .inl ((-2147483648 : Int), (0 : Int), [])], ([], [], []), ([((226 : Nat), (0 : Int), (0 : Int))], []), [(.inr (some (.inl (ck_one 0))), (245 : Nat), ([], [], [((226 : Nat), (0 : Int), (0 : Int), ck_one 1)]))])
set_option maxRecDepth 100000 in
theorem p2_s1151_s {X : Int → Int} {LX : Nat} : ck_Ok p2_O X LX 320 p2_s1151 := ck_okq (cuts := []) (f := 102) ⟨p2_nmu, ck_E1 (ck_S1 p2_s1150_s ck_S0) (ck_E1 (ck_S1 p2_s241_s ck_S0) ck_E0)⟩ (by decide +kernel)
set_option maxRecDepth 100000 in
/-- GlacierMailModel.in -/
noncomputable def p2_s1152 : ck_Sum := (((0 : Nat), (0 : Nat), (0 : Nat)), (245 : Nat), [.inl ((51 : Int), (2147483647 : Int), []), .inl (ck_one 1), .inl (ck_one 50)], ([], [], []), ([], []), [(.inr (some (.inl (ck_one 0))), (245 : Nat), ([], [], []))])
set_option maxRecDepth 100000 in
theorem p2_s1152_s {X : Int → Int} {LX : Nat} : ck_Ok p2_O X LX 286 p2_s1152 := ck_okq (cuts := []) (f := 86) ⟨p2_nmu, ck_E0⟩ (by decide +kernel)
set_option maxRecDepth 100000 in
/-- GlacierMailModel.years -/
noncomputable def p2_s1153 : ck_Sum := (((1 : Nat), (0 : Nat), (0 : Nat)), (245 : Nat), [.inr (.inr (.inl (226 : Nat))), .inl ((51 : Int), (2147483647 : Int), [])], ([], [], []), ([((226 : Nat), (0 : Int), (0 : Int))], []), [(.inr (some (.inl (ck_one 0))), (245 : Nat), ([], [], [((226 : Nat), (0 : Int), (0 : Int), ck_one 1)]))])
set_option maxRecDepth 100000 in
theorem p2_s1153_s {X : Int → Int} {LX : Nat} : ck_Ok p2_O X LX 320 p2_s1153 := ck_okq (cuts := []) (f := 102) ⟨p2_nmu, ck_E1 (ck_S1 p2_s1152_s ck_S0) (ck_E1 (ck_S1 p2_s241_s ck_S0) ck_E0)⟩ (by decide +kernel)
set_option maxRecDepth 100000 in
/-- GlacierMailModel.in -/
noncomputable def p2_s1154 : ck_Sum := (((0 : Nat), (0 : Nat), (0 : Nat)), (245 : Nat), [.inl (ck_one 1), .inl (ck_one 1), .inl (ck_one 50)], ([], [], []), ([], []), [(.inr (some (.inl (ck_one 1))), (245 : Nat), ([], [], []))])
set_option maxRecDepth 100000 in
theorem p2_s1154_s {X : Int → Int} {LX : Nat} : ck_Ok p2_O X LX 286 p2_s1154 := ck_okq (cuts := []) (f := 88) ⟨p2_nmu, ck_E0⟩ (by decide +kernel)
set_option maxRecDepth 100000 in
/-- GlacierMailModel.ofLetter -/
noncomputable def p2_s1155 : ck_Sum := (((0 : Nat), (0 : Nat), (0 : Nat)), (245 : Nat), [.inr (.inr (.inl (226 : Nat))), .inl (ck_one 0), .inl (ck_one 2)], ([], [], []), ([], []), [(.inr (some (.inl ((0 : Int), (6 : Int), []))), (245 : Nat), ([], [], []))])
set_option maxRecDepth 100000 in
theorem p2_s1155_s {X : Int → Int} {LX : Nat} : ck_Ok p2_O X LX 301 p2_s1155 := ck_okq (cuts := []) (f := 92) ⟨p2_nmu, ck_E0⟩ (by decide +kernel)
set_option maxRecDepth 100000 in
/-- GlacierMailModel.of -/
noncomputable def p2_s1156 : ck_Sum := (((0 : Nat), (0 : Nat), (0 : Nat)), (245 : Nat), [.inr (.inr (.inl (226 : Nat))), .inl (ck_one (-1)), .inl (ck_one 2)], ([], [], []), ([], []), [(.inr (some (.inl ((0 : Int), (20 : Int), []))), (245 : Nat), ([], [], []))])
set_option maxRecDepth 100000 in
theorem p2_s1156_s {X : Int → Int} {LX : Nat} : ck_Ok p2_O X LX 299 p2_s1156 := ck_okq (cuts := []) (f := 92) ⟨p2_nmu, ck_E0⟩ (by decide +kernel)
set_option maxRecDepth 100000 in
/-- GlacierMailModel.mayOpen -/
noncomputable def p2_s1157 : ck_Sum := (((4 : Nat), (0 : Nat), (0 : Nat)), (245 : Nat), [.inr (.inr (.inl (226 : Nat))), .inl ((0 : Int), (7 : Int), []), .inl ((0 : Int), (23 : Int), [])], ([], [], [((226 : Nat), (29 : Int), (29 : Int), ((0 : Int), (299 : Int), [])), ((227 : Nat), (9 : Int), (9 : Int), ((0 : Int), (299 : Int), [((11 : Nat), (0 : Int))]))]), ([((226 : Nat), (17 : Int), (23 : Int)), ((233 : Nat), (0 : Int), (399 : Int))], []), [(.inr (some (.inl (ck_one 0))), (245 : Nat), ([], [], zl179)), (.inr (some (.inl (ck_one 1))), (245 : Nat), ([], [], zl179))])
set_option maxRecDepth 100000 in
theorem p2_s1157_s {X : Int → Int} {LX : Nat} : ck_Ok p2_O X LX 323 p2_s1157 := ck_okq (cuts := []) (f := 156) ⟨p2_nmu, ck_E1 (ck_S1 p2_s375_s (ck_S1 p2_s377_s ck_S0)) (ck_E1 (ck_S1 p2_s180_s ck_S0) (ck_E1 (ck_S1 p2_s190_s ck_S0) (ck_E1 (ck_S1 sl_S_s ck_S0) ck_E0)))⟩ (by decide +kernel)
set_option maxRecDepth 100000 in
/-- GlacierMailModel.opener -/
noncomputable def p2_s1158 : ck_Sum := (((5 : Nat), (0 : Nat), (0 : Nat)), (245 : Nat), [.inr (.inr (.inl (226 : Nat))), .inl (ck_one 0)], ([], [], zl180), ([((226 : Nat), (17 : Int), (23 : Int)), ((233 : Nat), (0 : Int), (399 : Int))], []), [(.inr (some (.inl (ck_one (-1)))), (245 : Nat), ([], [], [])), (.inr (some (.inl ((0 : Int), (7 : Int), []))), (245 : Nat), ([], [], []))])
set_option maxRecDepth 100000 in
theorem p2_s1158_s {X : Int → Int} {LX : Nat} : ck_Ok p2_O X LX 322 p2_s1158 := ck_okq (cuts := [((31 : Nat), [some (.inr (.inr (.inl (226 : Nat)))), some (.inl (ck_one 0)), some (.inl ((0 : Int), (6 : Int), [])), some (.inl ((0 : Int), (8 : Int), []))], ([], [], [((227 : Nat), (120 : Int), (120 : Int), ((-1 : Int), (7 : Int), [])), ((226 : Nat), (29 : Int), (29 : Int), ((0 : Int), (299 : Int), [])), ((227 : Nat), (9 : Int), (9 : Int), ((1 : Int), (299 : Int), [((11 : Nat), (0 : Int))])), ((227 : Nat), (3 : Int), (3 : Int), ((0 : Int), (8 : Int), [((21 : Nat), (0 : Int))]))]), (100 : Nat), .inl (3 : Nat), true)]) (f := 166) ⟨p2_nmu, ck_E1 (ck_S1 p2_s1155_s (ck_S1 p2_s830_s ck_S0)) (ck_E1 (ck_S1 p2_s1156_s (ck_S1 p2_s569_s ck_S0)) (ck_E1 (ck_S1 p2_s186_s ck_S0) (ck_E1 (ck_S1 p2_s1157_s ck_S0) ck_E0)))⟩ (by decide +kernel)
set_option maxRecDepth 100000 in
/-- GlacierMailModel.ofLetter -/
noncomputable def p2_s1159 : ck_Sum := (((0 : Nat), (0 : Nat), (0 : Nat)), (245 : Nat), [.inr (.inr (.inl (226 : Nat))), .inl (ck_one 1), .inl (ck_one 2)], ([], [], []), ([], []), [(.inr (some (.inl ((0 : Int), (6 : Int), []))), (245 : Nat), ([], [], []))])
set_option maxRecDepth 100000 in
theorem p2_s1159_s {X : Int → Int} {LX : Nat} : ck_Ok p2_O X LX 301 p2_s1159 := ck_okq (cuts := []) (f := 92) ⟨p2_nmu, ck_E0⟩ (by decide +kernel)
set_option maxRecDepth 100000 in
/-- GlacierMailModel.opener -/
noncomputable def p2_s1160 : ck_Sum := (((5 : Nat), (0 : Nat), (0 : Nat)), (245 : Nat), [.inr (.inr (.inl (226 : Nat))), .inl (ck_one 1)], ([], [], zl180), ([((226 : Nat), (17 : Int), (23 : Int)), ((233 : Nat), (0 : Int), (399 : Int))], []), [(.inr (some (.inl (ck_one (-1)))), (245 : Nat), ([], [], [])), (.inr (some (.inl ((0 : Int), (7 : Int), []))), (245 : Nat), ([], [], []))])
set_option maxRecDepth 100000 in
theorem p2_s1160_s {X : Int → Int} {LX : Nat} : ck_Ok p2_O X LX 322 p2_s1160 := ck_okq (cuts := [((31 : Nat), [some (.inr (.inr (.inl (226 : Nat)))), some (.inl (ck_one 1)), some (.inl ((0 : Int), (6 : Int), [])), some (.inl ((0 : Int), (8 : Int), []))], ([], [], [((227 : Nat), (127 : Int), (127 : Int), ((-1 : Int), (7 : Int), [])), ((226 : Nat), (29 : Int), (29 : Int), ((0 : Int), (299 : Int), [])), ((227 : Nat), (9 : Int), (9 : Int), ((1 : Int), (299 : Int), [((11 : Nat), (0 : Int))])), ((227 : Nat), (3 : Int), (3 : Int), ((0 : Int), (8 : Int), [((21 : Nat), (0 : Int))]))]), (100 : Nat), .inl (3 : Nat), true)]) (f := 166) ⟨p2_nmu, ck_E1 (ck_S1 p2_s1159_s (ck_S1 p2_s841_s ck_S0)) (ck_E1 (ck_S1 p2_s1156_s (ck_S1 p2_s569_s ck_S0)) (ck_E1 (ck_S1 p2_s186_s ck_S0) (ck_E1 (ck_S1 p2_s1157_s ck_S0) ck_E0)))⟩ (by decide +kernel)
set_option maxRecDepth 100000 in
/-- GlacierMailModel.ofLetter -/
noncomputable def p2_s1161 : ck_Sum := (((0 : Nat), (0 : Nat), (0 : Nat)), (245 : Nat), [.inr (.inr (.inl (226 : Nat))), .inl (ck_one 2), .inl (ck_one 2)], ([], [], []), ([], []), [(.inr (some (.inl ((0 : Int), (6 : Int), []))), (245 : Nat), ([], [], []))])
set_option maxRecDepth 100000 in
theorem p2_s1161_s {X : Int → Int} {LX : Nat} : ck_Ok p2_O X LX 301 p2_s1161 := ck_okq (cuts := []) (f := 92) ⟨p2_nmu, ck_E0⟩ (by decide +kernel)
set_option maxRecDepth 100000 in
/-- GlacierMailModel.opener -/
noncomputable def p2_s1162 : ck_Sum := (((5 : Nat), (0 : Nat), (0 : Nat)), (245 : Nat), [.inr (.inr (.inl (226 : Nat))), .inl (ck_one 2)], ([], [], zl180), ([((226 : Nat), (17 : Int), (23 : Int)), ((233 : Nat), (0 : Int), (399 : Int))], []), [(.inr (some (.inl (ck_one (-1)))), (245 : Nat), ([], [], [])), (.inr (some (.inl ((0 : Int), (7 : Int), []))), (245 : Nat), ([], [], []))])
set_option maxRecDepth 100000 in
theorem p2_s1162_s {X : Int → Int} {LX : Nat} : ck_Ok p2_O X LX 322 p2_s1162 := ck_okq (cuts := [((31 : Nat), [some (.inr (.inr (.inl (226 : Nat)))), some (.inl (ck_one 2)), some (.inl ((0 : Int), (6 : Int), [])), some (.inl ((0 : Int), (8 : Int), []))], ([], [], [((227 : Nat), (134 : Int), (134 : Int), ((-1 : Int), (7 : Int), [])), ((226 : Nat), (29 : Int), (29 : Int), ((0 : Int), (299 : Int), [])), ((227 : Nat), (9 : Int), (9 : Int), ((1 : Int), (299 : Int), [((11 : Nat), (0 : Int))])), ((227 : Nat), (3 : Int), (3 : Int), ((0 : Int), (8 : Int), [((21 : Nat), (0 : Int))]))]), (100 : Nat), .inl (3 : Nat), true)]) (f := 166) ⟨p2_nmu, ck_E1 (ck_S1 p2_s1161_s (ck_S1 p2_s852_s ck_S0)) (ck_E1 (ck_S1 p2_s1156_s (ck_S1 p2_s569_s ck_S0)) (ck_E1 (ck_S1 p2_s186_s ck_S0) (ck_E1 (ck_S1 p2_s1157_s ck_S0) ck_E0)))⟩ (by decide +kernel)
set_option maxRecDepth 100000 in
/-- GlacierMailModel.ofLetter -/
noncomputable def p2_s1163 : ck_Sum := (((0 : Nat), (0 : Nat), (0 : Nat)), (245 : Nat), [.inr (.inr (.inl (226 : Nat))), .inl (ck_one 3), .inl (ck_one 2)], ([], [], []), ([], []), [(.inr (some (.inl ((0 : Int), (6 : Int), []))), (245 : Nat), ([], [], []))])
set_option maxRecDepth 100000 in
theorem p2_s1163_s {X : Int → Int} {LX : Nat} : ck_Ok p2_O X LX 301 p2_s1163 := ck_okq (cuts := []) (f := 92) ⟨p2_nmu, ck_E0⟩ (by decide +kernel)
set_option maxRecDepth 100000 in
/-- GlacierMailModel.opener -/
noncomputable def p2_s1164 : ck_Sum := (((5 : Nat), (0 : Nat), (0 : Nat)), (245 : Nat), [.inr (.inr (.inl (226 : Nat))), .inl (ck_one 3)], ([], [], zl180), ([((226 : Nat), (17 : Int), (23 : Int)), ((233 : Nat), (0 : Int), (399 : Int))], []), [(.inr (some (.inl (ck_one (-1)))), (245 : Nat), ([], [], [])), (.inr (some (.inl ((0 : Int), (7 : Int), []))), (245 : Nat), ([], [], []))])
set_option maxRecDepth 100000 in
theorem p2_s1164_s {X : Int → Int} {LX : Nat} : ck_Ok p2_O X LX 322 p2_s1164 := ck_okq (cuts := [((31 : Nat), [some (.inr (.inr (.inl (226 : Nat)))), some (.inl (ck_one 3)), some (.inl ((0 : Int), (6 : Int), [])), some (.inl ((0 : Int), (8 : Int), []))], ([], [], [((227 : Nat), (141 : Int), (141 : Int), ((-1 : Int), (7 : Int), [])), ((226 : Nat), (29 : Int), (29 : Int), ((0 : Int), (299 : Int), [])), ((227 : Nat), (9 : Int), (9 : Int), ((1 : Int), (299 : Int), [((11 : Nat), (0 : Int))])), ((227 : Nat), (3 : Int), (3 : Int), ((0 : Int), (8 : Int), [((21 : Nat), (0 : Int))]))]), (100 : Nat), .inl (3 : Nat), true)]) (f := 166) ⟨p2_nmu, ck_E1 (ck_S1 p2_s1163_s (ck_S1 p2_s863_s ck_S0)) (ck_E1 (ck_S1 p2_s1156_s (ck_S1 p2_s569_s ck_S0)) (ck_E1 (ck_S1 p2_s186_s ck_S0) (ck_E1 (ck_S1 p2_s1157_s ck_S0) ck_E0)))⟩ (by decide +kernel)
set_option maxRecDepth 100000 in
/-- GlacierMailModel.ofLetter -/
noncomputable def p2_s1165 : ck_Sum := (((0 : Nat), (0 : Nat), (0 : Nat)), (245 : Nat), [.inr (.inr (.inl (226 : Nat))), .inl (ck_one 4), .inl (ck_one 2)], ([], [], []), ([], []), [(.inr (some (.inl ((0 : Int), (6 : Int), []))), (245 : Nat), ([], [], []))])
set_option maxRecDepth 100000 in
theorem p2_s1165_s {X : Int → Int} {LX : Nat} : ck_Ok p2_O X LX 301 p2_s1165 := ck_okq (cuts := []) (f := 92) ⟨p2_nmu, ck_E0⟩ (by decide +kernel)
set_option maxRecDepth 100000 in
/-- GlacierMailModel.opener -/
noncomputable def p2_s1166 : ck_Sum := (((5 : Nat), (0 : Nat), (0 : Nat)), (245 : Nat), [.inr (.inr (.inl (226 : Nat))), .inl (ck_one 4)], ([], [], zl180), ([((226 : Nat), (17 : Int), (23 : Int)), ((233 : Nat), (0 : Int), (399 : Int))], []), [(.inr (some (.inl (ck_one (-1)))), (245 : Nat), ([], [], [])), (.inr (some (.inl ((0 : Int), (7 : Int), []))), (245 : Nat), ([], [], []))])
set_option maxRecDepth 100000 in
theorem p2_s1166_s {X : Int → Int} {LX : Nat} : ck_Ok p2_O X LX 322 p2_s1166 := ck_okq (cuts := [((31 : Nat), [some (.inr (.inr (.inl (226 : Nat)))), some (.inl (ck_one 4)), some (.inl ((0 : Int), (6 : Int), [])), some (.inl ((0 : Int), (8 : Int), []))], ([], [], [((227 : Nat), (148 : Int), (148 : Int), ((-1 : Int), (7 : Int), [])), ((226 : Nat), (29 : Int), (29 : Int), ((0 : Int), (299 : Int), [])), ((227 : Nat), (9 : Int), (9 : Int), ((1 : Int), (299 : Int), [((11 : Nat), (0 : Int))])), ((227 : Nat), (3 : Int), (3 : Int), ((0 : Int), (8 : Int), [((21 : Nat), (0 : Int))]))]), (100 : Nat), .inl (3 : Nat), true)]) (f := 166) ⟨p2_nmu, ck_E1 (ck_S1 p2_s1165_s (ck_S1 p2_s874_s ck_S0)) (ck_E1 (ck_S1 p2_s1156_s (ck_S1 p2_s569_s ck_S0)) (ck_E1 (ck_S1 p2_s186_s ck_S0) (ck_E1 (ck_S1 p2_s1157_s ck_S0) ck_E0)))⟩ (by decide +kernel)
set_option maxRecDepth 100000 in
/-- GlacierMailModel.ofLetter -/
noncomputable def p2_s1167 : ck_Sum := (((0 : Nat), (0 : Nat), (0 : Nat)), (245 : Nat), [.inr (.inr (.inl (226 : Nat))), .inl (ck_one 5), .inl (ck_one 2)], ([], [], []), ([], []), [(.inr (some (.inl ((0 : Int), (6 : Int), []))), (245 : Nat), ([], [], []))])
set_option maxRecDepth 100000 in
theorem p2_s1167_s {X : Int → Int} {LX : Nat} : ck_Ok p2_O X LX 301 p2_s1167 := ck_okq (cuts := []) (f := 92) ⟨p2_nmu, ck_E0⟩ (by decide +kernel)
set_option maxRecDepth 100000 in
/-- GlacierMailModel.opener -/
noncomputable def p2_s1168 : ck_Sum := (((5 : Nat), (0 : Nat), (0 : Nat)), (245 : Nat), [.inr (.inr (.inl (226 : Nat))), .inl (ck_one 5)], ([], [], zl180), ([((226 : Nat), (17 : Int), (23 : Int)), ((233 : Nat), (0 : Int), (399 : Int))], []), [(.inr (some (.inl (ck_one (-1)))), (245 : Nat), ([], [], [])), (.inr (some (.inl ((0 : Int), (7 : Int), []))), (245 : Nat), ([], [], []))])
set_option maxRecDepth 100000 in
theorem p2_s1168_s {X : Int → Int} {LX : Nat} : ck_Ok p2_O X LX 322 p2_s1168 := ck_okq (cuts := [((31 : Nat), [some (.inr (.inr (.inl (226 : Nat)))), some (.inl (ck_one 5)), some (.inl ((0 : Int), (6 : Int), [])), some (.inl ((0 : Int), (8 : Int), []))], ([], [], [((227 : Nat), (155 : Int), (155 : Int), ((-1 : Int), (7 : Int), [])), ((226 : Nat), (29 : Int), (29 : Int), ((0 : Int), (299 : Int), [])), ((227 : Nat), (9 : Int), (9 : Int), ((1 : Int), (299 : Int), [((11 : Nat), (0 : Int))])), ((227 : Nat), (3 : Int), (3 : Int), ((0 : Int), (8 : Int), [((21 : Nat), (0 : Int))]))]), (100 : Nat), .inl (3 : Nat), true)]) (f := 166) ⟨p2_nmu, ck_E1 (ck_S1 p2_s1167_s (ck_S1 p2_s885_s ck_S0)) (ck_E1 (ck_S1 p2_s1156_s (ck_S1 p2_s569_s ck_S0)) (ck_E1 (ck_S1 p2_s186_s ck_S0) (ck_E1 (ck_S1 p2_s1157_s ck_S0) ck_E0)))⟩ (by decide +kernel)
set_option maxRecDepth 100000 in
/-- GlacierMailModel.ofLetter -/
noncomputable def p2_s1169 : ck_Sum := (((0 : Nat), (0 : Nat), (0 : Nat)), (245 : Nat), [.inr (.inr (.inl (226 : Nat))), .inl (ck_one 6), .inl (ck_one 2)], ([], [], []), ([], []), [(.inr (some (.inl ((0 : Int), (6 : Int), []))), (245 : Nat), ([], [], []))])
set_option maxRecDepth 100000 in
theorem p2_s1169_s {X : Int → Int} {LX : Nat} : ck_Ok p2_O X LX 301 p2_s1169 := ck_okq (cuts := []) (f := 92) ⟨p2_nmu, ck_E0⟩ (by decide +kernel)
set_option maxRecDepth 100000 in
/-- GlacierMailModel.opener -/
noncomputable def p2_s1170 : ck_Sum := (((5 : Nat), (0 : Nat), (0 : Nat)), (245 : Nat), [.inr (.inr (.inl (226 : Nat))), .inl (ck_one 6)], ([], [], zl180), ([((226 : Nat), (17 : Int), (23 : Int)), ((233 : Nat), (0 : Int), (399 : Int))], []), [(.inr (some (.inl (ck_one (-1)))), (245 : Nat), ([], [], [])), (.inr (some (.inl ((0 : Int), (7 : Int), []))), (245 : Nat), ([], [], []))])
set_option maxRecDepth 100000 in
theorem p2_s1170_s {X : Int → Int} {LX : Nat} : ck_Ok p2_O X LX 322 p2_s1170 := ck_okq (cuts := [((31 : Nat), [some (.inr (.inr (.inl (226 : Nat)))), some (.inl (ck_one 6)), some (.inl ((0 : Int), (6 : Int), [])), some (.inl ((0 : Int), (8 : Int), []))], ([], [], [((227 : Nat), (162 : Int), (162 : Int), ((-1 : Int), (7 : Int), [])), ((226 : Nat), (29 : Int), (29 : Int), ((0 : Int), (299 : Int), [])), ((227 : Nat), (9 : Int), (9 : Int), ((1 : Int), (299 : Int), [((11 : Nat), (0 : Int))])), ((227 : Nat), (3 : Int), (3 : Int), ((0 : Int), (8 : Int), [((21 : Nat), (0 : Int))]))]), (100 : Nat), .inl (3 : Nat), true)]) (f := 166) ⟨p2_nmu, ck_E1 (ck_S1 p2_s1169_s (ck_S1 p2_s896_s ck_S0)) (ck_E1 (ck_S1 p2_s1156_s (ck_S1 p2_s569_s ck_S0)) (ck_E1 (ck_S1 p2_s186_s ck_S0) (ck_E1 (ck_S1 p2_s1157_s ck_S0) ck_E0)))⟩ (by decide +kernel)
set_option maxRecDepth 100000 in
/-- GlacierMailModel.ofLetter -/
noncomputable def p2_s1171 : ck_Sum := (((0 : Nat), (0 : Nat), (0 : Nat)), (245 : Nat), [.inr (.inr (.inl (226 : Nat))), .inl (ck_one 7), .inl (ck_one 2)], ([], [], []), ([], []), [(.inr (some (.inl ((0 : Int), (6 : Int), []))), (245 : Nat), ([], [], []))])
set_option maxRecDepth 100000 in
theorem p2_s1171_s {X : Int → Int} {LX : Nat} : ck_Ok p2_O X LX 301 p2_s1171 := ck_okq (cuts := []) (f := 92) ⟨p2_nmu, ck_E0⟩ (by decide +kernel)
set_option maxRecDepth 100000 in
/-- GlacierMailModel.opener -/
noncomputable def p2_s1172 : ck_Sum := (((5 : Nat), (0 : Nat), (0 : Nat)), (245 : Nat), [.inr (.inr (.inl (226 : Nat))), .inl (ck_one 7)], ([], [], zl180), ([((226 : Nat), (17 : Int), (23 : Int)), ((233 : Nat), (0 : Int), (399 : Int))], []), [(.inr (some (.inl (ck_one (-1)))), (245 : Nat), ([], [], [])), (.inr (some (.inl ((0 : Int), (7 : Int), []))), (245 : Nat), ([], [], []))])
set_option maxRecDepth 100000 in
theorem p2_s1172_s {X : Int → Int} {LX : Nat} : ck_Ok p2_O X LX 322 p2_s1172 := ck_okq (cuts := [((31 : Nat), [some (.inr (.inr (.inl (226 : Nat)))), some (.inl (ck_one 7)), some (.inl ((0 : Int), (6 : Int), [])), some (.inl ((0 : Int), (8 : Int), []))], ([], [], [((227 : Nat), (169 : Int), (169 : Int), ((-1 : Int), (7 : Int), [])), ((226 : Nat), (29 : Int), (29 : Int), ((0 : Int), (299 : Int), [])), ((227 : Nat), (9 : Int), (9 : Int), ((1 : Int), (299 : Int), [((11 : Nat), (0 : Int))])), ((227 : Nat), (3 : Int), (3 : Int), ((0 : Int), (8 : Int), [((21 : Nat), (0 : Int))]))]), (100 : Nat), .inl (3 : Nat), true)]) (f := 166) ⟨p2_nmu, ck_E1 (ck_S1 p2_s1171_s (ck_S1 p2_s907_s ck_S0)) (ck_E1 (ck_S1 p2_s1156_s (ck_S1 p2_s569_s ck_S0)) (ck_E1 (ck_S1 p2_s186_s ck_S0) (ck_E1 (ck_S1 p2_s1157_s ck_S0) ck_E0)))⟩ (by decide +kernel)
set_option maxRecDepth 100000 in
/-- GlacierMailModel.ofLetter -/
noncomputable def p2_s1173 : ck_Sum := (((0 : Nat), (0 : Nat), (0 : Nat)), (245 : Nat), [.inr (.inr (.inl (226 : Nat))), .inl (ck_one 8), .inl (ck_one 2)], ([], [], []), ([], []), [(.inr (some (.inl ((0 : Int), (6 : Int), []))), (245 : Nat), ([], [], []))])
set_option maxRecDepth 100000 in
theorem p2_s1173_s {X : Int → Int} {LX : Nat} : ck_Ok p2_O X LX 301 p2_s1173 := ck_okq (cuts := []) (f := 92) ⟨p2_nmu, ck_E0⟩ (by decide +kernel)
set_option maxRecDepth 100000 in
/-- GlacierMailModel.opener -/
noncomputable def p2_s1174 : ck_Sum := (((5 : Nat), (0 : Nat), (0 : Nat)), (245 : Nat), [.inr (.inr (.inl (226 : Nat))), .inl (ck_one 8)], ([], [], zl180), ([((226 : Nat), (17 : Int), (23 : Int)), ((233 : Nat), (0 : Int), (399 : Int))], []), [(.inr (some (.inl (ck_one (-1)))), (245 : Nat), ([], [], [])), (.inr (some (.inl ((0 : Int), (7 : Int), []))), (245 : Nat), ([], [], []))])
set_option maxRecDepth 100000 in
theorem p2_s1174_s {X : Int → Int} {LX : Nat} : ck_Ok p2_O X LX 322 p2_s1174 := ck_okq (cuts := [((31 : Nat), [some (.inr (.inr (.inl (226 : Nat)))), some (.inl (ck_one 8)), some (.inl ((0 : Int), (6 : Int), [])), some (.inl ((0 : Int), (8 : Int), []))], ([], [], [((227 : Nat), (176 : Int), (176 : Int), ((-1 : Int), (7 : Int), [])), ((226 : Nat), (29 : Int), (29 : Int), ((0 : Int), (299 : Int), [])), ((227 : Nat), (9 : Int), (9 : Int), ((1 : Int), (299 : Int), [((11 : Nat), (0 : Int))])), ((227 : Nat), (3 : Int), (3 : Int), ((0 : Int), (8 : Int), [((21 : Nat), (0 : Int))]))]), (100 : Nat), .inl (3 : Nat), true)]) (f := 166) ⟨p2_nmu, ck_E1 (ck_S1 p2_s1173_s (ck_S1 p2_s918_s ck_S0)) (ck_E1 (ck_S1 p2_s1156_s (ck_S1 p2_s569_s ck_S0)) (ck_E1 (ck_S1 p2_s186_s ck_S0) (ck_E1 (ck_S1 p2_s1157_s ck_S0) ck_E0)))⟩ (by decide +kernel)
set_option maxRecDepth 100000 in
/-- GlacierMailModel.ofLetter -/
noncomputable def p2_s1175 : ck_Sum := (((0 : Nat), (0 : Nat), (0 : Nat)), (245 : Nat), [.inr (.inr (.inl (226 : Nat))), .inl (ck_one 9), .inl (ck_one 2)], ([], [], []), ([], []), [(.inr (some (.inl ((0 : Int), (6 : Int), []))), (245 : Nat), ([], [], []))])
set_option maxRecDepth 100000 in
theorem p2_s1175_s {X : Int → Int} {LX : Nat} : ck_Ok p2_O X LX 301 p2_s1175 := ck_okq (cuts := []) (f := 92) ⟨p2_nmu, ck_E0⟩ (by decide +kernel)
set_option maxRecDepth 100000 in
/-- GlacierMailModel.opener -/
noncomputable def p2_s1176 : ck_Sum := (((5 : Nat), (0 : Nat), (0 : Nat)), (245 : Nat), [.inr (.inr (.inl (226 : Nat))), .inl (ck_one 9)], ([], [], zl180), ([((226 : Nat), (17 : Int), (23 : Int)), ((233 : Nat), (0 : Int), (399 : Int))], []), [(.inr (some (.inl (ck_one (-1)))), (245 : Nat), ([], [], [])), (.inr (some (.inl ((0 : Int), (7 : Int), []))), (245 : Nat), ([], [], []))])
set_option maxRecDepth 100000 in
theorem p2_s1176_s {X : Int → Int} {LX : Nat} : ck_Ok p2_O X LX 322 p2_s1176 := ck_okq (cuts := [((31 : Nat), [some (.inr (.inr (.inl (226 : Nat)))), some (.inl (ck_one 9)), some (.inl ((0 : Int), (6 : Int), [])), some (.inl ((0 : Int), (8 : Int), []))], ([], [], [((227 : Nat), (183 : Int), (183 : Int), ((-1 : Int), (7 : Int), [])), ((226 : Nat), (29 : Int), (29 : Int), ((0 : Int), (299 : Int), [])), ((227 : Nat), (9 : Int), (9 : Int), ((1 : Int), (299 : Int), [((11 : Nat), (0 : Int))])), ((227 : Nat), (3 : Int), (3 : Int), ((0 : Int), (8 : Int), [((21 : Nat), (0 : Int))]))]), (100 : Nat), .inl (3 : Nat), true)]) (f := 166) ⟨p2_nmu, ck_E1 (ck_S1 p2_s1175_s (ck_S1 p2_s929_s ck_S0)) (ck_E1 (ck_S1 p2_s1156_s (ck_S1 p2_s569_s ck_S0)) (ck_E1 (ck_S1 p2_s186_s ck_S0) (ck_E1 (ck_S1 p2_s1157_s ck_S0) ck_E0)))⟩ (by decide +kernel)
set_option maxRecDepth 100000 in
/-- GlacierMailModel.ofLetter -/
noncomputable def p2_s1177 : ck_Sum := (((0 : Nat), (0 : Nat), (0 : Nat)), (245 : Nat), [.inr (.inr (.inl (226 : Nat))), .inl (ck_one 10), .inl (ck_one 2)], ([], [], []), ([], []), [(.inr (some (.inl ((0 : Int), (6 : Int), []))), (245 : Nat), ([], [], []))])
set_option maxRecDepth 100000 in
theorem p2_s1177_s {X : Int → Int} {LX : Nat} : ck_Ok p2_O X LX 301 p2_s1177 := ck_okq (cuts := []) (f := 92) ⟨p2_nmu, ck_E0⟩ (by decide +kernel)
set_option maxRecDepth 100000 in
/-- GlacierMailModel.opener -/
noncomputable def p2_s1178 : ck_Sum := (((5 : Nat), (0 : Nat), (0 : Nat)), (245 : Nat), [.inr (.inr (.inl (226 : Nat))), .inl (ck_one 10)], ([], [], zl180), ([((226 : Nat), (17 : Int), (23 : Int)), ((233 : Nat), (0 : Int), (399 : Int))], []), [(.inr (some (.inl (ck_one (-1)))), (245 : Nat), ([], [], [])), (.inr (some (.inl ((0 : Int), (7 : Int), []))), (245 : Nat), ([], [], []))])
set_option maxRecDepth 100000 in
theorem p2_s1178_s {X : Int → Int} {LX : Nat} : ck_Ok p2_O X LX 322 p2_s1178 := ck_okq (cuts := [((31 : Nat), [some (.inr (.inr (.inl (226 : Nat)))), some (.inl (ck_one 10)), some (.inl ((0 : Int), (6 : Int), [])), some (.inl ((0 : Int), (8 : Int), []))], ([], [], [((227 : Nat), (190 : Int), (190 : Int), ((-1 : Int), (7 : Int), [])), ((226 : Nat), (29 : Int), (29 : Int), ((0 : Int), (299 : Int), [])), ((227 : Nat), (9 : Int), (9 : Int), ((1 : Int), (299 : Int), [((11 : Nat), (0 : Int))])), ((227 : Nat), (3 : Int), (3 : Int), ((0 : Int), (8 : Int), [((21 : Nat), (0 : Int))]))]), (100 : Nat), .inl (3 : Nat), true)]) (f := 166) ⟨p2_nmu, ck_E1 (ck_S1 p2_s1177_s (ck_S1 p2_s940_s ck_S0)) (ck_E1 (ck_S1 p2_s1156_s (ck_S1 p2_s569_s ck_S0)) (ck_E1 (ck_S1 p2_s186_s ck_S0) (ck_E1 (ck_S1 p2_s1157_s ck_S0) ck_E0)))⟩ (by decide +kernel)
set_option maxRecDepth 100000 in
/-- GlacierMailModel.ofLetter -/
noncomputable def p2_s1179 : ck_Sum := (((0 : Nat), (0 : Nat), (0 : Nat)), (245 : Nat), [.inr (.inr (.inl (226 : Nat))), .inl (ck_one 11), .inl (ck_one 2)], ([], [], []), ([], []), [(.inr (some (.inl ((0 : Int), (6 : Int), []))), (245 : Nat), ([], [], []))])
set_option maxRecDepth 100000 in
theorem p2_s1179_s {X : Int → Int} {LX : Nat} : ck_Ok p2_O X LX 301 p2_s1179 := ck_okq (cuts := []) (f := 92) ⟨p2_nmu, ck_E0⟩ (by decide +kernel)
set_option maxRecDepth 100000 in
/-- GlacierMailModel.opener -/
noncomputable def p2_s1180 : ck_Sum := (((5 : Nat), (0 : Nat), (0 : Nat)), (245 : Nat), [.inr (.inr (.inl (226 : Nat))), .inl (ck_one 11)], ([], [], zl180), ([((226 : Nat), (17 : Int), (23 : Int)), ((233 : Nat), (0 : Int), (399 : Int))], []), [(.inr (some (.inl (ck_one (-1)))), (245 : Nat), ([], [], [])), (.inr (some (.inl ((0 : Int), (7 : Int), []))), (245 : Nat), ([], [], []))])
set_option maxRecDepth 100000 in
theorem p2_s1180_s {X : Int → Int} {LX : Nat} : ck_Ok p2_O X LX 322 p2_s1180 := ck_okq (cuts := [((31 : Nat), [some (.inr (.inr (.inl (226 : Nat)))), some (.inl (ck_one 11)), some (.inl ((0 : Int), (6 : Int), [])), some (.inl ((0 : Int), (8 : Int), []))], ([], [], [((227 : Nat), (197 : Int), (197 : Int), ((-1 : Int), (7 : Int), [])), ((226 : Nat), (29 : Int), (29 : Int), ((0 : Int), (299 : Int), [])), ((227 : Nat), (9 : Int), (9 : Int), ((1 : Int), (299 : Int), [((11 : Nat), (0 : Int))])), ((227 : Nat), (3 : Int), (3 : Int), ((0 : Int), (8 : Int), [((21 : Nat), (0 : Int))]))]), (100 : Nat), .inl (3 : Nat), true)]) (f := 166) ⟨p2_nmu, ck_E1 (ck_S1 p2_s1179_s (ck_S1 p2_s951_s ck_S0)) (ck_E1 (ck_S1 p2_s1156_s (ck_S1 p2_s569_s ck_S0)) (ck_E1 (ck_S1 p2_s186_s ck_S0) (ck_E1 (ck_S1 p2_s1157_s ck_S0) ck_E0)))⟩ (by decide +kernel)
set_option maxRecDepth 100000 in
/-- GlacierMailModel.ofLetter -/
noncomputable def p2_s1181 : ck_Sum := (((0 : Nat), (0 : Nat), (0 : Nat)), (245 : Nat), [.inr (.inr (.inl (226 : Nat))), .inl (ck_one 12), .inl (ck_one 2)], ([], [], []), ([], []), [(.inr (some (.inl ((0 : Int), (6 : Int), []))), (245 : Nat), ([], [], []))])
set_option maxRecDepth 100000 in
theorem p2_s1181_s {X : Int → Int} {LX : Nat} : ck_Ok p2_O X LX 301 p2_s1181 := ck_okq (cuts := []) (f := 92) ⟨p2_nmu, ck_E0⟩ (by decide +kernel)
set_option maxRecDepth 100000 in
/-- GlacierMailModel.opener -/
noncomputable def p2_s1182 : ck_Sum := (((5 : Nat), (0 : Nat), (0 : Nat)), (245 : Nat), [.inr (.inr (.inl (226 : Nat))), .inl (ck_one 12)], ([], [], zl180), ([((226 : Nat), (17 : Int), (23 : Int)), ((233 : Nat), (0 : Int), (399 : Int))], []), [(.inr (some (.inl (ck_one (-1)))), (245 : Nat), ([], [], [])), (.inr (some (.inl ((0 : Int), (7 : Int), []))), (245 : Nat), ([], [], []))])
set_option maxRecDepth 100000 in
theorem p2_s1182_s {X : Int → Int} {LX : Nat} : ck_Ok p2_O X LX 322 p2_s1182 := ck_okq (cuts := [((31 : Nat), [some (.inr (.inr (.inl (226 : Nat)))), some (.inl (ck_one 12)), some (.inl ((0 : Int), (6 : Int), [])), some (.inl ((0 : Int), (8 : Int), []))], ([], [], [((227 : Nat), (204 : Int), (204 : Int), ((-1 : Int), (7 : Int), [])), ((226 : Nat), (29 : Int), (29 : Int), ((0 : Int), (299 : Int), [])), ((227 : Nat), (9 : Int), (9 : Int), ((1 : Int), (299 : Int), [((11 : Nat), (0 : Int))])), ((227 : Nat), (3 : Int), (3 : Int), ((0 : Int), (8 : Int), [((21 : Nat), (0 : Int))]))]), (100 : Nat), .inl (3 : Nat), true)]) (f := 166) ⟨p2_nmu, ck_E1 (ck_S1 p2_s1181_s (ck_S1 p2_s962_s ck_S0)) (ck_E1 (ck_S1 p2_s1156_s (ck_S1 p2_s569_s ck_S0)) (ck_E1 (ck_S1 p2_s186_s ck_S0) (ck_E1 (ck_S1 p2_s1157_s ck_S0) ck_E0)))⟩ (by decide +kernel)
set_option maxRecDepth 100000 in
/-- GlacierMailModel.ofLetter -/
noncomputable def p2_s1183 : ck_Sum := (((0 : Nat), (0 : Nat), (0 : Nat)), (245 : Nat), [.inr (.inr (.inl (226 : Nat))), .inl (ck_one 13), .inl (ck_one 2)], ([], [], []), ([], []), [(.inr (some (.inl ((0 : Int), (6 : Int), []))), (245 : Nat), ([], [], []))])
set_option maxRecDepth 100000 in
theorem p2_s1183_s {X : Int → Int} {LX : Nat} : ck_Ok p2_O X LX 301 p2_s1183 := ck_okq (cuts := []) (f := 92) ⟨p2_nmu, ck_E0⟩ (by decide +kernel)
set_option maxRecDepth 100000 in
/-- GlacierMailModel.opener -/
noncomputable def p2_s1184 : ck_Sum := (((5 : Nat), (0 : Nat), (0 : Nat)), (245 : Nat), [.inr (.inr (.inl (226 : Nat))), .inl (ck_one 13)], ([], [], zl180), ([((226 : Nat), (17 : Int), (23 : Int)), ((233 : Nat), (0 : Int), (399 : Int))], []), [(.inr (some (.inl (ck_one (-1)))), (245 : Nat), ([], [], [])), (.inr (some (.inl ((0 : Int), (7 : Int), []))), (245 : Nat), ([], [], []))])
set_option maxRecDepth 100000 in
theorem p2_s1184_s {X : Int → Int} {LX : Nat} : ck_Ok p2_O X LX 322 p2_s1184 := ck_okq (cuts := [((31 : Nat), [some (.inr (.inr (.inl (226 : Nat)))), some (.inl (ck_one 13)), some (.inl ((0 : Int), (6 : Int), [])), some (.inl ((0 : Int), (8 : Int), []))], ([], [], [((227 : Nat), (211 : Int), (211 : Int), ((-1 : Int), (7 : Int), [])), ((226 : Nat), (29 : Int), (29 : Int), ((0 : Int), (299 : Int), [])), ((227 : Nat), (9 : Int), (9 : Int), ((1 : Int), (299 : Int), [((11 : Nat), (0 : Int))])), ((227 : Nat), (3 : Int), (3 : Int), ((0 : Int), (8 : Int), [((21 : Nat), (0 : Int))]))]), (100 : Nat), .inl (3 : Nat), true)]) (f := 166) ⟨p2_nmu, ck_E1 (ck_S1 p2_s1183_s (ck_S1 p2_s973_s ck_S0)) (ck_E1 (ck_S1 p2_s1156_s (ck_S1 p2_s569_s ck_S0)) (ck_E1 (ck_S1 p2_s186_s ck_S0) (ck_E1 (ck_S1 p2_s1157_s ck_S0) ck_E0)))⟩ (by decide +kernel)
set_option maxRecDepth 100000 in
/-- GlacierMailModel.ofLetter -/
noncomputable def p2_s1185 : ck_Sum := (((0 : Nat), (0 : Nat), (0 : Nat)), (245 : Nat), [.inr (.inr (.inl (226 : Nat))), .inl (ck_one 14), .inl (ck_one 2)], ([], [], []), ([], []), [(.inr (some (.inl ((0 : Int), (6 : Int), []))), (245 : Nat), ([], [], []))])
set_option maxRecDepth 100000 in
theorem p2_s1185_s {X : Int → Int} {LX : Nat} : ck_Ok p2_O X LX 301 p2_s1185 := ck_okq (cuts := []) (f := 92) ⟨p2_nmu, ck_E0⟩ (by decide +kernel)
set_option maxRecDepth 100000 in
/-- GlacierMailModel.opener -/
noncomputable def p2_s1186 : ck_Sum := (((5 : Nat), (0 : Nat), (0 : Nat)), (245 : Nat), [.inr (.inr (.inl (226 : Nat))), .inl (ck_one 14)], ([], [], zl180), ([((226 : Nat), (17 : Int), (23 : Int)), ((233 : Nat), (0 : Int), (399 : Int))], []), [(.inr (some (.inl (ck_one (-1)))), (245 : Nat), ([], [], [])), (.inr (some (.inl ((0 : Int), (7 : Int), []))), (245 : Nat), ([], [], []))])
set_option maxRecDepth 100000 in
theorem p2_s1186_s {X : Int → Int} {LX : Nat} : ck_Ok p2_O X LX 322 p2_s1186 := ck_okq (cuts := [((31 : Nat), [some (.inr (.inr (.inl (226 : Nat)))), some (.inl (ck_one 14)), some (.inl ((0 : Int), (6 : Int), [])), some (.inl ((0 : Int), (8 : Int), []))], ([], [], [((227 : Nat), (218 : Int), (218 : Int), ((-1 : Int), (7 : Int), [])), ((226 : Nat), (29 : Int), (29 : Int), ((0 : Int), (299 : Int), [])), ((227 : Nat), (9 : Int), (9 : Int), ((1 : Int), (299 : Int), [((11 : Nat), (0 : Int))])), ((227 : Nat), (3 : Int), (3 : Int), ((0 : Int), (8 : Int), [((21 : Nat), (0 : Int))]))]), (100 : Nat), .inl (3 : Nat), true)]) (f := 166) ⟨p2_nmu, ck_E1 (ck_S1 p2_s1185_s (ck_S1 p2_s984_s ck_S0)) (ck_E1 (ck_S1 p2_s1156_s (ck_S1 p2_s569_s ck_S0)) (ck_E1 (ck_S1 p2_s186_s ck_S0) (ck_E1 (ck_S1 p2_s1157_s ck_S0) ck_E0)))⟩ (by decide +kernel)
set_option maxRecDepth 100000 in
/-- GlacierMailModel.ofLetter -/
noncomputable def p2_s1187 : ck_Sum := (((0 : Nat), (0 : Nat), (0 : Nat)), (245 : Nat), [.inr (.inr (.inl (226 : Nat))), .inl (ck_one 15), .inl (ck_one 2)], ([], [], []), ([], []), [(.inr (some (.inl ((0 : Int), (6 : Int), []))), (245 : Nat), ([], [], []))])
set_option maxRecDepth 100000 in
theorem p2_s1187_s {X : Int → Int} {LX : Nat} : ck_Ok p2_O X LX 301 p2_s1187 := ck_okq (cuts := []) (f := 92) ⟨p2_nmu, ck_E0⟩ (by decide +kernel)
set_option maxRecDepth 100000 in
/-- GlacierMailModel.opener -/
noncomputable def p2_s1188 : ck_Sum := (((5 : Nat), (0 : Nat), (0 : Nat)), (245 : Nat), [.inr (.inr (.inl (226 : Nat))), .inl (ck_one 15)], ([], [], zl180), ([((226 : Nat), (17 : Int), (23 : Int)), ((233 : Nat), (0 : Int), (399 : Int))], []), [(.inr (some (.inl (ck_one (-1)))), (245 : Nat), ([], [], [])), (.inr (some (.inl ((0 : Int), (7 : Int), []))), (245 : Nat), ([], [], []))])
set_option maxRecDepth 100000 in
theorem p2_s1188_s {X : Int → Int} {LX : Nat} : ck_Ok p2_O X LX 322 p2_s1188 := ck_okq (cuts := [((31 : Nat), [some (.inr (.inr (.inl (226 : Nat)))), some (.inl (ck_one 15)), some (.inl ((0 : Int), (6 : Int), [])), some (.inl ((0 : Int), (8 : Int), []))], ([], [], [((227 : Nat), (225 : Int), (225 : Int), ((-1 : Int), (7 : Int), [])), ((226 : Nat), (29 : Int), (29 : Int), ((0 : Int), (299 : Int), [])), ((227 : Nat), (9 : Int), (9 : Int), ((1 : Int), (299 : Int), [((11 : Nat), (0 : Int))])), ((227 : Nat), (3 : Int), (3 : Int), ((0 : Int), (8 : Int), [((21 : Nat), (0 : Int))]))]), (100 : Nat), .inl (3 : Nat), true)]) (f := 166) ⟨p2_nmu, ck_E1 (ck_S1 p2_s1187_s (ck_S1 p2_s995_s ck_S0)) (ck_E1 (ck_S1 p2_s1156_s (ck_S1 p2_s569_s ck_S0)) (ck_E1 (ck_S1 p2_s186_s ck_S0) (ck_E1 (ck_S1 p2_s1157_s ck_S0) ck_E0)))⟩ (by decide +kernel)
set_option maxRecDepth 100000 in
/-- GlacierMailModel.ofLetter -/
noncomputable def p2_s1189 : ck_Sum := (((0 : Nat), (0 : Nat), (0 : Nat)), (245 : Nat), [.inr (.inr (.inl (226 : Nat))), .inl (ck_one 16), .inl (ck_one 2)], ([], [], []), ([], []), [(.inr (some (.inl ((0 : Int), (6 : Int), []))), (245 : Nat), ([], [], []))])
set_option maxRecDepth 100000 in
theorem p2_s1189_s {X : Int → Int} {LX : Nat} : ck_Ok p2_O X LX 301 p2_s1189 := ck_okq (cuts := []) (f := 92) ⟨p2_nmu, ck_E0⟩ (by decide +kernel)
set_option maxRecDepth 100000 in
/-- GlacierMailModel.opener -/
noncomputable def p2_s1190 : ck_Sum := (((5 : Nat), (0 : Nat), (0 : Nat)), (245 : Nat), [.inr (.inr (.inl (226 : Nat))), .inl (ck_one 16)], ([], [], zl180), ([((226 : Nat), (17 : Int), (23 : Int)), ((233 : Nat), (0 : Int), (399 : Int))], []), [(.inr (some (.inl (ck_one (-1)))), (245 : Nat), ([], [], [])), (.inr (some (.inl ((0 : Int), (7 : Int), []))), (245 : Nat), ([], [], []))])
set_option maxRecDepth 100000 in
theorem p2_s1190_s {X : Int → Int} {LX : Nat} : ck_Ok p2_O X LX 322 p2_s1190 := ck_okq (cuts := [((31 : Nat), [some (.inr (.inr (.inl (226 : Nat)))), some (.inl (ck_one 16)), some (.inl ((0 : Int), (6 : Int), [])), some (.inl ((0 : Int), (8 : Int), []))], ([], [], [((227 : Nat), (232 : Int), (232 : Int), ((-1 : Int), (7 : Int), [])), ((226 : Nat), (29 : Int), (29 : Int), ((0 : Int), (299 : Int), [])), ((227 : Nat), (9 : Int), (9 : Int), ((1 : Int), (299 : Int), [((11 : Nat), (0 : Int))])), ((227 : Nat), (3 : Int), (3 : Int), ((0 : Int), (8 : Int), [((21 : Nat), (0 : Int))]))]), (100 : Nat), .inl (3 : Nat), true)]) (f := 166) ⟨p2_nmu, ck_E1 (ck_S1 p2_s1189_s (ck_S1 p2_s1006_s ck_S0)) (ck_E1 (ck_S1 p2_s1156_s (ck_S1 p2_s569_s ck_S0)) (ck_E1 (ck_S1 p2_s186_s ck_S0) (ck_E1 (ck_S1 p2_s1157_s ck_S0) ck_E0)))⟩ (by decide +kernel)
set_option maxRecDepth 100000 in
/-- GlacierMailModel.ofLetter -/
noncomputable def p2_s1191 : ck_Sum := (((0 : Nat), (0 : Nat), (0 : Nat)), (245 : Nat), [.inr (.inr (.inl (226 : Nat))), .inl (ck_one 17), .inl (ck_one 2)], ([], [], []), ([], []), [(.inr (some (.inl ((0 : Int), (6 : Int), []))), (245 : Nat), ([], [], []))])
set_option maxRecDepth 100000 in
theorem p2_s1191_s {X : Int → Int} {LX : Nat} : ck_Ok p2_O X LX 301 p2_s1191 := ck_okq (cuts := []) (f := 92) ⟨p2_nmu, ck_E0⟩ (by decide +kernel)
set_option maxRecDepth 100000 in
/-- GlacierMailModel.opener -/
noncomputable def p2_s1192 : ck_Sum := (((5 : Nat), (0 : Nat), (0 : Nat)), (245 : Nat), [.inr (.inr (.inl (226 : Nat))), .inl (ck_one 17)], ([], [], zl180), ([((226 : Nat), (17 : Int), (23 : Int)), ((233 : Nat), (0 : Int), (399 : Int))], []), [(.inr (some (.inl (ck_one (-1)))), (245 : Nat), ([], [], [])), (.inr (some (.inl ((0 : Int), (7 : Int), []))), (245 : Nat), ([], [], []))])
set_option maxRecDepth 100000 in
theorem p2_s1192_s {X : Int → Int} {LX : Nat} : ck_Ok p2_O X LX 322 p2_s1192 := ck_okq (cuts := [((31 : Nat), [some (.inr (.inr (.inl (226 : Nat)))), some (.inl (ck_one 17)), some (.inl ((0 : Int), (6 : Int), [])), some (.inl ((0 : Int), (8 : Int), []))], ([], [], [((227 : Nat), (239 : Int), (239 : Int), ((-1 : Int), (7 : Int), [])), ((226 : Nat), (29 : Int), (29 : Int), ((0 : Int), (299 : Int), [])), ((227 : Nat), (9 : Int), (9 : Int), ((1 : Int), (299 : Int), [((11 : Nat), (0 : Int))])), ((227 : Nat), (3 : Int), (3 : Int), ((0 : Int), (8 : Int), [((21 : Nat), (0 : Int))]))]), (100 : Nat), .inl (3 : Nat), true)]) (f := 166) ⟨p2_nmu, ck_E1 (ck_S1 p2_s1191_s (ck_S1 p2_s1017_s ck_S0)) (ck_E1 (ck_S1 p2_s1156_s (ck_S1 p2_s569_s ck_S0)) (ck_E1 (ck_S1 p2_s186_s ck_S0) (ck_E1 (ck_S1 p2_s1157_s ck_S0) ck_E0)))⟩ (by decide +kernel)
set_option maxRecDepth 100000 in
/-- GlacierMailModel.ofLetter -/
noncomputable def p2_s1193 : ck_Sum := (((0 : Nat), (0 : Nat), (0 : Nat)), (245 : Nat), [.inr (.inr (.inl (226 : Nat))), .inl (ck_one 18), .inl (ck_one 2)], ([], [], []), ([], []), [(.inr (some (.inl ((0 : Int), (6 : Int), []))), (245 : Nat), ([], [], []))])
set_option maxRecDepth 100000 in
theorem p2_s1193_s {X : Int → Int} {LX : Nat} : ck_Ok p2_O X LX 301 p2_s1193 := ck_okq (cuts := []) (f := 92) ⟨p2_nmu, ck_E0⟩ (by decide +kernel)
set_option maxRecDepth 100000 in
/-- GlacierMailModel.opener -/
noncomputable def p2_s1194 : ck_Sum := (((5 : Nat), (0 : Nat), (0 : Nat)), (245 : Nat), [.inr (.inr (.inl (226 : Nat))), .inl (ck_one 18)], ([], [], zl180), ([((226 : Nat), (17 : Int), (23 : Int)), ((233 : Nat), (0 : Int), (399 : Int))], []), [(.inr (some (.inl (ck_one (-1)))), (245 : Nat), ([], [], [])), (.inr (some (.inl ((0 : Int), (7 : Int), []))), (245 : Nat), ([], [], []))])
set_option maxRecDepth 100000 in
theorem p2_s1194_s {X : Int → Int} {LX : Nat} : ck_Ok p2_O X LX 322 p2_s1194 := ck_okq (cuts := [((31 : Nat), [some (.inr (.inr (.inl (226 : Nat)))), some (.inl (ck_one 18)), some (.inl ((0 : Int), (6 : Int), [])), some (.inl ((0 : Int), (8 : Int), []))], ([], [], [((227 : Nat), (246 : Int), (246 : Int), ((-1 : Int), (7 : Int), [])), ((226 : Nat), (29 : Int), (29 : Int), ((0 : Int), (299 : Int), [])), ((227 : Nat), (9 : Int), (9 : Int), ((1 : Int), (299 : Int), [((11 : Nat), (0 : Int))])), ((227 : Nat), (3 : Int), (3 : Int), ((0 : Int), (8 : Int), [((21 : Nat), (0 : Int))]))]), (100 : Nat), .inl (3 : Nat), true)]) (f := 166) ⟨p2_nmu, ck_E1 (ck_S1 p2_s1193_s (ck_S1 p2_s1028_s ck_S0)) (ck_E1 (ck_S1 p2_s1156_s (ck_S1 p2_s569_s ck_S0)) (ck_E1 (ck_S1 p2_s186_s ck_S0) (ck_E1 (ck_S1 p2_s1157_s ck_S0) ck_E0)))⟩ (by decide +kernel)
set_option maxRecDepth 100000 in
/-- GlacierMailModel.ofLetter -/
noncomputable def p2_s1195 : ck_Sum := (((0 : Nat), (0 : Nat), (0 : Nat)), (245 : Nat), [.inr (.inr (.inl (226 : Nat))), .inl (ck_one 19), .inl (ck_one 2)], ([], [], []), ([], []), [(.inr (some (.inl ((0 : Int), (6 : Int), []))), (245 : Nat), ([], [], []))])
set_option maxRecDepth 100000 in
theorem p2_s1195_s {X : Int → Int} {LX : Nat} : ck_Ok p2_O X LX 301 p2_s1195 := ck_okq (cuts := []) (f := 92) ⟨p2_nmu, ck_E0⟩ (by decide +kernel)
set_option maxRecDepth 100000 in
/-- GlacierMailModel.opener -/
noncomputable def p2_s1196 : ck_Sum := (((5 : Nat), (0 : Nat), (0 : Nat)), (245 : Nat), [.inr (.inr (.inl (226 : Nat))), .inl (ck_one 19)], ([], [], zl180), ([((226 : Nat), (17 : Int), (23 : Int)), ((233 : Nat), (0 : Int), (399 : Int))], []), [(.inr (some (.inl (ck_one (-1)))), (245 : Nat), ([], [], [])), (.inr (some (.inl ((0 : Int), (7 : Int), []))), (245 : Nat), ([], [], []))])
set_option maxRecDepth 100000 in
theorem p2_s1196_s {X : Int → Int} {LX : Nat} : ck_Ok p2_O X LX 322 p2_s1196 := ck_okq (cuts := [((31 : Nat), [some (.inr (.inr (.inl (226 : Nat)))), some (.inl (ck_one 19)), some (.inl ((0 : Int), (6 : Int), [])), some (.inl ((0 : Int), (8 : Int), []))], ([], [], [((227 : Nat), (253 : Int), (253 : Int), ((-1 : Int), (7 : Int), [])), ((226 : Nat), (29 : Int), (29 : Int), ((0 : Int), (299 : Int), [])), ((227 : Nat), (9 : Int), (9 : Int), ((1 : Int), (299 : Int), [((11 : Nat), (0 : Int))])), ((227 : Nat), (3 : Int), (3 : Int), ((0 : Int), (8 : Int), [((21 : Nat), (0 : Int))]))]), (100 : Nat), .inl (3 : Nat), true)]) (f := 166) ⟨p2_nmu, ck_E1 (ck_S1 p2_s1195_s (ck_S1 p2_s1039_s ck_S0)) (ck_E1 (ck_S1 p2_s1156_s (ck_S1 p2_s569_s ck_S0)) (ck_E1 (ck_S1 p2_s186_s ck_S0) (ck_E1 (ck_S1 p2_s1157_s ck_S0) ck_E0)))⟩ (by decide +kernel)
set_option maxRecDepth 100000 in
/-- GlacierMailModel.ofLetter -/
noncomputable def p2_s1197 : ck_Sum := (((0 : Nat), (0 : Nat), (0 : Nat)), (245 : Nat), [.inr (.inr (.inl (226 : Nat))), .inl (ck_one 20), .inl (ck_one 2)], ([], [], []), ([], []), [(.inr (some (.inl ((0 : Int), (6 : Int), []))), (245 : Nat), ([], [], []))])
set_option maxRecDepth 100000 in
theorem p2_s1197_s {X : Int → Int} {LX : Nat} : ck_Ok p2_O X LX 301 p2_s1197 := ck_okq (cuts := []) (f := 92) ⟨p2_nmu, ck_E0⟩ (by decide +kernel)
set_option maxRecDepth 100000 in
/-- GlacierMailModel.opener -/
noncomputable def p2_s1198 : ck_Sum := (((5 : Nat), (0 : Nat), (0 : Nat)), (245 : Nat), [.inr (.inr (.inl (226 : Nat))), .inl (ck_one 20)], ([], [], zl180), ([((226 : Nat), (17 : Int), (23 : Int)), ((233 : Nat), (0 : Int), (399 : Int))], []), [(.inr (some (.inl (ck_one (-1)))), (245 : Nat), ([], [], [])), (.inr (some (.inl ((0 : Int), (7 : Int), []))), (245 : Nat), ([], [], []))])
set_option maxRecDepth 100000 in
theorem p2_s1198_s {X : Int → Int} {LX : Nat} : ck_Ok p2_O X LX 322 p2_s1198 := ck_okq (cuts := [((31 : Nat), [some (.inr (.inr (.inl (226 : Nat)))), some (.inl (ck_one 20)), some (.inl ((0 : Int), (6 : Int), [])), some (.inl ((0 : Int), (8 : Int), []))], ([], [], [((227 : Nat), (260 : Int), (260 : Int), ((-1 : Int), (7 : Int), [])), ((226 : Nat), (29 : Int), (29 : Int), ((0 : Int), (299 : Int), [])), ((227 : Nat), (9 : Int), (9 : Int), ((1 : Int), (299 : Int), [((11 : Nat), (0 : Int))])), ((227 : Nat), (3 : Int), (3 : Int), ((0 : Int), (8 : Int), [((21 : Nat), (0 : Int))]))]), (100 : Nat), .inl (3 : Nat), true)]) (f := 166) ⟨p2_nmu, ck_E1 (ck_S1 p2_s1197_s (ck_S1 p2_s1050_s ck_S0)) (ck_E1 (ck_S1 p2_s1156_s (ck_S1 p2_s569_s ck_S0)) (ck_E1 (ck_S1 p2_s186_s ck_S0) (ck_E1 (ck_S1 p2_s1157_s ck_S0) ck_E0)))⟩ (by decide +kernel)
set_option maxRecDepth 100000 in
/-- GlacierMailModel.ofLetter -/
noncomputable def p2_s1199 : ck_Sum := (((0 : Nat), (0 : Nat), (0 : Nat)), (245 : Nat), [.inr (.inr (.inl (226 : Nat))), .inl (ck_one 21), .inl (ck_one 2)], ([], [], []), ([], []), [(.inr (some (.inl ((0 : Int), (6 : Int), []))), (245 : Nat), ([], [], []))])
set_option maxRecDepth 100000 in
theorem p2_s1199_s {X : Int → Int} {LX : Nat} : ck_Ok p2_O X LX 301 p2_s1199 := ck_okq (cuts := []) (f := 92) ⟨p2_nmu, ck_E0⟩ (by decide +kernel)
set_option maxRecDepth 100000 in
/-- GlacierMailModel.opener -/
noncomputable def p2_s1200 : ck_Sum := (((5 : Nat), (0 : Nat), (0 : Nat)), (245 : Nat), [.inr (.inr (.inl (226 : Nat))), .inl (ck_one 21)], ([], [], zl180), ([((226 : Nat), (17 : Int), (23 : Int)), ((233 : Nat), (0 : Int), (399 : Int))], []), [(.inr (some (.inl (ck_one (-1)))), (245 : Nat), ([], [], [])), (.inr (some (.inl ((0 : Int), (7 : Int), []))), (245 : Nat), ([], [], []))])
set_option maxRecDepth 100000 in
theorem p2_s1200_s {X : Int → Int} {LX : Nat} : ck_Ok p2_O X LX 322 p2_s1200 := ck_okq (cuts := [((31 : Nat), [some (.inr (.inr (.inl (226 : Nat)))), some (.inl (ck_one 21)), some (.inl ((0 : Int), (6 : Int), [])), some (.inl ((0 : Int), (8 : Int), []))], ([], [], [((227 : Nat), (267 : Int), (267 : Int), ((-1 : Int), (7 : Int), [])), ((226 : Nat), (29 : Int), (29 : Int), ((0 : Int), (299 : Int), [])), ((227 : Nat), (9 : Int), (9 : Int), ((1 : Int), (299 : Int), [((11 : Nat), (0 : Int))])), ((227 : Nat), (3 : Int), (3 : Int), ((0 : Int), (8 : Int), [((21 : Nat), (0 : Int))]))]), (100 : Nat), .inl (3 : Nat), true)]) (f := 166) ⟨p2_nmu, ck_E1 (ck_S1 p2_s1199_s (ck_S1 p2_s1061_s ck_S0)) (ck_E1 (ck_S1 p2_s1156_s (ck_S1 p2_s569_s ck_S0)) (ck_E1 (ck_S1 p2_s186_s ck_S0) (ck_E1 (ck_S1 p2_s1157_s ck_S0) ck_E0)))⟩ (by decide +kernel)
set_option maxRecDepth 100000 in
/-- GlacierMailModel.ofLetter -/
noncomputable def p2_s1201 : ck_Sum := (((0 : Nat), (0 : Nat), (0 : Nat)), (245 : Nat), [.inr (.inr (.inl (226 : Nat))), .inl (ck_one 22), .inl (ck_one 2)], ([], [], []), ([], []), [(.inr (some (.inl ((0 : Int), (6 : Int), []))), (245 : Nat), ([], [], []))])
set_option maxRecDepth 100000 in
theorem p2_s1201_s {X : Int → Int} {LX : Nat} : ck_Ok p2_O X LX 301 p2_s1201 := ck_okq (cuts := []) (f := 92) ⟨p2_nmu, ck_E0⟩ (by decide +kernel)
set_option maxRecDepth 100000 in
/-- GlacierMailModel.opener -/
noncomputable def p2_s1202 : ck_Sum := (((5 : Nat), (0 : Nat), (0 : Nat)), (245 : Nat), [.inr (.inr (.inl (226 : Nat))), .inl (ck_one 22)], ([], [], zl180), ([((226 : Nat), (17 : Int), (23 : Int)), ((233 : Nat), (0 : Int), (399 : Int))], []), [(.inr (some (.inl (ck_one (-1)))), (245 : Nat), ([], [], [])), (.inr (some (.inl ((0 : Int), (7 : Int), []))), (245 : Nat), ([], [], []))])
set_option maxRecDepth 100000 in
theorem p2_s1202_s {X : Int → Int} {LX : Nat} : ck_Ok p2_O X LX 322 p2_s1202 := ck_okq (cuts := [((31 : Nat), [some (.inr (.inr (.inl (226 : Nat)))), some (.inl (ck_one 22)), some (.inl ((0 : Int), (6 : Int), [])), some (.inl ((0 : Int), (8 : Int), []))], ([], [], [((227 : Nat), (274 : Int), (274 : Int), ((-1 : Int), (7 : Int), [])), ((226 : Nat), (29 : Int), (29 : Int), ((0 : Int), (299 : Int), [])), ((227 : Nat), (9 : Int), (9 : Int), ((1 : Int), (299 : Int), [((11 : Nat), (0 : Int))])), ((227 : Nat), (3 : Int), (3 : Int), ((0 : Int), (8 : Int), [((21 : Nat), (0 : Int))]))]), (100 : Nat), .inl (3 : Nat), true)]) (f := 166) ⟨p2_nmu, ck_E1 (ck_S1 p2_s1201_s (ck_S1 p2_s1072_s ck_S0)) (ck_E1 (ck_S1 p2_s1156_s (ck_S1 p2_s569_s ck_S0)) (ck_E1 (ck_S1 p2_s186_s ck_S0) (ck_E1 (ck_S1 p2_s1157_s ck_S0) ck_E0)))⟩ (by decide +kernel)
set_option maxRecDepth 100000 in
/-- GlacierMailModel.ofLetter -/
noncomputable def p2_s1203 : ck_Sum := (((0 : Nat), (0 : Nat), (0 : Nat)), (245 : Nat), [.inr (.inr (.inl (226 : Nat))), .inl (ck_one 23), .inl (ck_one 2)], ([], [], []), ([], []), [(.inr (some (.inl ((0 : Int), (6 : Int), []))), (245 : Nat), ([], [], []))])
set_option maxRecDepth 100000 in
theorem p2_s1203_s {X : Int → Int} {LX : Nat} : ck_Ok p2_O X LX 301 p2_s1203 := ck_okq (cuts := []) (f := 92) ⟨p2_nmu, ck_E0⟩ (by decide +kernel)
set_option maxRecDepth 100000 in
/-- GlacierMailModel.opener -/
noncomputable def p2_s1204 : ck_Sum := (((5 : Nat), (0 : Nat), (0 : Nat)), (245 : Nat), [.inr (.inr (.inl (226 : Nat))), .inl (ck_one 23)], ([], [], zl180), ([((226 : Nat), (17 : Int), (23 : Int)), ((233 : Nat), (0 : Int), (399 : Int))], []), [(.inr (some (.inl (ck_one (-1)))), (245 : Nat), ([], [], [])), (.inr (some (.inl ((0 : Int), (7 : Int), []))), (245 : Nat), ([], [], []))])
set_option maxRecDepth 100000 in
theorem p2_s1204_s {X : Int → Int} {LX : Nat} : ck_Ok p2_O X LX 322 p2_s1204 := ck_okq (cuts := [((31 : Nat), [some (.inr (.inr (.inl (226 : Nat)))), some (.inl (ck_one 23)), some (.inl ((0 : Int), (6 : Int), [])), some (.inl ((0 : Int), (8 : Int), []))], ([], [], [((227 : Nat), (281 : Int), (281 : Int), ((-1 : Int), (7 : Int), [])), ((226 : Nat), (29 : Int), (29 : Int), ((0 : Int), (299 : Int), [])), ((227 : Nat), (9 : Int), (9 : Int), ((1 : Int), (299 : Int), [((11 : Nat), (0 : Int))])), ((227 : Nat), (3 : Int), (3 : Int), ((0 : Int), (8 : Int), [((21 : Nat), (0 : Int))]))]), (100 : Nat), .inl (3 : Nat), true)]) (f := 166) ⟨p2_nmu, ck_E1 (ck_S1 p2_s1203_s (ck_S1 p2_s1083_s ck_S0)) (ck_E1 (ck_S1 p2_s1156_s (ck_S1 p2_s569_s ck_S0)) (ck_E1 (ck_S1 p2_s186_s ck_S0) (ck_E1 (ck_S1 p2_s1157_s ck_S0) ck_E0)))⟩ (by decide +kernel)
end
/-! 78r80a15b.sf -/
section
/-! THE REFERENCE'S year. -/
set_option maxRecDepth 100000 in
/-- GlacierMailModel.year -/
noncomputable def p2_s1205 : ck_Sum := (((9 : Nat), (0 : Nat), (0 : Nat)), (245 : Nat), [.inr (.inr (.inl (226 : Nat)))], ([], [], [((227 : Nat), (9 : Int), (9 : Int), ((0 : Int), (298 : Int), [((11 : Nat), (0 : Int))])), ((227 : Nat), (2 : Int), (2 : Int), ((0 : Int), (8 : Int), [((20 : Nat), (0 : Int))])), ((227 : Nat), (3 : Int), (3 : Int), ((0 : Int), (8 : Int), [((21 : Nat), (0 : Int))])), ((227 : Nat), (4 : Int), (4 : Int), ((0 : Int), (24 : Int), [((22 : Nat), (0 : Int))])), ((227 : Nat), (5 : Int), (5 : Int), ((0 : Int), (8 : Int), [((23 : Nat), (0 : Int))])), ((227 : Nat), (14 : Int), (14 : Int), ((0 : Int), (24 : Int), [((26 : Nat), (0 : Int))]))]), ([((226 : Nat), (17 : Int), (23 : Int)), ((226 : Nat), (26 : Int), (26 : Int)), ((226 : Nat), (29 : Int), (30 : Int)), ((227 : Nat), (9 : Int), (9 : Int)), ((227 : Nat), (14 : Int), (14 : Int)), ((227 : Nat), (124 : Int), (125 : Int)), ((227 : Nat), (131 : Int), (132 : Int)), ((227 : Nat), (138 : Int), (139 : Int)), ((227 : Nat), (145 : Int), (146 : Int)), ((227 : Nat), (152 : Int), (153 : Int)), ((227 : Nat), (159 : Int), (160 : Int)), ((227 : Nat), (166 : Int), (167 : Int)), ((227 : Nat), (173 : Int), (174 : Int)), ((227 : Nat), (180 : Int), (181 : Int)), ((227 : Nat), (187 : Int), (188 : Int)), ((227 : Nat), (194 : Int), (195 : Int)), ((227 : Nat), (201 : Int), (202 : Int)), ((227 : Nat), (208 : Int), (209 : Int)), ((227 : Nat), (215 : Int), (216 : Int)), ((227 : Nat), (222 : Int), (223 : Int)), ((227 : Nat), (229 : Int), (230 : Int)), ((227 : Nat), (236 : Int), (237 : Int)), ((227 : Nat), (243 : Int), (244 : Int)), ((227 : Nat), (250 : Int), (251 : Int)), ((227 : Nat), (257 : Int), (258 : Int)), ((227 : Nat), (264 : Int), (265 : Int)), ((227 : Nat), (271 : Int), (272 : Int)), ((227 : Nat), (278 : Int), (279 : Int)), ((227 : Nat), (285 : Int), (286 : Int)), ((227 : Nat), (323 : Int), (394 : Int)), ((233 : Nat), (0 : Int), (399 : Int)), ((235 : Nat), (0 : Int), (29699 : Int)), ((236 : Nat), (0 : Int), (299 : Int)), ((237 : Nat), (0 : Int), (299 : Int))], []), [(.inr (some (.inl ((0 : Int), (24 : Int), []))), (245 : Nat), ([], [], [((227 : Nat), (9 : Int), (9 : Int), ((1 : Int), (299 : Int), [((11 : Nat), (1 : Int))]))]))])
noncomputable def p2_s1205_E : List (Nat × List ck_Sum) := [((254 : Nat), [p2_s176]), ((302 : Nat), [p2_s829, p2_s840, p2_s851, p2_s862, p2_s873, p2_s884, p2_s895, p2_s906, p2_s917, p2_s928, p2_s939, p2_s950, p2_s961, p2_s972, p2_s983, p2_s994, p2_s1005, p2_s1016, p2_s1027, p2_s1038, p2_s1049, p2_s1060, p2_s1071, p2_s1082]), ((322 : Nat), [p2_s1158, p2_s1160, p2_s1162, p2_s1164, p2_s1166, p2_s1168, p2_s1170, p2_s1172, p2_s1174, p2_s1176, p2_s1178, p2_s1180, p2_s1182, p2_s1184, p2_s1186, p2_s1188, p2_s1190, p2_s1192, p2_s1194, p2_s1196, p2_s1198, p2_s1200, p2_s1202, p2_s1204]), ((319 : Nat), [p2_s833, p2_s844, p2_s855, p2_s866, p2_s877, p2_s888, p2_s899, p2_s910, p2_s921, p2_s932, p2_s943, p2_s954, p2_s965, p2_s976, p2_s987, p2_s998, p2_s1009, p2_s1020, p2_s1031, p2_s1042, p2_s1053, p2_s1064, p2_s1075, p2_s1086])]
noncomputable def p2_s1205_i : List (Nat × ck_C) := []
set_option maxRecDepth 100000 in
noncomputable def p2_s1205_l : List ck_H := [((15 : Nat), ([some (.inr (.inr (.inl (226 : Nat)))), some (.inl ((0 : Int), (24 : Int), [])), some (.inl (ck_one 24)), some (.inl ((-1 : Int), (7 : Int), []))], ([], [], [((227 : Nat), (9 : Int), (9 : Int), ((1 : Int), (299 : Int), [((11 : Nat), (1 : Int))])), ((227 : Nat), (2 : Int), (2 : Int), ((0 : Int), (8 : Int), [((20 : Nat), (0 : Int))])), ((227 : Nat), (3 : Int), (3 : Int), ((0 : Int), (8 : Int), [((21 : Nat), (0 : Int))])), ((227 : Nat), (4 : Int), (4 : Int), ((24 : Int), (24 : Int), [((22 : Nat), (0 : Int))])), ((227 : Nat), (5 : Int), (5 : Int), ((0 : Int), (8 : Int), [((23 : Nat), (0 : Int))]))]), (2000000 : Nat), .inl (1 : Nat), true), (0 : Nat), (0 : Nat), (245 : Nat)), ((15 : Nat), ([some (.inr (.inr (.inl (226 : Nat)))), some (.inl ((0 : Int), (23 : Int), [])), some (.inl (ck_one 23)), some (.inl ((-1 : Int), (7 : Int), []))], ([], [], [((227 : Nat), (9 : Int), (9 : Int), ((1 : Int), (299 : Int), [((11 : Nat), (1 : Int))])), ((227 : Nat), (2 : Int), (2 : Int), ((0 : Int), (8 : Int), [((20 : Nat), (0 : Int))])), ((227 : Nat), (3 : Int), (3 : Int), ((0 : Int), (8 : Int), [((21 : Nat), (0 : Int))])), ((227 : Nat), (4 : Int), (4 : Int), ((23 : Int), (24 : Int), [((22 : Nat), (0 : Int))])), ((227 : Nat), (5 : Int), (5 : Int), ((0 : Int), (8 : Int), [((23 : Nat), (0 : Int))]))]), (2000001 : Nat), .inl (1 : Nat), true), (0 : Nat), (0 : Nat), (245 : Nat)), ((15 : Nat), ([some (.inr (.inr (.inl (226 : Nat)))), some (.inl ((0 : Int), (22 : Int), [])), some (.inl (ck_one 22)), some (.inl ((-1 : Int), (7 : Int), []))], ([], [], [((227 : Nat), (9 : Int), (9 : Int), ((1 : Int), (299 : Int), [((11 : Nat), (1 : Int))])), ((227 : Nat), (2 : Int), (2 : Int), ((0 : Int), (8 : Int), [((20 : Nat), (0 : Int))])), ((227 : Nat), (3 : Int), (3 : Int), ((0 : Int), (8 : Int), [((21 : Nat), (0 : Int))])), ((227 : Nat), (4 : Int), (4 : Int), ((22 : Int), (24 : Int), [((22 : Nat), (0 : Int))])), ((227 : Nat), (5 : Int), (5 : Int), ((0 : Int), (8 : Int), [((23 : Nat), (0 : Int))]))]), (2000002 : Nat), .inl (1 : Nat), true), (0 : Nat), (0 : Nat), (245 : Nat)), ((15 : Nat), ([some (.inr (.inr (.inl (226 : Nat)))), some (.inl ((0 : Int), (21 : Int), [])), some (.inl (ck_one 21)), some (.inl ((-1 : Int), (7 : Int), []))], ([], [], [((227 : Nat), (9 : Int), (9 : Int), ((1 : Int), (299 : Int), [((11 : Nat), (1 : Int))])), ((227 : Nat), (2 : Int), (2 : Int), ((0 : Int), (8 : Int), [((20 : Nat), (0 : Int))])), ((227 : Nat), (3 : Int), (3 : Int), ((0 : Int), (8 : Int), [((21 : Nat), (0 : Int))])), ((227 : Nat), (4 : Int), (4 : Int), ((21 : Int), (24 : Int), [((22 : Nat), (0 : Int))])), ((227 : Nat), (5 : Int), (5 : Int), ((0 : Int), (8 : Int), [((23 : Nat), (0 : Int))]))]), (2000003 : Nat), .inl (1 : Nat), true), (0 : Nat), (0 : Nat), (245 : Nat)), ((15 : Nat), ([some (.inr (.inr (.inl (226 : Nat)))), some (.inl ((0 : Int), (20 : Int), [])), some (.inl (ck_one 20)), some (.inl ((-1 : Int), (7 : Int), []))], ([], [], [((227 : Nat), (9 : Int), (9 : Int), ((1 : Int), (299 : Int), [((11 : Nat), (1 : Int))])), ((227 : Nat), (2 : Int), (2 : Int), ((0 : Int), (8 : Int), [((20 : Nat), (0 : Int))])), ((227 : Nat), (3 : Int), (3 : Int), ((0 : Int), (8 : Int), [((21 : Nat), (0 : Int))])), ((227 : Nat), (4 : Int), (4 : Int), ((20 : Int), (24 : Int), [((22 : Nat), (0 : Int))])), ((227 : Nat), (5 : Int), (5 : Int), ((0 : Int), (8 : Int), [((23 : Nat), (0 : Int))]))]), (2000004 : Nat), .inl (1 : Nat), true), (0 : Nat), (0 : Nat), (245 : Nat)), ((15 : Nat), ([some (.inr (.inr (.inl (226 : Nat)))), some (.inl ((0 : Int), (19 : Int), [])), some (.inl (ck_one 19)), some (.inl ((-1 : Int), (7 : Int), []))], ([], [], [((227 : Nat), (9 : Int), (9 : Int), ((1 : Int), (299 : Int), [((11 : Nat), (1 : Int))])), ((227 : Nat), (2 : Int), (2 : Int), ((0 : Int), (8 : Int), [((20 : Nat), (0 : Int))])), ((227 : Nat), (3 : Int), (3 : Int), ((0 : Int), (8 : Int), [((21 : Nat), (0 : Int))])), ((227 : Nat), (4 : Int), (4 : Int), ((19 : Int), (24 : Int), [((22 : Nat), (0 : Int))])), ((227 : Nat), (5 : Int), (5 : Int), ((0 : Int), (8 : Int), [((23 : Nat), (0 : Int))]))]), (2000005 : Nat), .inl (1 : Nat), true), (0 : Nat), (0 : Nat), (245 : Nat)), ((15 : Nat), ([some (.inr (.inr (.inl (226 : Nat)))), some (.inl ((0 : Int), (18 : Int), [])), some (.inl (ck_one 18)), some (.inl ((-1 : Int), (7 : Int), []))], ([], [], [((227 : Nat), (9 : Int), (9 : Int), ((1 : Int), (299 : Int), [((11 : Nat), (1 : Int))])), ((227 : Nat), (2 : Int), (2 : Int), ((0 : Int), (8 : Int), [((20 : Nat), (0 : Int))])), ((227 : Nat), (3 : Int), (3 : Int), ((0 : Int), (8 : Int), [((21 : Nat), (0 : Int))])), ((227 : Nat), (4 : Int), (4 : Int), ((18 : Int), (24 : Int), [((22 : Nat), (0 : Int))])), ((227 : Nat), (5 : Int), (5 : Int), ((0 : Int), (8 : Int), [((23 : Nat), (0 : Int))]))]), (2000006 : Nat), .inl (1 : Nat), true), (0 : Nat), (0 : Nat), (245 : Nat)), ((15 : Nat), ([some (.inr (.inr (.inl (226 : Nat)))), some (.inl ((0 : Int), (17 : Int), [])), some (.inl (ck_one 17)), some (.inl ((-1 : Int), (7 : Int), []))], ([], [], [((227 : Nat), (9 : Int), (9 : Int), ((1 : Int), (299 : Int), [((11 : Nat), (1 : Int))])), ((227 : Nat), (2 : Int), (2 : Int), ((0 : Int), (8 : Int), [((20 : Nat), (0 : Int))])), ((227 : Nat), (3 : Int), (3 : Int), ((0 : Int), (8 : Int), [((21 : Nat), (0 : Int))])), ((227 : Nat), (4 : Int), (4 : Int), ((17 : Int), (24 : Int), [((22 : Nat), (0 : Int))])), ((227 : Nat), (5 : Int), (5 : Int), ((0 : Int), (8 : Int), [((23 : Nat), (0 : Int))]))]), (2000007 : Nat), .inl (1 : Nat), true), (0 : Nat), (0 : Nat), (245 : Nat)), ((15 : Nat), ([some (.inr (.inr (.inl (226 : Nat)))), some (.inl ((0 : Int), (16 : Int), [])), some (.inl (ck_one 16)), some (.inl ((-1 : Int), (7 : Int), []))], ([], [], [((227 : Nat), (9 : Int), (9 : Int), ((1 : Int), (299 : Int), [((11 : Nat), (1 : Int))])), ((227 : Nat), (2 : Int), (2 : Int), ((0 : Int), (8 : Int), [((20 : Nat), (0 : Int))])), ((227 : Nat), (3 : Int), (3 : Int), ((0 : Int), (8 : Int), [((21 : Nat), (0 : Int))])), ((227 : Nat), (4 : Int), (4 : Int), ((16 : Int), (24 : Int), [((22 : Nat), (0 : Int))])), ((227 : Nat), (5 : Int), (5 : Int), ((0 : Int), (8 : Int), [((23 : Nat), (0 : Int))]))]), (2000008 : Nat), .inl (1 : Nat), true), (0 : Nat), (0 : Nat), (245 : Nat)), ((15 : Nat), ([some (.inr (.inr (.inl (226 : Nat)))), some (.inl ((0 : Int), (15 : Int), [])), some (.inl (ck_one 15)), some (.inl ((-1 : Int), (7 : Int), []))], ([], [], [((227 : Nat), (9 : Int), (9 : Int), ((1 : Int), (299 : Int), [((11 : Nat), (1 : Int))])), ((227 : Nat), (2 : Int), (2 : Int), ((0 : Int), (8 : Int), [((20 : Nat), (0 : Int))])), ((227 : Nat), (3 : Int), (3 : Int), ((0 : Int), (8 : Int), [((21 : Nat), (0 : Int))])), ((227 : Nat), (4 : Int), (4 : Int), ((15 : Int), (24 : Int), [((22 : Nat), (0 : Int))])), ((227 : Nat), (5 : Int), (5 : Int), ((0 : Int), (8 : Int), [((23 : Nat), (0 : Int))]))]), (2000009 : Nat), .inl (1 : Nat), true), (0 : Nat), (0 : Nat), (245 : Nat)), ((15 : Nat), ([some (.inr (.inr (.inl (226 : Nat)))), some (.inl ((0 : Int), (14 : Int), [])), some (.inl (ck_one 14)), some (.inl ((-1 : Int), (7 : Int), []))], ([], [], [((227 : Nat), (9 : Int), (9 : Int), ((1 : Int), (299 : Int), [((11 : Nat), (1 : Int))])), ((227 : Nat), (2 : Int), (2 : Int), ((0 : Int), (8 : Int), [((20 : Nat), (0 : Int))])), ((227 : Nat), (3 : Int), (3 : Int), ((0 : Int), (8 : Int), [((21 : Nat), (0 : Int))])), ((227 : Nat), (4 : Int), (4 : Int), ((14 : Int), (24 : Int), [((22 : Nat), (0 : Int))])), ((227 : Nat), (5 : Int), (5 : Int), ((0 : Int), (8 : Int), [((23 : Nat), (0 : Int))]))]), (2000010 : Nat), .inl (1 : Nat), true), (0 : Nat), (0 : Nat), (245 : Nat)), ((15 : Nat), ([some (.inr (.inr (.inl (226 : Nat)))), some (.inl ((0 : Int), (13 : Int), [])), some (.inl (ck_one 13)), some (.inl ((-1 : Int), (7 : Int), []))], ([], [], [((227 : Nat), (9 : Int), (9 : Int), ((1 : Int), (299 : Int), [((11 : Nat), (1 : Int))])), ((227 : Nat), (2 : Int), (2 : Int), ((0 : Int), (8 : Int), [((20 : Nat), (0 : Int))])), ((227 : Nat), (3 : Int), (3 : Int), ((0 : Int), (8 : Int), [((21 : Nat), (0 : Int))])), ((227 : Nat), (4 : Int), (4 : Int), ((13 : Int), (24 : Int), [((22 : Nat), (0 : Int))])), ((227 : Nat), (5 : Int), (5 : Int), ((0 : Int), (8 : Int), [((23 : Nat), (0 : Int))]))]), (2000011 : Nat), .inl (1 : Nat), true), (0 : Nat), (0 : Nat), (245 : Nat)), ((15 : Nat), ([some (.inr (.inr (.inl (226 : Nat)))), some (.inl ((0 : Int), (12 : Int), [])), some (.inl (ck_one 12)), some (.inl ((-1 : Int), (7 : Int), []))], ([], [], [((227 : Nat), (9 : Int), (9 : Int), ((1 : Int), (299 : Int), [((11 : Nat), (1 : Int))])), ((227 : Nat), (2 : Int), (2 : Int), ((0 : Int), (8 : Int), [((20 : Nat), (0 : Int))])), ((227 : Nat), (3 : Int), (3 : Int), ((0 : Int), (8 : Int), [((21 : Nat), (0 : Int))])), ((227 : Nat), (4 : Int), (4 : Int), ((12 : Int), (24 : Int), [((22 : Nat), (0 : Int))])), ((227 : Nat), (5 : Int), (5 : Int), ((0 : Int), (8 : Int), [((23 : Nat), (0 : Int))]))]), (2000012 : Nat), .inl (1 : Nat), true), (0 : Nat), (0 : Nat), (245 : Nat)), ((15 : Nat), ([some (.inr (.inr (.inl (226 : Nat)))), some (.inl ((0 : Int), (11 : Int), [])), some (.inl (ck_one 11)), some (.inl ((-1 : Int), (7 : Int), []))], ([], [], [((227 : Nat), (9 : Int), (9 : Int), ((1 : Int), (299 : Int), [((11 : Nat), (1 : Int))])), ((227 : Nat), (2 : Int), (2 : Int), ((0 : Int), (8 : Int), [((20 : Nat), (0 : Int))])), ((227 : Nat), (3 : Int), (3 : Int), ((0 : Int), (8 : Int), [((21 : Nat), (0 : Int))])), ((227 : Nat), (4 : Int), (4 : Int), ((11 : Int), (24 : Int), [((22 : Nat), (0 : Int))])), ((227 : Nat), (5 : Int), (5 : Int), ((0 : Int), (8 : Int), [((23 : Nat), (0 : Int))]))]), (2000013 : Nat), .inl (1 : Nat), true), (0 : Nat), (0 : Nat), (245 : Nat)), ((15 : Nat), ([some (.inr (.inr (.inl (226 : Nat)))), some (.inl ((0 : Int), (10 : Int), [])), some (.inl (ck_one 10)), some (.inl ((-1 : Int), (7 : Int), []))], ([], [], [((227 : Nat), (9 : Int), (9 : Int), ((1 : Int), (299 : Int), [((11 : Nat), (1 : Int))])), ((227 : Nat), (2 : Int), (2 : Int), ((0 : Int), (8 : Int), [((20 : Nat), (0 : Int))])), ((227 : Nat), (3 : Int), (3 : Int), ((0 : Int), (8 : Int), [((21 : Nat), (0 : Int))])), ((227 : Nat), (4 : Int), (4 : Int), ((10 : Int), (24 : Int), [((22 : Nat), (0 : Int))])), ((227 : Nat), (5 : Int), (5 : Int), ((0 : Int), (8 : Int), [((23 : Nat), (0 : Int))]))]), (2000014 : Nat), .inl (1 : Nat), true), (0 : Nat), (0 : Nat), (245 : Nat)), ((15 : Nat), ([some (.inr (.inr (.inl (226 : Nat)))), some (.inl ((0 : Int), (9 : Int), [])), some (.inl (ck_one 9)), some (.inl ((-1 : Int), (7 : Int), []))], ([], [], [((227 : Nat), (9 : Int), (9 : Int), ((1 : Int), (299 : Int), [((11 : Nat), (1 : Int))])), ((227 : Nat), (2 : Int), (2 : Int), ((0 : Int), (8 : Int), [((20 : Nat), (0 : Int))])), ((227 : Nat), (3 : Int), (3 : Int), ((0 : Int), (8 : Int), [((21 : Nat), (0 : Int))])), ((227 : Nat), (4 : Int), (4 : Int), ((9 : Int), (24 : Int), [((22 : Nat), (0 : Int))])), ((227 : Nat), (5 : Int), (5 : Int), ((0 : Int), (8 : Int), [((23 : Nat), (0 : Int))]))]), (2000015 : Nat), .inl (1 : Nat), true), (0 : Nat), (0 : Nat), (245 : Nat)), ((15 : Nat), ([some (.inr (.inr (.inl (226 : Nat)))), some (.inl ((0 : Int), (8 : Int), [])), some (.inl (ck_one 8)), some (.inl ((-1 : Int), (7 : Int), []))], ([], [], [((227 : Nat), (9 : Int), (9 : Int), ((1 : Int), (299 : Int), [((11 : Nat), (1 : Int))])), ((227 : Nat), (2 : Int), (2 : Int), ((0 : Int), (8 : Int), [((20 : Nat), (0 : Int))])), ((227 : Nat), (3 : Int), (3 : Int), ((0 : Int), (8 : Int), [((21 : Nat), (0 : Int))])), ((227 : Nat), (4 : Int), (4 : Int), ((8 : Int), (24 : Int), [((22 : Nat), (0 : Int))])), ((227 : Nat), (5 : Int), (5 : Int), ((0 : Int), (8 : Int), [((23 : Nat), (0 : Int))]))]), (2000016 : Nat), .inl (1 : Nat), true), (0 : Nat), (0 : Nat), (245 : Nat)), ((15 : Nat), ([some (.inr (.inr (.inl (226 : Nat)))), some (.inl ((0 : Int), (7 : Int), [])), some (.inl (ck_one 7)), some (.inl ((-1 : Int), (7 : Int), []))], ([], [], [((227 : Nat), (9 : Int), (9 : Int), ((1 : Int), (299 : Int), [((11 : Nat), (1 : Int))])), ((227 : Nat), (2 : Int), (2 : Int), ((0 : Int), (8 : Int), [((20 : Nat), (0 : Int))])), ((227 : Nat), (3 : Int), (3 : Int), ((0 : Int), (8 : Int), [((21 : Nat), (0 : Int))])), ((227 : Nat), (4 : Int), (4 : Int), ((7 : Int), (24 : Int), [((22 : Nat), (0 : Int))])), ((227 : Nat), (5 : Int), (5 : Int), ((0 : Int), (8 : Int), [((23 : Nat), (0 : Int))]))]), (2000017 : Nat), .inl (1 : Nat), true), (0 : Nat), (0 : Nat), (245 : Nat)), ((15 : Nat), ([some (.inr (.inr (.inl (226 : Nat)))), some (.inl ((0 : Int), (6 : Int), [])), some (.inl (ck_one 6)), some (.inl ((-1 : Int), (7 : Int), []))], ([], [], [((227 : Nat), (9 : Int), (9 : Int), ((1 : Int), (299 : Int), [((11 : Nat), (1 : Int))])), ((227 : Nat), (2 : Int), (2 : Int), ((0 : Int), (8 : Int), [((20 : Nat), (0 : Int))])), ((227 : Nat), (3 : Int), (3 : Int), ((0 : Int), (8 : Int), [((21 : Nat), (0 : Int))])), ((227 : Nat), (4 : Int), (4 : Int), ((6 : Int), (24 : Int), [((22 : Nat), (0 : Int))])), ((227 : Nat), (5 : Int), (5 : Int), ((0 : Int), (8 : Int), [((23 : Nat), (0 : Int))]))]), (2000018 : Nat), .inl (1 : Nat), true), (0 : Nat), (0 : Nat), (245 : Nat)), ((15 : Nat), ([some (.inr (.inr (.inl (226 : Nat)))), some (.inl ((0 : Int), (5 : Int), [])), some (.inl (ck_one 5)), some (.inl ((-1 : Int), (7 : Int), []))], ([], [], [((227 : Nat), (9 : Int), (9 : Int), ((1 : Int), (299 : Int), [((11 : Nat), (1 : Int))])), ((227 : Nat), (2 : Int), (2 : Int), ((0 : Int), (8 : Int), [((20 : Nat), (0 : Int))])), ((227 : Nat), (3 : Int), (3 : Int), ((0 : Int), (8 : Int), [((21 : Nat), (0 : Int))])), ((227 : Nat), (4 : Int), (4 : Int), ((5 : Int), (24 : Int), [((22 : Nat), (0 : Int))])), ((227 : Nat), (5 : Int), (5 : Int), ((0 : Int), (8 : Int), [((23 : Nat), (0 : Int))]))]), (2000019 : Nat), .inl (1 : Nat), true), (0 : Nat), (0 : Nat), (245 : Nat)), ((15 : Nat), ([some (.inr (.inr (.inl (226 : Nat)))), some (.inl ((0 : Int), (4 : Int), [])), some (.inl (ck_one 4)), some (.inl ((-1 : Int), (7 : Int), []))], ([], [], [((227 : Nat), (9 : Int), (9 : Int), ((1 : Int), (299 : Int), [((11 : Nat), (1 : Int))])), ((227 : Nat), (2 : Int), (2 : Int), ((0 : Int), (8 : Int), [((20 : Nat), (0 : Int))])), ((227 : Nat), (3 : Int), (3 : Int), ((0 : Int), (8 : Int), [((21 : Nat), (0 : Int))])), ((227 : Nat), (4 : Int), (4 : Int), ((4 : Int), (24 : Int), [((22 : Nat), (0 : Int))])), ((227 : Nat), (5 : Int), (5 : Int), ((0 : Int), (8 : Int), [((23 : Nat), (0 : Int))]))]), (2000020 : Nat), .inl (1 : Nat), true), (0 : Nat), (0 : Nat), (245 : Nat)), ((15 : Nat), ([some (.inr (.inr (.inl (226 : Nat)))), some (.inl ((0 : Int), (3 : Int), [])), some (.inl (ck_one 3)), some (.inl ((-1 : Int), (7 : Int), []))], ([], [], [((227 : Nat), (9 : Int), (9 : Int), ((1 : Int), (299 : Int), [((11 : Nat), (1 : Int))])), ((227 : Nat), (2 : Int), (2 : Int), ((0 : Int), (8 : Int), [((20 : Nat), (0 : Int))])), ((227 : Nat), (3 : Int), (3 : Int), ((0 : Int), (8 : Int), [((21 : Nat), (0 : Int))])), ((227 : Nat), (4 : Int), (4 : Int), ((3 : Int), (24 : Int), [((22 : Nat), (0 : Int))])), ((227 : Nat), (5 : Int), (5 : Int), ((0 : Int), (8 : Int), [((23 : Nat), (0 : Int))]))]), (2000021 : Nat), .inl (1 : Nat), true), (0 : Nat), (0 : Nat), (245 : Nat)), ((15 : Nat), ([some (.inr (.inr (.inl (226 : Nat)))), some (.inl ((0 : Int), (2 : Int), [])), some (.inl (ck_one 2)), some (.inl ((-1 : Int), (7 : Int), []))], ([], [], [((227 : Nat), (9 : Int), (9 : Int), ((1 : Int), (299 : Int), [((11 : Nat), (1 : Int))])), ((227 : Nat), (2 : Int), (2 : Int), ((0 : Int), (8 : Int), [((20 : Nat), (0 : Int))])), ((227 : Nat), (3 : Int), (3 : Int), ((0 : Int), (8 : Int), [((21 : Nat), (0 : Int))])), ((227 : Nat), (4 : Int), (4 : Int), ((2 : Int), (24 : Int), [((22 : Nat), (0 : Int))])), ((227 : Nat), (5 : Int), (5 : Int), ((0 : Int), (8 : Int), [((23 : Nat), (0 : Int))]))]), (2000022 : Nat), .inl (1 : Nat), true), (0 : Nat), (0 : Nat), (245 : Nat)), ((15 : Nat), ([some (.inr (.inr (.inl (226 : Nat)))), some (.inl ((0 : Int), (1 : Int), [])), some (.inl (ck_one 1)), some (.inl ((-1 : Int), (7 : Int), []))], ([], [], [((227 : Nat), (9 : Int), (9 : Int), ((1 : Int), (299 : Int), [((11 : Nat), (1 : Int))])), ((227 : Nat), (2 : Int), (2 : Int), ((0 : Int), (8 : Int), [((20 : Nat), (0 : Int))])), ((227 : Nat), (3 : Int), (3 : Int), ((0 : Int), (8 : Int), [((21 : Nat), (0 : Int))])), ((227 : Nat), (4 : Int), (4 : Int), ((1 : Int), (24 : Int), [((22 : Nat), (0 : Int))])), ((227 : Nat), (5 : Int), (5 : Int), ((0 : Int), (8 : Int), [((23 : Nat), (0 : Int))]))]), (2000023 : Nat), .inl (1 : Nat), true), (0 : Nat), (0 : Nat), (245 : Nat)), ((15 : Nat), ([some (.inr (.inr (.inl (226 : Nat)))), some (.inl (ck_one 0)), some (.inl (ck_one 0)), none], ([], [], [((227 : Nat), (9 : Int), (9 : Int), ((1 : Int), (299 : Int), [((11 : Nat), (1 : Int))])), ((227 : Nat), (2 : Int), (2 : Int), ((0 : Int), (8 : Int), [((20 : Nat), (0 : Int))])), ((227 : Nat), (3 : Int), (3 : Int), ((0 : Int), (8 : Int), [((21 : Nat), (0 : Int))])), ((227 : Nat), (4 : Int), (4 : Int), ((0 : Int), (24 : Int), [((22 : Nat), (0 : Int))])), ((227 : Nat), (5 : Int), (5 : Int), ((0 : Int), (8 : Int), [((23 : Nat), (0 : Int))])), ((227 : Nat), (14 : Int), (14 : Int), ((0 : Int), (24 : Int), [((26 : Nat), (0 : Int))]))]), (2000024 : Nat), .inl (1 : Nat), true), (0 : Nat), (0 : Nat), (245 : Nat))]
set_option maxRecDepth 100000 in
theorem p2_s1205_a : (decide (p2_s1205.2.2.1.length ≤ gm_ml 321) && ck_cu (p2_s1205_l.map (fun h => (h.1, h.2.1)) ++ p2_s1205_i)) = true := by decide +kernel
set_option maxRecDepth 100000 in
theorem p2_s1205_e0 : ck_stpi p2_O p2_s1205_E 321 p2_s1205.1.1 p2_s1205.2.1 p2_s1205.2.2.2.2.1 p2_s1205.2.2.2.2.2 (p2_s1205_l.map (fun h => (h.1, h.2.1)) ++ p2_s1205_i) 1766 p2_s1205_l 0 = true := by decide +kernel
set_option maxRecDepth 100000 in
theorem p2_s1205_e1 : ck_stpi p2_O p2_s1205_E 321 p2_s1205.1.1 p2_s1205.2.1 p2_s1205.2.2.2.2.1 p2_s1205.2.2.2.2.2 (p2_s1205_l.map (fun h => (h.1, h.2.1)) ++ p2_s1205_i) 1766 p2_s1205_l 1 = true := by decide +kernel
set_option maxRecDepth 100000 in
theorem p2_s1205_e2 : ck_stpi p2_O p2_s1205_E 321 p2_s1205.1.1 p2_s1205.2.1 p2_s1205.2.2.2.2.1 p2_s1205.2.2.2.2.2 (p2_s1205_l.map (fun h => (h.1, h.2.1)) ++ p2_s1205_i) 1766 p2_s1205_l 2 = true := by decide +kernel
set_option maxRecDepth 100000 in
theorem p2_s1205_e3 : ck_stpi p2_O p2_s1205_E 321 p2_s1205.1.1 p2_s1205.2.1 p2_s1205.2.2.2.2.1 p2_s1205.2.2.2.2.2 (p2_s1205_l.map (fun h => (h.1, h.2.1)) ++ p2_s1205_i) 1766 p2_s1205_l 3 = true := by decide +kernel
set_option maxRecDepth 100000 in
theorem p2_s1205_e4 : ck_stpi p2_O p2_s1205_E 321 p2_s1205.1.1 p2_s1205.2.1 p2_s1205.2.2.2.2.1 p2_s1205.2.2.2.2.2 (p2_s1205_l.map (fun h => (h.1, h.2.1)) ++ p2_s1205_i) 1766 p2_s1205_l 4 = true := by decide +kernel
set_option maxRecDepth 100000 in
theorem p2_s1205_e5 : ck_stpi p2_O p2_s1205_E 321 p2_s1205.1.1 p2_s1205.2.1 p2_s1205.2.2.2.2.1 p2_s1205.2.2.2.2.2 (p2_s1205_l.map (fun h => (h.1, h.2.1)) ++ p2_s1205_i) 1766 p2_s1205_l 5 = true := by decide +kernel
set_option maxRecDepth 100000 in
theorem p2_s1205_e6 : ck_stpi p2_O p2_s1205_E 321 p2_s1205.1.1 p2_s1205.2.1 p2_s1205.2.2.2.2.1 p2_s1205.2.2.2.2.2 (p2_s1205_l.map (fun h => (h.1, h.2.1)) ++ p2_s1205_i) 1766 p2_s1205_l 6 = true := by decide +kernel
set_option maxRecDepth 100000 in
theorem p2_s1205_e7 : ck_stpi p2_O p2_s1205_E 321 p2_s1205.1.1 p2_s1205.2.1 p2_s1205.2.2.2.2.1 p2_s1205.2.2.2.2.2 (p2_s1205_l.map (fun h => (h.1, h.2.1)) ++ p2_s1205_i) 1766 p2_s1205_l 7 = true := by decide +kernel
set_option maxRecDepth 100000 in
theorem p2_s1205_e8 : ck_stpi p2_O p2_s1205_E 321 p2_s1205.1.1 p2_s1205.2.1 p2_s1205.2.2.2.2.1 p2_s1205.2.2.2.2.2 (p2_s1205_l.map (fun h => (h.1, h.2.1)) ++ p2_s1205_i) 1766 p2_s1205_l 8 = true := by decide +kernel
set_option maxRecDepth 100000 in
theorem p2_s1205_e9 : ck_stpi p2_O p2_s1205_E 321 p2_s1205.1.1 p2_s1205.2.1 p2_s1205.2.2.2.2.1 p2_s1205.2.2.2.2.2 (p2_s1205_l.map (fun h => (h.1, h.2.1)) ++ p2_s1205_i) 1766 p2_s1205_l 9 = true := by decide +kernel
set_option maxRecDepth 100000 in
theorem p2_s1205_e10 : ck_stpi p2_O p2_s1205_E 321 p2_s1205.1.1 p2_s1205.2.1 p2_s1205.2.2.2.2.1 p2_s1205.2.2.2.2.2 (p2_s1205_l.map (fun h => (h.1, h.2.1)) ++ p2_s1205_i) 1766 p2_s1205_l 10 = true := by decide +kernel
set_option maxRecDepth 100000 in
theorem p2_s1205_e11 : ck_stpi p2_O p2_s1205_E 321 p2_s1205.1.1 p2_s1205.2.1 p2_s1205.2.2.2.2.1 p2_s1205.2.2.2.2.2 (p2_s1205_l.map (fun h => (h.1, h.2.1)) ++ p2_s1205_i) 1766 p2_s1205_l 11 = true := by decide +kernel
set_option maxRecDepth 100000 in
theorem p2_s1205_e12 : ck_stpi p2_O p2_s1205_E 321 p2_s1205.1.1 p2_s1205.2.1 p2_s1205.2.2.2.2.1 p2_s1205.2.2.2.2.2 (p2_s1205_l.map (fun h => (h.1, h.2.1)) ++ p2_s1205_i) 1766 p2_s1205_l 12 = true := by decide +kernel
set_option maxRecDepth 100000 in
theorem p2_s1205_e13 : ck_stpi p2_O p2_s1205_E 321 p2_s1205.1.1 p2_s1205.2.1 p2_s1205.2.2.2.2.1 p2_s1205.2.2.2.2.2 (p2_s1205_l.map (fun h => (h.1, h.2.1)) ++ p2_s1205_i) 1766 p2_s1205_l 13 = true := by decide +kernel
set_option maxRecDepth 100000 in
theorem p2_s1205_e14 : ck_stpi p2_O p2_s1205_E 321 p2_s1205.1.1 p2_s1205.2.1 p2_s1205.2.2.2.2.1 p2_s1205.2.2.2.2.2 (p2_s1205_l.map (fun h => (h.1, h.2.1)) ++ p2_s1205_i) 1766 p2_s1205_l 14 = true := by decide +kernel
set_option maxRecDepth 100000 in
theorem p2_s1205_e15 : ck_stpi p2_O p2_s1205_E 321 p2_s1205.1.1 p2_s1205.2.1 p2_s1205.2.2.2.2.1 p2_s1205.2.2.2.2.2 (p2_s1205_l.map (fun h => (h.1, h.2.1)) ++ p2_s1205_i) 1766 p2_s1205_l 15 = true := by decide +kernel
set_option maxRecDepth 100000 in
theorem p2_s1205_e16 : ck_stpi p2_O p2_s1205_E 321 p2_s1205.1.1 p2_s1205.2.1 p2_s1205.2.2.2.2.1 p2_s1205.2.2.2.2.2 (p2_s1205_l.map (fun h => (h.1, h.2.1)) ++ p2_s1205_i) 1766 p2_s1205_l 16 = true := by decide +kernel
set_option maxRecDepth 100000 in
theorem p2_s1205_e17 : ck_stpi p2_O p2_s1205_E 321 p2_s1205.1.1 p2_s1205.2.1 p2_s1205.2.2.2.2.1 p2_s1205.2.2.2.2.2 (p2_s1205_l.map (fun h => (h.1, h.2.1)) ++ p2_s1205_i) 1766 p2_s1205_l 17 = true := by decide +kernel
set_option maxRecDepth 100000 in
theorem p2_s1205_e18 : ck_stpi p2_O p2_s1205_E 321 p2_s1205.1.1 p2_s1205.2.1 p2_s1205.2.2.2.2.1 p2_s1205.2.2.2.2.2 (p2_s1205_l.map (fun h => (h.1, h.2.1)) ++ p2_s1205_i) 1766 p2_s1205_l 18 = true := by decide +kernel
set_option maxRecDepth 100000 in
theorem p2_s1205_e19 : ck_stpi p2_O p2_s1205_E 321 p2_s1205.1.1 p2_s1205.2.1 p2_s1205.2.2.2.2.1 p2_s1205.2.2.2.2.2 (p2_s1205_l.map (fun h => (h.1, h.2.1)) ++ p2_s1205_i) 1766 p2_s1205_l 19 = true := by decide +kernel
set_option maxRecDepth 100000 in
theorem p2_s1205_e20 : ck_stpi p2_O p2_s1205_E 321 p2_s1205.1.1 p2_s1205.2.1 p2_s1205.2.2.2.2.1 p2_s1205.2.2.2.2.2 (p2_s1205_l.map (fun h => (h.1, h.2.1)) ++ p2_s1205_i) 1766 p2_s1205_l 20 = true := by decide +kernel
set_option maxRecDepth 100000 in
theorem p2_s1205_e21 : ck_stpi p2_O p2_s1205_E 321 p2_s1205.1.1 p2_s1205.2.1 p2_s1205.2.2.2.2.1 p2_s1205.2.2.2.2.2 (p2_s1205_l.map (fun h => (h.1, h.2.1)) ++ p2_s1205_i) 1766 p2_s1205_l 21 = true := by decide +kernel
set_option maxRecDepth 100000 in
theorem p2_s1205_e22 : ck_stpi p2_O p2_s1205_E 321 p2_s1205.1.1 p2_s1205.2.1 p2_s1205.2.2.2.2.1 p2_s1205.2.2.2.2.2 (p2_s1205_l.map (fun h => (h.1, h.2.1)) ++ p2_s1205_i) 1766 p2_s1205_l 22 = true := by decide +kernel
set_option maxRecDepth 100000 in
theorem p2_s1205_e23 : ck_stpi p2_O p2_s1205_E 321 p2_s1205.1.1 p2_s1205.2.1 p2_s1205.2.2.2.2.1 p2_s1205.2.2.2.2.2 (p2_s1205_l.map (fun h => (h.1, h.2.1)) ++ p2_s1205_i) 1766 p2_s1205_l 23 = true := by decide +kernel
set_option maxRecDepth 100000 in
theorem p2_s1205_e24 : ck_stpi p2_O p2_s1205_E 321 p2_s1205.1.1 p2_s1205.2.1 p2_s1205.2.2.2.2.1 p2_s1205.2.2.2.2.2 (p2_s1205_l.map (fun h => (h.1, h.2.1)) ++ p2_s1205_i) 1766 p2_s1205_l 24 = true := by decide +kernel
set_option maxRecDepth 100000 in
theorem p2_s1205_z : ck_go p2_O none [] p2_s1205_E 321 p2_s1205.1.1 p2_s1205.2.1 p2_s1205.2.2.2.2.1 p2_s1205.2.2.2.2.2 (p2_s1205_l.map (fun h => (h.1, h.2.1)) ++ p2_s1205_i) 1766 false p2_s1205_l p2_s1205.1.2.1 p2_s1205.1.2.2 0 (p2_s1205.2.2.1.map some ++ List.replicate (gm_ml 321 - p2_s1205.2.2.1.length) none) [] p2_s1205.2.1 p2_s1205.2.2.2.1 = true := by decide +kernel
theorem p2_s1205_s {X : Int → Int} {LX : Nat} : ck_Ok p2_O X LX 321 p2_s1205 := by
  refine ck_okp_i (cuts := p2_s1205_i) (l := p2_s1205_l) (f := 1766) ⟨p2_nmu, ck_E1 (ck_S1 p2_s176_s ck_S0) (ck_E1 (ck_S1 p2_s829_s (ck_S1 p2_s840_s (ck_S1 p2_s851_s (ck_S1 p2_s862_s (ck_S1 p2_s873_s (ck_S1 p2_s884_s (ck_S1 p2_s895_s (ck_S1 p2_s906_s (ck_S1 p2_s917_s (ck_S1 p2_s928_s (ck_S1 p2_s939_s (ck_S1 p2_s950_s (ck_S1 p2_s961_s (ck_S1 p2_s972_s (ck_S1 p2_s983_s (ck_S1 p2_s994_s (ck_S1 p2_s1005_s (ck_S1 p2_s1016_s (ck_S1 p2_s1027_s (ck_S1 p2_s1038_s (ck_S1 p2_s1049_s (ck_S1 p2_s1060_s (ck_S1 p2_s1071_s (ck_S1 p2_s1082_s ck_S0)))))))))))))))))))))))) (ck_E1 (ck_S1 p2_s1158_s (ck_S1 p2_s1160_s (ck_S1 p2_s1162_s (ck_S1 p2_s1164_s (ck_S1 p2_s1166_s (ck_S1 p2_s1168_s (ck_S1 p2_s1170_s (ck_S1 p2_s1172_s (ck_S1 p2_s1174_s (ck_S1 p2_s1176_s (ck_S1 p2_s1178_s (ck_S1 p2_s1180_s (ck_S1 p2_s1182_s (ck_S1 p2_s1184_s (ck_S1 p2_s1186_s (ck_S1 p2_s1188_s (ck_S1 p2_s1190_s (ck_S1 p2_s1192_s (ck_S1 p2_s1194_s (ck_S1 p2_s1196_s (ck_S1 p2_s1198_s (ck_S1 p2_s1200_s (ck_S1 p2_s1202_s (ck_S1 p2_s1204_s ck_S0)))))))))))))))))))))))) (ck_E1 (ck_S1 p2_s833_s (ck_S1 p2_s844_s (ck_S1 p2_s855_s (ck_S1 p2_s866_s (ck_S1 p2_s877_s (ck_S1 p2_s888_s (ck_S1 p2_s899_s (ck_S1 p2_s910_s (ck_S1 p2_s921_s (ck_S1 p2_s932_s (ck_S1 p2_s943_s (ck_S1 p2_s954_s (ck_S1 p2_s965_s (ck_S1 p2_s976_s (ck_S1 p2_s987_s (ck_S1 p2_s998_s (ck_S1 p2_s1009_s (ck_S1 p2_s1020_s (ck_S1 p2_s1031_s (ck_S1 p2_s1042_s (ck_S1 p2_s1053_s (ck_S1 p2_s1064_s (ck_S1 p2_s1075_s (ck_S1 p2_s1086_s ck_S0)))))))))))))))))))))))) ck_E0)))⟩ p2_s1205_a (fun i hi => ?_) p2_s1205_z
  have hi : i < 25 := hi
  have : i = 0 ∨ i = 1 ∨ i = 2 ∨ i = 3 ∨ i = 4 ∨ i = 5 ∨ i = 6 ∨ i = 7 ∨ i = 8 ∨ i = 9 ∨ i = 10 ∨ i = 11 ∨ i = 12 ∨ i = 13 ∨ i = 14 ∨ i = 15 ∨ i = 16 ∨ i = 17 ∨ i = 18 ∨ i = 19 ∨ i = 20 ∨ i = 21 ∨ i = 22 ∨ i = 23 ∨ i = 24 := by omega
  rcases this with rfl | rfl | rfl | rfl | rfl | rfl | rfl | rfl | rfl | rfl | rfl | rfl | rfl | rfl | rfl | rfl | rfl | rfl | rfl | rfl | rfl | rfl | rfl | rfl | rfl
  · exact p2_s1205_e0
  · exact p2_s1205_e1
  · exact p2_s1205_e2
  · exact p2_s1205_e3
  · exact p2_s1205_e4
  · exact p2_s1205_e5
  · exact p2_s1205_e6
  · exact p2_s1205_e7
  · exact p2_s1205_e8
  · exact p2_s1205_e9
  · exact p2_s1205_e10
  · exact p2_s1205_e11
  · exact p2_s1205_e12
  · exact p2_s1205_e13
  · exact p2_s1205_e14
  · exact p2_s1205_e15
  · exact p2_s1205_e16
  · exact p2_s1205_e17
  · exact p2_s1205_e18
  · exact p2_s1205_e19
  · exact p2_s1205_e20
  · exact p2_s1205_e21
  · exact p2_s1205_e22
  · exact p2_s1205_e23
  · exact p2_s1205_e24
end
