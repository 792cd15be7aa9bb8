/-! 7c36.gl -/
section
/-! ROWS THAT KEEP SOMETHING, again under qL_O (laid by wip/rel/gh2.py). -/
section GHL
variable {X : Int → Int} {LX : Nat}
theorem Q35 : ck_Ok qL_O X LX 35 q35 := q35_s pl_s187_s
theorem Q35n : ck_Ok qL_O X LX 35 q35n := q35n_s pl_s187_s
theorem Q24L : ck_Ok qL_O X LX 24 (q24 1 q24_WL) := q24_L pl_s217_s
theorem Q33_206 : ck_Ok qL_O X LX 33 q33_206 := qL_l pl_s210_s (by decide +kernel)
theorem Q43_206 : ck_Ok qL_O X LX 43 (q43 206) := q43_206 pl_s212_s
theorem Q43n_206 : ck_Ok qL_O X LX 43 (q43n 206) := q43n_206 pl_s212_s
theorem Q32_206 : s32_206 X LX := ⟨q32_206_s Q33_206 Q35 Q43_206, q32n_206_s Q33_206 Q35n Q43n_206, q32m_206_s Q33_206 Q35n q43m_206_s⟩
theorem Q27_206 : ck_Ok qL_O X LX 27 q27_206 := q27_206_s pl_s208_s
theorem Q30_206 : ck_Ok qL_O X LX 30 q30_206 := q30_206_s Q32_206
theorem Q30n_206 : ck_Ok qL_O X LX 30 q30n_206 := q30n_206_s Q32_206
theorem Q148_206 : ck_Ok qL_O X LX 148 q148_206 := q148_206_s Q32_206
theorem Q148n_206 : ck_Ok qL_O X LX 148 q148n_206 := q148n_206_s Q32_206
theorem Q33_207 : ck_Ok qL_O X LX 33 q33_207 := qL_l pl_s723_s (by decide +kernel)
theorem Q43_207 : ck_Ok qL_O X LX 43 (q43 207) := q43_207 pl_s724_s
theorem Q43n_207 : ck_Ok qL_O X LX 43 (q43n 207) := q43n_207 pl_s724_s
theorem Q32_207 : s32_207 X LX := ⟨q32_207_s Q33_207 Q35 Q43_207, q32n_207_s Q33_207 Q35n Q43n_207, q32m_207_s Q33_207 Q35n q43m_207_s⟩
theorem Q27_207 : ck_Ok qL_O X LX 27 q27_207 := q27_207_s pl_s721_s
theorem Q30_207 : ck_Ok qL_O X LX 30 q30_207 := q30_207_s Q32_207
theorem Q30n_207 : ck_Ok qL_O X LX 30 q30n_207 := q30n_207_s Q32_207
theorem Q148_207 : ck_Ok qL_O X LX 148 q148_207 := q148_207_s Q32_207
theorem Q148n_207 : ck_Ok qL_O X LX 148 q148n_207 := q148n_207_s Q32_207
theorem Q170 : ck_Ok qL_O X LX 170 q170 := q170_s pl_s697_s
theorem Q29 : ck_Ok qL_O X LX 29 q29 := q29_s
theorem Q145 : ck_Ok qL_O X LX 145 q145 := q145_s Q32_206 Q27_206
theorem Q181 : ck_Ok qL_O X LX 181 q181 := q181_s Q32_206 Q32_207 Q27_206 Q27_207
theorem Q143 : ck_Ok qL_O X LX 143 q143 := qL_l pl_s233_s (by decide +kernel)
theorem Q153 : ck_Ok qL_O X LX 153 q153 := qL_l pl_s844_s (by decide +kernel)
theorem Q180 : ck_Ok qL_O X LX 180 q180 := qL_l pl_s718_s (by decide +kernel)
theorem Q221 : ck_Ok qL_O X LX 221 q221 := q221_s Q32_206 Q32_207 Q27_206 Q27_207 Q143 Q153 Q180
theorem qLl_pl_s159 : ck_Ok qL_O X LX 132 pl_s159 := qL_l pl_s159_s (by decide +kernel)
theorem qLl_pl_s167 : ck_Ok qL_O X LX 134 pl_s167 := qL_l pl_s167_s (by decide +kernel)
theorem qLl_pl_s149 : ck_Ok qL_O X LX 129 pl_s149 := qL_l pl_s149_s (by decide +kernel)
def q_pl_s188 : ck_Sum := ((24, 2, 12), 249, [.inr (.inr (.inl 1)), .inl (0, 5, []), .inl (0, 98, []), .inl (0, 299, [])], ([], [(3, 8, 246)], []), ([(200, 6, 6), (204, 0, 9), (205, 0, 14849)], []), [(.inl 3, 249, ([], [], [])), (.inr (some (.inl (0, 30, []))), 249, ([], [], [(200, 6, 6, ck_one 0)]))])
set_option maxRecDepth 100000 in
theorem q_pl_s188_e : ck_ok qL_O none [] [(132, [pl_s159]), (134, [pl_s167]), (129, [pl_s149]), (35, [q35])] 136 [] 102 q_pl_s188 = true := by decide +kernel
theorem q_pl_s188_s : ck_Ok qL_O X LX 136 q_pl_s188 := ck_ok_s ⟨qL_nmu, (ck_E1 (ck_S1 qLl_pl_s159 ck_S0) (ck_E1 (ck_S1 qLl_pl_s167 ck_S0) (ck_E1 (ck_S1 qLl_pl_s149 ck_S0) (ck_E1 (ck_S1 Q35 ck_S0) ck_E0))))⟩ ck_X0 ck_l0 q_pl_s188_e
theorem qLl_pl_s200 : ck_Ok qL_O X LX 9 pl_s200 := qL_l pl_s200_s (by decide +kernel)
theorem qLl_pl_s204 : ck_Ok qL_O X LX 10 pl_s204 := qL_l pl_s204_s (by decide +kernel)
theorem qLl_pl_s220 : ck_Ok qL_O X LX 66 pl_s220 := qL_l pl_s220_s (by decide +kernel)
def q_pl_s221 : ck_Sum := ((22, 0, 0), 249, [.inr (.inr (.inl 1)), .inl (0, 7, [])], ([], [(3, 8, 246)], [(3, 6, 6, (0, 299, [(10, 0)]))]), ([(1, 15, 15), (200, 6, 6), (204, 0, 9), (205, 0, 14849), (206, 2, 8), (220, 3, 3), (221, 0, 47)], []), [(.inr (some (.inl ((-2147483648), 2147483647, []))), 249, ([], [], [(1, 15, 15, ck_one 1)]))])
set_option maxRecDepth 100000 in
theorem q_pl_s221_e : ck_ok qL_O none [] [(24, [(q24 1 q24_WL)]), (9, [pl_s200]), (10, [pl_s204]), (66, [pl_s220])] 65 [(8, [some (.inr (.inr (.inl 1))), some (.inl (0, 7, [])), some (.inl ((-2147483648), 2147483647, [])), some (.inl (0, 24, [])), none], ([], [(3, 8, 246)], [(1, 15, 15, ck_one 1), (3, 6, 6, (0, 299, [(10, 0)]))]), 100, .inl 3, true)] 210 q_pl_s221 = true := by decide +kernel
theorem q_pl_s221_s : ck_Ok qL_O X LX 65 q_pl_s221 := ck_ok_s ⟨qL_nmu, (ck_E1 (ck_S1 Q24L ck_S0) (ck_E1 (ck_S1 qLl_pl_s200 ck_S0) (ck_E1 (ck_S1 qLl_pl_s204 ck_S0) (ck_E1 (ck_S1 qLl_pl_s220 ck_S0) ck_E0))))⟩ ck_X0 ck_l0 q_pl_s221_e
theorem qLl_pl_s197 : ck_Ok qL_O X LX 139 pl_s197 := qL_l pl_s197_s (by decide +kernel)
theorem qLl_pl_s222 : ck_Ok qL_O X LX 140 pl_s222 := qL_l pl_s222_s (by decide +kernel)
theorem qLl_pl_s223 : ck_Ok qL_O X LX 140 pl_s223 := qL_l pl_s223_s (by decide +kernel)
theorem qLl_pl_s224 : ck_Ok qL_O X LX 10 pl_s224 := qL_l pl_s224_s (by decide +kernel)
def q_pl_s225 : ck_Sum := ((24, 2, 12), 249, [.inr (.inr (.inl 1)), .inl (0, 7, []), .inl (0, 9, [])], ([], [(3, 8, 246)], [(3, 6, 6, (0, 299, [(10, 0)]))]), ([(1, 15, 15), (200, 6, 6), (204, 0, 9), (205, 0, 14849), (206, 2, 8), (220, 3, 3), (221, 0, 47)], []), [(.inl 3, 249, ([], [], [])), (.inl 4, 249, ([], [], [])), (.inr (some (.inl ((-2147483648), 2147483647, []))), 249, ([], [], []))])
set_option maxRecDepth 100000 in
theorem q_pl_s225_e : ck_ok qL_O none [] [(139, [pl_s197]), (65, [q_pl_s221]), (140, [pl_s222, pl_s223]), (10, [pl_s224])] 138 [] 94 q_pl_s225 = true := by decide +kernel
theorem q_pl_s225_s : ck_Ok qL_O X LX 138 q_pl_s225 := ck_ok_s ⟨qL_nmu, (ck_E1 (ck_S1 qLl_pl_s197 ck_S0) (ck_E1 (ck_S1 q_pl_s221_s ck_S0) (ck_E1 (ck_S1 qLl_pl_s222 (ck_S1 qLl_pl_s223 ck_S0)) (ck_E1 (ck_S1 qLl_pl_s224 ck_S0) ck_E0))))⟩ ck_X0 ck_l0 q_pl_s225_e
def q_pl_s237 : ck_Sum := ((21, 0, 0), 249, [.inr (.inr (.inl 1)), .inl (0, 23, [])], ([], [(3, 8, 246)], []), ([(200, 6, 6), (204, 0, 9), (205, 0, 14849), (206, 2, 8)], []), [(.inr (some (.inl ((-2147483648), 299, []))), 249, ([], [], [(206, 4, 4, ck_one (-1)), (206, 2, 2, ((-1), 299, []))]))])
set_option maxRecDepth 100000 in
theorem q_pl_s237_e : ck_ok qL_O none [] [(27, [q27_206]), (30, [q30_206, q30n_206])] 144 [] 88 q_pl_s237 = true := by decide +kernel
theorem q_pl_s237_s : ck_Ok qL_O X LX 144 q_pl_s237 := ck_ok_s ⟨qL_nmu, (ck_E1 (ck_S1 Q27_206 ck_S0) (ck_E1 (ck_S1 Q30_206 (ck_S1 Q30n_206 ck_S0)) ck_E0))⟩ ck_X0 ck_l0 q_pl_s237_e
theorem qLl_pl_s233 : ck_Ok qL_O X LX 143 pl_s233 := qL_l pl_s233_s (by decide +kernel)
def q_pl_s238 : ck_Sum := ((24, 1, 6), 249, [.inr (.inr (.inl 1)), .inl (0, 23, []), .inl (0, 9, [])], ([], [(3, 8, 246)], []), ([(200, 6, 6), (204, 0, 9), (205, 0, 14849), (206, 2, 8)], []), [(.inl 3, 249, ([], [], [])), (.inr (some (.inl ((-2147483648), 299, []))), 249, ([], [], [])), (.inr (some (.inl (0, 299, []))), 249, ([], [], [(206, 4, 4, ck_one (-1)), (206, 2, 2, ((-1), 299, []))]))])
set_option maxRecDepth 100000 in
theorem q_pl_s238_e : ck_ok qL_O none [] [(143, [pl_s233]), (10, [pl_s204]), (145, [q145]), (144, [q_pl_s237])] 142 [] 98 q_pl_s238 = true := by decide +kernel
theorem q_pl_s238_s : ck_Ok qL_O X LX 142 q_pl_s238 := ck_ok_s ⟨qL_nmu, (ck_E1 (ck_S1 qLl_pl_s233 ck_S0) (ck_E1 (ck_S1 qLl_pl_s204 ck_S0) (ck_E1 (ck_S1 Q145 ck_S0) (ck_E1 (ck_S1 q_pl_s237_s ck_S0) ck_E0))))⟩ ck_X0 ck_l0 q_pl_s238_e
def q_pl_s244 : ck_Sum := ((24, 1, 6), 249, [.inr (.inr (.inl 1)), .inl (0, 23, []), .inl (0, 299, [])], ([], [(3, 8, 246)], []), ([(200, 6, 6), (204, 0, 9), (205, 0, 14849), (206, 2, 8)], []), [(.inl 3, 249, ([], [], [])), (.inr (some (.inl ((-2147483648), 99, []))), 249, ([], [], []))])
set_option maxRecDepth 100000 in
theorem q_pl_s244_e : ck_ok qL_O none [] [(143, [pl_s233]), (129, [pl_s149]), (10, [pl_s204]), (27, [q27_206]), (148, [q148_206, q148n_206])] 147 [] 130 q_pl_s244 = true := by decide +kernel
theorem q_pl_s244_s : ck_Ok qL_O X LX 147 q_pl_s244 := ck_ok_s ⟨qL_nmu, (ck_E1 (ck_S1 qLl_pl_s233 ck_S0) (ck_E1 (ck_S1 qLl_pl_s149 ck_S0) (ck_E1 (ck_S1 qLl_pl_s204 ck_S0) (ck_E1 (ck_S1 Q27_206 ck_S0) (ck_E1 (ck_S1 Q148_206 (ck_S1 Q148n_206 ck_S0)) ck_E0)))))⟩ ck_X0 ck_l0 q_pl_s244_e
def q_pl_s249 : ck_Sum := ((24, 1, 6), 249, [.inr (.inr (.inl 1)), .inl (0, 23, []), .inl (0, 299, [])], ([], [(3, 8, 246)], []), ([(200, 6, 6), (204, 0, 9), (205, 0, 14849), (206, 2, 8)], []), [(.inl 3, 249, ([], [], [])), (.inr (some (.inl (0, 99, []))), 249, ([], [], [(206, 4, 4, ck_one (-1)), (206, 2, 2, ((-1), 299, []))])), (.inr (some (.inl (ck_one (-1)))), 249, ([], [], []))])
set_option maxRecDepth 100000 in
theorem q_pl_s249_e : ck_ok qL_O none [] [(143, [pl_s233]), (129, [pl_s149]), (10, [pl_s204]), (27, [q27_206]), (148, [q148_206, q148n_206])] 150 [] 122 q_pl_s249 = true := by decide +kernel
theorem q_pl_s249_s : ck_Ok qL_O X LX 150 q_pl_s249 := ck_ok_s ⟨qL_nmu, (ck_E1 (ck_S1 qLl_pl_s233 ck_S0) (ck_E1 (ck_S1 qLl_pl_s149 ck_S0) (ck_E1 (ck_S1 qLl_pl_s204 ck_S0) (ck_E1 (ck_S1 Q27_206 ck_S0) (ck_E1 (ck_S1 Q148_206 (ck_S1 Q148n_206 ck_S0)) ck_E0)))))⟩ ck_X0 ck_l0 q_pl_s249_e
def q_pl_s692 : ck_Sum := ((24, 2, 12), 249, [.inr (.inr (.inl 1)), .inl (0, 5, []), .inl (0, 299, []), .inl (0, 299, []), .inl (0, 9, [])], ([], [(3, 8, 246)], [(3, 6, 6, (0, 299, [(10, 0)]))]), ([(200, 6, 6), (204, 0, 9), (205, 0, 14849), (206, 2, 8)], []), [(.inl 3, 249, ([], [], [])), (.inl 4, 249, ([], [], [])), (.inl 0, 249, ([], [], [(3, 6, 6, (1, 299, [(10, 0)]))])), (.inr (some (.inl ((-2147483648), 2147483647, []))), 249, ([], [], []))])
set_option maxRecDepth 100000 in
theorem q_pl_s692_e : ck_ok qL_O none [] [(132, [pl_s159]), (129, [pl_s149]), (29, [q29]), (30, [q30_206, q30n_206])] 167 [(71, [some (.inr (.inr (.inl 1))), some (.inl (0, 5, [])), some (.inl (0, 299, [])), some (.inl (0, 299, [])), some (.inl (0, 2, [])), some (.inl ((-2147483648), 2147483647, [])), some (.inl ((-1), 167, [])), some (.inl ((-1), 167, [])), some (.inl (0, 167, []))], ([], [(3, 8, 246)], [(3, 6, 6, (0, 299, [(10, 0)]))]), 100, .inl 8, true)] 210 q_pl_s692 = true := by decide +kernel
theorem q_pl_s692_s : ck_Ok qL_O X LX 167 q_pl_s692 := ck_ok_s ⟨qL_nmu, (ck_E1 (ck_S1 qLl_pl_s159 ck_S0) (ck_E1 (ck_S1 qLl_pl_s149 ck_S0) (ck_E1 (ck_S1 Q29 ck_S0) (ck_E1 (ck_S1 Q30_206 (ck_S1 Q30n_206 ck_S0)) ck_E0))))⟩ ck_X0 ck_l0 q_pl_s692_e
def q_pl_s698 : ck_Sum := ((24, 1, 6), 249, [.inr (.inr (.inl 1)), .inl (0, 7, []), .inl (0, 299, [])], ([], [(3, 8, 246)], [(3, 6, 6, (0, 299, [(10, 0)]))]), ([(200, 6, 6), (204, 0, 9), (205, 0, 14849), (206, 2, 8)], []), [(.inl 3, 249, ([], [], [])), (.inr (some (.inl (ck_one (-1)))), 249, ([], [], [])), (.inr (some (.inl (0, 299, []))), 249, ([], [], [(206, 4, 4, ck_one (-1))]))])
set_option maxRecDepth 100000 in
theorem q_pl_s698_e : ck_ok qL_O none [] [(139, [pl_s197]), (129, [pl_s149]), (170, [q170]), (30, [q30_206, q30n_206])] 169 [(12, [some (.inr (.inr (.inl 1))), some (.inl (0, 7, [])), some (.inl (0, 299, [])), some (.inl ((-1), 299, []))], ([], [(3, 8, 246)], [(3, 6, 6, (0, 299, [(10, 0)]))]), 100, .inl 3, false)] 166 q_pl_s698 = true := by decide +kernel
theorem q_pl_s698_s : ck_Ok qL_O X LX 169 q_pl_s698 := ck_ok_s ⟨qL_nmu, (ck_E1 (ck_S1 qLl_pl_s197 ck_S0) (ck_E1 (ck_S1 qLl_pl_s149 ck_S0) (ck_E1 (ck_S1 Q170 ck_S0) (ck_E1 (ck_S1 Q30_206 (ck_S1 Q30n_206 ck_S0)) ck_E0))))⟩ ck_X0 ck_l0 q_pl_s698_e
def q_pl_s703 : ck_Sum := ((24, 2, 12), 249, [.inr (.inr (.inl 1)), .inl (0, 5, []), .inl (0, 299, [])], ([], [(3, 8, 246)], [(3, 6, 6, (0, 299, [(10, 0)]))]), ([(200, 6, 6), (204, 0, 9), (205, 0, 14849), (206, 2, 8)], []), [(.inl 3, 249, ([], [], [])), (.inl 0, 249, ([], [], [])), (.inr (some (.inl (ck_one (-1)))), 249, ([], [], [])), (.inr (some (.inl (0, 98, []))), 249, ([], [], [(206, 4, 4, ck_one (-1))]))])
set_option maxRecDepth 100000 in
theorem q_pl_s703_e : ck_ok qL_O none [] [(132, [pl_s159]), (29, [q29]), (30, [q30_206, q30n_206])] 172 [(47, [some (.inr (.inr (.inl 1))), some (.inl (0, 5, [])), some (.inl (1, 299, [])), some (.inl (1, 299, [])), some (.inl (0, 167, []))], ([], [(3, 8, 246)], [(3, 6, 6, (0, 299, [(10, 0)]))]), 100, .inl 4, true)] 182 q_pl_s703 = true := by decide +kernel
theorem q_pl_s703_s : ck_Ok qL_O X LX 172 q_pl_s703 := ck_ok_s ⟨qL_nmu, (ck_E1 (ck_S1 qLl_pl_s159 ck_S0) (ck_E1 (ck_S1 Q29 ck_S0) (ck_E1 (ck_S1 Q30_206 (ck_S1 Q30n_206 ck_S0)) ck_E0)))⟩ ck_X0 ck_l0 q_pl_s703_e
theorem qLl_pl_s137 : ck_Ok qL_O X LX 9 pl_s137 := qL_l pl_s137_s (by decide +kernel)
theorem qLl_pl_s196 : ck_Ok qL_O X LX 133 pl_s196 := qL_l pl_s196_s (by decide +kernel)
theorem qLl_pl_s708 : ck_Ok qL_O X LX 175 pl_s708 := qL_l pl_s708_s (by decide +kernel)
def q_pl_s709 : ck_Sum := ((24, 2, 12), 249, [.inr (.inr (.inl 1)), .inl (0, 23, []), .inl (0, 7, [])], ([], [(3, 8, 246)], []), ([(200, 6, 6), (204, 0, 9), (205, 0, 14849), (206, 2, 8)], []), [(.inl 3, 249, ([], [], [])), (.inr (some (.inl ((-2147483648), 299, []))), 249, ([], [], [(206, 4, 4, (0, 7, [])), (206, 2, 2, ((-1), 299, []))]))])
set_option maxRecDepth 100000 in
theorem q_pl_s709_e : ck_ok qL_O none [] [(143, [pl_s233]), (9, [pl_s137]), (133, [pl_s196]), (27, [q27_206]), (175, [pl_s708]), (30, [q30_206, q30n_206])] 174 [] 116 q_pl_s709 = true := by decide +kernel
theorem q_pl_s709_s : ck_Ok qL_O X LX 174 q_pl_s709 := ck_ok_s ⟨qL_nmu, (ck_E1 (ck_S1 qLl_pl_s233 ck_S0) (ck_E1 (ck_S1 qLl_pl_s137 ck_S0) (ck_E1 (ck_S1 qLl_pl_s196 ck_S0) (ck_E1 (ck_S1 Q27_206 ck_S0) (ck_E1 (ck_S1 qLl_pl_s708 ck_S0) (ck_E1 (ck_S1 Q30_206 (ck_S1 Q30n_206 ck_S0)) ck_E0))))))⟩ ck_X0 ck_l0 q_pl_s709_e
def q_pl_s712 : ck_Sum := ((24, 1, 6), 249, [.inr (.inr (.inl 1)), .inl (0, 23, [])], ([], [(3, 8, 246)], []), ([(200, 6, 6), (204, 0, 9), (205, 0, 14849), (206, 2, 8)], []), [(.inl 3, 249, ([], [], [])), (.inr (some (.inl ((-2147483648), (-1), []))), 249, ([], [], [(206, 8, 8, ((-2147483648), (-1), [])), (206, 4, 4, ck_one (-1)), (206, 2, 2, ((-1), 299, []))])), (.inr (some (.inl (0, 2147483647, []))), 249, ([], [], [(206, 8, 8, (0, 2147483647, [])), (206, 4, 4, ck_one (-1)), (206, 2, 2, ((-1), 299, []))]))])
set_option maxRecDepth 100000 in
theorem q_pl_s712_e : ck_ok qL_O none [] [(143, [pl_s233]), (27, [q27_206]), (30, [q30_206, q30n_206])] 177 [] 102 q_pl_s712 = true := by decide +kernel
theorem q_pl_s712_s : ck_Ok qL_O X LX 177 q_pl_s712 := ck_ok_s ⟨qL_nmu, (ck_E1 (ck_S1 qLl_pl_s233 ck_S0) (ck_E1 (ck_S1 Q27_206 ck_S0) (ck_E1 (ck_S1 Q30_206 (ck_S1 Q30n_206 ck_S0)) ck_E0)))⟩ ck_X0 ck_l0 q_pl_s712_e
theorem qLl_pl_s201 : ck_Ok qL_O X LX 9 pl_s201 := qL_l pl_s201_s (by decide +kernel)
theorem qLl_pl_s218 : ck_Ok qL_O X LX 10 pl_s218 := qL_l pl_s218_s (by decide +kernel)
def q_pl_s713 : ck_Sum := ((22, 0, 0), 249, [.inr (.inr (.inl 1))], ([], [(3, 8, 246)], []), ([(1, 15, 15), (200, 6, 6), (204, 0, 9), (205, 0, 14849), (206, 2, 8), (220, 3, 3), (221, 0, 47)], []), [(.inr (some (.inl ((-2147483648), 2147483647, []))), 249, ([], [], [(1, 15, 15, ck_one 1)]))])
set_option maxRecDepth 100000 in
theorem q_pl_s713_e : ck_ok qL_O none [] [(24, [(q24 1 q24_WL)]), (9, [pl_s201]), (10, [pl_s218])] 23 [(8, [some (.inr (.inr (.inl 1))), some (.inl ((-2147483648), 2147483647, [])), some (.inl (0, 24, []))], ([], [(3, 8, 246)], [(1, 15, 15, ck_one 1)]), 100, .inl 2, true)] 174 q_pl_s713 = true := by decide +kernel
theorem q_pl_s713_s : ck_Ok qL_O X LX 23 q_pl_s713 := ck_ok_s ⟨qL_nmu, (ck_E1 (ck_S1 Q24L ck_S0) (ck_E1 (ck_S1 qLl_pl_s201 ck_S0) (ck_E1 (ck_S1 qLl_pl_s218 ck_S0) ck_E0)))⟩ ck_X0 ck_l0 q_pl_s713_e
theorem qLl_pl_s714 : ck_Ok qL_O X LX 47 pl_s714 := qL_l pl_s714_s (by decide +kernel)
def q_pl_s715 : ck_Sum := ((22, 0, 0), 249, [.inr (.inr (.inl 1)), .inl (0, 1, [])], ([], [(3, 8, 246)], []), ([(1, 15, 15), (200, 6, 6), (204, 0, 9), (205, 0, 14849), (206, 2, 8), (220, 3, 3), (221, 0, 47)], []), [(.inr (some (.inl ((-2147483648), 299, []))), 249, ([], [], [(1, 15, 15, ck_one 1)])), (.inr (some (.inl (0, 2147483647, []))), 249, ([], [], [(1, 15, 15, ck_one 1)]))])
set_option maxRecDepth 100000 in
theorem q_pl_s715_e : ck_ok qL_O none [] [(24, [(q24 1 q24_WL)]), (9, [pl_s201]), (10, [pl_s218]), (47, [pl_s714])] 46 [(11, [some (.inr (.inr (.inl 1))), some (.inl (0, 1, [])), some (.inl ((-2147483648), 299, [])), some (.inl (0, 2147483647, [])), some (.inl (0, 24, [])), none, none], ([], [(3, 8, 246)], [(1, 15, 15, ck_one 1)]), 100, .inl 4, true)] 230 q_pl_s715 = true := by decide +kernel
theorem q_pl_s715_s : ck_Ok qL_O X LX 46 q_pl_s715 := ck_ok_s ⟨qL_nmu, (ck_E1 (ck_S1 Q24L ck_S0) (ck_E1 (ck_S1 qLl_pl_s201 ck_S0) (ck_E1 (ck_S1 qLl_pl_s218 ck_S0) (ck_E1 (ck_S1 qLl_pl_s714 ck_S0) ck_E0))))⟩ ck_X0 ck_l0 q_pl_s715_e
theorem qLl_pl_s718 : ck_Ok qL_O X LX 180 pl_s718 := qL_l pl_s718_s (by decide +kernel)
def q_pl_s731 : ck_Sum := ((24, 1, 6), 249, [.inr (.inr (.inl 1)), .inl (0, 23, [])], ([], [(3, 8, 246)], []), ([(200, 6, 6), (204, 0, 9), (205, 0, 14849), (206, 2, 8), (207, 2, 8)], []), [(.inl 3, 249, ([], [], [])), (.inr (some (.inl ((-2147483648), 2147483647, []))), 249, ([], [], []))])
set_option maxRecDepth 100000 in
theorem q_pl_s731_e : ck_ok qL_O none [] [(143, [pl_s233]), (9, [pl_s200]), (180, [pl_s718]), (181, [q181])] 179 [(9, [some (.inr (.inr (.inl 1))), some (.inl (0, 23, [])), some (.inl ((-2147483648), 2147483647, [])), some (.inl (0, 24, []))], ([], [(3, 8, 246)], []), 100, .inl 3, true)] 182 q_pl_s731 = true := by decide +kernel
theorem q_pl_s731_s : ck_Ok qL_O X LX 179 q_pl_s731 := ck_ok_s ⟨qL_nmu, (ck_E1 (ck_S1 qLl_pl_s233 ck_S0) (ck_E1 (ck_S1 qLl_pl_s200 ck_S0) (ck_E1 (ck_S1 qLl_pl_s718 ck_S0) (ck_E1 (ck_S1 Q181 ck_S0) ck_E0))))⟩ ck_X0 ck_l0 q_pl_s731_e
def q_pl_s743 : ck_Sum := ((21, 0, 0), 249, [.inr (.inr (.inl 1)), .inl (0, 7, []), .inl (0, 5, []), .inl (0, 299, []), .inl (0, 99, [])], ([], [(3, 8, 246)], []), ([(200, 6, 6), (204, 0, 9), (205, 0, 14849), (206, 2, 8)], []), [(.inr (some (.inl (ck_one (-1)))), 249, ([], [], [])), (.inr (some (.inl (0, 298, []))), 249, ([], [], [(206, 4, 4, ck_one (-1))]))])
set_option maxRecDepth 100000 in
theorem q_pl_s743_e : ck_ok qL_O none [] [(10, [pl_s224]), (170, [q170]), (30, [q30_206, q30n_206])] 188 [(23, [some (.inr (.inr (.inl 1))), some (.inl (0, 7, [])), some (.inl (0, 5, [])), some (.inl (0, 299, [])), some (.inl (0, 99, [])), some (.inl ((-1), 298, []))], ([], [(3, 8, 246)], []), 100, .inl 5, false)] 174 q_pl_s743 = true := by decide +kernel
theorem q_pl_s743_s : ck_Ok qL_O X LX 188 q_pl_s743 := ck_ok_s ⟨qL_nmu, (ck_E1 (ck_S1 qLl_pl_s224 ck_S0) (ck_E1 (ck_S1 Q170 ck_S0) (ck_E1 (ck_S1 Q30_206 (ck_S1 Q30n_206 ck_S0)) ck_E0)))⟩ ck_X0 ck_l0 q_pl_s743_e
theorem qLl_pl_s742 : ck_Ok qL_O X LX 187 pl_s742 := qL_l pl_s742_s (by decide +kernel)
theorem qLl_pl_s189 : ck_Ok qL_O X LX 9 pl_s189 := qL_l pl_s189_s (by decide +kernel)
def q_pl_s744 : ck_Sum := ((24, 1, 6), 249, [.inr (.inr (.inl 1)), .inl (0, 5, []), .inl (0, 299, []), .inl (0, 99, [])], ([], [(3, 8, 246)], []), ([(200, 6, 6), (204, 0, 9), (205, 0, 14849), (206, 2, 8)], []), [(.inl 3, 249, ([], [], [])), (.inr (some (.inl ((-2147483648), 2147483647, []))), 249, ([], [], []))])
set_option maxRecDepth 100000 in
theorem q_pl_s744_e : ck_ok qL_O none [] [(132, [pl_s159]), (187, [pl_s742]), (9, [pl_s189]), (188, [q_pl_s743])] 186 [(17, [some (.inr (.inr (.inl 1))), some (.inl (0, 5, [])), some (.inl (0, 299, [])), some (.inl (0, 99, [])), some (.inl ((-2147483648), 2147483647, [])), some (.inl (0, 9, []))], ([], [(3, 8, 246)], []), 100, .inl 5, true)] 182 q_pl_s744 = true := by decide +kernel
theorem q_pl_s744_s : ck_Ok qL_O X LX 186 q_pl_s744 := ck_ok_s ⟨qL_nmu, (ck_E1 (ck_S1 qLl_pl_s159 ck_S0) (ck_E1 (ck_S1 qLl_pl_s742 ck_S0) (ck_E1 (ck_S1 qLl_pl_s189 ck_S0) (ck_E1 (ck_S1 q_pl_s743_s ck_S0) ck_E0))))⟩ ck_X0 ck_l0 q_pl_s744_e
def q_pl_s753 : ck_Sum := ((24, 2, 12), 249, [.inr (.inr (.inl 1)), .inl (0, 7, []), .inl (0, 5, []), .inl (0, 299, []), .inl (0, 99, [])], ([], [(3, 8, 246)], []), ([(200, 6, 6), (204, 0, 9), (205, 0, 14849), (206, 2, 8)], []), [(.inl 3, 249, ([], [], [])), (.inr (some (.inl (ck_one (-1)))), 249, ([], [], [])), (.inr (some (.inl (0, 298, []))), 249, ([], [], [(206, 4, 4, ck_one (-1))]))])
set_option maxRecDepth 100000 in
theorem q_pl_s753_e : ck_ok qL_O none [] [(139, [pl_s197]), (132, [pl_s159]), (187, [pl_s742]), (188, [q_pl_s743])] 190 [] 104 q_pl_s753 = true := by decide +kernel
theorem q_pl_s753_s : ck_Ok qL_O X LX 190 q_pl_s753 := ck_ok_s ⟨qL_nmu, (ck_E1 (ck_S1 qLl_pl_s197 ck_S0) (ck_E1 (ck_S1 qLl_pl_s159 ck_S0) (ck_E1 (ck_S1 qLl_pl_s742 ck_S0) (ck_E1 (ck_S1 q_pl_s743_s ck_S0) ck_E0))))⟩ ck_X0 ck_l0 q_pl_s753_e
theorem qLl_pl_s787 : ck_Ok qL_O X LX 10 pl_s787 := qL_l pl_s787_s (by decide +kernel)
theorem qLl_pl_s788 : ck_Ok qL_O X LX 45 pl_s788 := qL_l pl_s788_s (by decide +kernel)
theorem qLl_pl_s789 : ck_Ok qL_O X LX 45 pl_s789 := qL_l pl_s789_s (by decide +kernel)
def q_pl_s790 : ck_Sum := ((21, 0, 0), 249, [.inr (.inr (.inl 208)), .inl (0, 7, []), .inl (0, 299, []), .inl (ck_one 1), .inl (ck_one 299)], ([], [(3, 8, 246)], []), ([(200, 6, 6), (204, 0, 9), (205, 0, 14849), (206, 2, 8), (210, 0, 2399), (212, 0, 2399)], []), [(.inr none, 249, ([], [], [(206, 4, 4, ck_one (-1))]))])
set_option maxRecDepth 100000 in
theorem q_pl_s790_e : ck_ok qL_O none [] [(10, [pl_s224, pl_s787]), (170, [q170]), (30, [q30_206, q30n_206]), (45, [pl_s788, pl_s789]), (9, [pl_s189])] 203 [(59, [some (.inr (.inr (.inl 208))), some (.inl (0, 7, [])), some (.inl (0, 299, [])), some (.inl (ck_one 1)), some (.inl (ck_one 299)), some (.inr (.inr (.inl 8))), some (.inl ((-1), 98, [])), some (.inl ((-2147483648), 299, [])), some (.inl (0, 8, [])), none], ([], [(3, 8, 246)], [(206, 4, 4, ck_one (-1))]), 100, .inl 8, true)] 214 q_pl_s790 = true := by decide +kernel
theorem q_pl_s790_s : ck_Ok qL_O X LX 203 q_pl_s790 := ck_ok_s ⟨qL_nmu, (ck_E1 (ck_S1 qLl_pl_s224 (ck_S1 qLl_pl_s787 ck_S0)) (ck_E1 (ck_S1 Q170 ck_S0) (ck_E1 (ck_S1 Q30_206 (ck_S1 Q30n_206 ck_S0)) (ck_E1 (ck_S1 qLl_pl_s788 (ck_S1 qLl_pl_s789 ck_S0)) (ck_E1 (ck_S1 qLl_pl_s189 ck_S0) ck_E0)))))⟩ ck_X0 ck_l0 q_pl_s790_e
theorem qLl_pl_s791 : ck_Ok qL_O X LX 45 pl_s791 := qL_l pl_s791_s (by decide +kernel)
theorem qLl_pl_s792 : ck_Ok qL_O X LX 45 pl_s792 := qL_l pl_s792_s (by decide +kernel)
def q_pl_s793 : ck_Sum := ((21, 0, 0), 249, [.inr (.inr (.inl 208)), .inl (0, 7, []), .inl (2, 299, []), .inl ((-2147483648), 2147483647, []), .inl (ck_one 299)], ([], [(3, 8, 246)], []), ([(200, 6, 6), (204, 0, 9), (205, 0, 14849), (206, 2, 8), (210, 0, 2399), (212, 2, 299), (212, 302, 599), (212, 602, 899), (212, 902, 1199), (212, 1202, 1499), (212, 1502, 1799), (212, 1802, 2099), (212, 2102, 2399)], []), [(.inr none, 249, ([], [], [(206, 4, 4, ck_one (-1))]))])
set_option maxRecDepth 100000 in
theorem q_pl_s793_e : ck_ok qL_O none [] [(10, [pl_s224, pl_s787]), (170, [q170]), (30, [q30_206, q30n_206]), (45, [pl_s791, pl_s792]), (9, [pl_s189])] 203 [(59, [some (.inr (.inr (.inl 208))), some (.inl (0, 7, [])), some (.inl (2, 299, [])), some (.inl ((-2147483648), 2147483647, [])), some (.inl (ck_one 299)), some (.inr (.inr (.inl 8))), some (.inl ((-1), 98, [])), some (.inl ((-2147483648), 299, [])), some (.inl (0, 8, [])), none], ([], [(3, 8, 246)], [(206, 4, 4, ck_one (-1))]), 100, .inl 8, true)] 214 q_pl_s793 = true := by decide +kernel
theorem q_pl_s793_s : ck_Ok qL_O X LX 203 q_pl_s793 := ck_ok_s ⟨qL_nmu, (ck_E1 (ck_S1 qLl_pl_s224 (ck_S1 qLl_pl_s787 ck_S0)) (ck_E1 (ck_S1 Q170 ck_S0) (ck_E1 (ck_S1 Q30_206 (ck_S1 Q30n_206 ck_S0)) (ck_E1 (ck_S1 qLl_pl_s791 (ck_S1 qLl_pl_s792 ck_S0)) (ck_E1 (ck_S1 qLl_pl_s189 ck_S0) ck_E0)))))⟩ ck_X0 ck_l0 q_pl_s793_e
theorem qLl_pl_s784 : ck_Ok qL_O X LX 25 pl_s784 := qL_l pl_s784_s (by decide +kernel)
theorem qLl_pl_s786 : ck_Ok qL_O X LX 25 pl_s786 := qL_l pl_s786_s (by decide +kernel)
def q_pl_s794 : ck_Sum := ((22, 0, 0), 249, [.inr (.inr (.inl 208)), .inl (0, 7, []), .inl (0, 7, []), .inl (ck_one 299)], ([], [(3, 8, 246)], [(3, 6, 6, (0, 299, [(10, 0)]))]), ([(200, 6, 6), (204, 0, 9), (205, 0, 14849), (206, 2, 8), (209, 3, 3), (210, 0, 2399), (211, 3, 3), (212, 0, 2399)], []), [(.inr none, 249, ([], [], [(206, 4, 4, ck_one (-1))]))])
set_option maxRecDepth 100000 in
theorem q_pl_s794_e : ck_ok qL_O none [] [(9, [pl_s189]), (25, [pl_s784, pl_s786]), (203, [q_pl_s790, q_pl_s793]), (10, [pl_s787])] 202 [(59, [some (.inr (.inr (.inl 208))), some (.inl (0, 7, [])), some (.inl (0, 7, [])), some (.inl (ck_one 299)), some (.inl (1, 300, [(1000010, 1)])), none, none], ([], [(3, 8, 246)], [(206, 4, 4, ck_one (-1)), (3, 6, 6, (0, 299, [(10, 0)]))]), 100, .inl 4, true), (82, [some (.inr (.inr (.inl 208))), some (.inl (0, 7, [])), some (.inl (0, 7, [])), some (.inl (ck_one 299)), some (.inl (1, 298, [(100, 0), (1000010, 1)])), some (.inl (0, 8, [])), none], ([], [(3, 8, 246)], [(206, 4, 4, ck_one (-1)), (3, 6, 6, (0, 299, [(10, 0)]))]), 300, .inl 5, true)] 284 q_pl_s794 = true := by decide +kernel
theorem q_pl_s794_s : ck_Ok qL_O X LX 202 q_pl_s794 := ck_ok_s ⟨qL_nmu, (ck_E1 (ck_S1 qLl_pl_s189 ck_S0) (ck_E1 (ck_S1 qLl_pl_s784 (ck_S1 qLl_pl_s786 ck_S0)) (ck_E1 (ck_S1 q_pl_s790_s (ck_S1 q_pl_s793_s ck_S0)) (ck_E1 (ck_S1 qLl_pl_s787 ck_S0) ck_E0))))⟩ ck_X0 ck_l0 q_pl_s794_e
theorem qLl_pl_s254 : ck_Ok qL_O X LX 153 pl_s254 := qL_l pl_s254_s (by decide +kernel)
theorem qLl_pl_s795 : ck_Ok qL_O X LX 204 pl_s795 := qL_l pl_s795_s (by decide +kernel)
theorem qLl_pl_s796 : ck_Ok qL_O X LX 205 pl_s796 := qL_l pl_s796_s (by decide +kernel)
def q_pl_s797 : ck_Sum := ((24, 3, 18), 249, [.inr (.inr (.inl 1)), .inl (0, 7, []), .inl (0, 7, []), .inl (0, 1, [])], ([], [(3, 8, 246)], [(3, 6, 6, (0, 299, [(10, 0)]))]), ([(200, 6, 6), (204, 0, 9), (205, 0, 14849), (206, 2, 8), (209, 3, 3), (210, 0, 2399), (211, 3, 3), (212, 0, 2399)], []), [(.inl 3, 249, ([], [], [])), (.inl 0, 249, ([], [], [])), (.inr (some (.inl ((-2147483648), 2147483647, []))), 249, ([], [], [(206, 4, 4, ck_one (-1))])), (.inr (some (.inl (0, 299, []))), 249, ([], [], [(206, 4, 4, ck_one (-1))]))])
set_option maxRecDepth 100000 in
theorem q_pl_s797_e : ck_ok qL_O none [] [(139, [pl_s197]), (153, [pl_s254]), (202, [q_pl_s794]), (204, [pl_s795]), (205, [pl_s796])] 201 [] 136 q_pl_s797 = true := by decide +kernel
theorem q_pl_s797_s : ck_Ok qL_O X LX 201 q_pl_s797 := ck_ok_s ⟨qL_nmu, (ck_E1 (ck_S1 qLl_pl_s197 ck_S0) (ck_E1 (ck_S1 qLl_pl_s254 ck_S0) (ck_E1 (ck_S1 q_pl_s794_s ck_S0) (ck_E1 (ck_S1 qLl_pl_s795 ck_S0) (ck_E1 (ck_S1 qLl_pl_s796 ck_S0) ck_E0)))))⟩ ck_X0 ck_l0 q_pl_s797_e
theorem qLl_pl_s804 : ck_Ok qL_O X LX 208 pl_s804 := qL_l pl_s804_s (by decide +kernel)
def q_pl_s805 : ck_Sum := ((24, 4, 24), 249, [.inr (.inr (.inl 1)), .inl (0, 7, []), .inl (0, 7, []), .inl ((-2147483648), 0, [])], ([], [(3, 8, 246)], [(3, 6, 6, (0, 299, [(10, 0)]))]), ([(200, 6, 6), (204, 0, 9), (205, 0, 14849), (206, 2, 8), (209, 3, 3), (210, 0, 2399), (211, 3, 3), (212, 0, 2399)], []), [(.inl 3, 249, ([], [], [])), (.inl 0, 249, ([], [], [])), (.inr (some (.inl (ck_one (-1)))), 249, ([], [], [(206, 4, 4, ck_one (-1))])), (.inr (some (.inl (0, 7, []))), 249, ([], [], [(206, 4, 4, ck_one (-1))]))])
set_option maxRecDepth 100000 in
theorem q_pl_s805_e : ck_ok qL_O none [] [(139, [pl_s197]), (153, [pl_s254]), (202, [q_pl_s794]), (208, [pl_s804])] 207 [] 120 q_pl_s805 = true := by decide +kernel
theorem q_pl_s805_s : ck_Ok qL_O X LX 207 q_pl_s805 := ck_ok_s ⟨qL_nmu, (ck_E1 (ck_S1 qLl_pl_s197 ck_S0) (ck_E1 (ck_S1 qLl_pl_s254 ck_S0) (ck_E1 (ck_S1 q_pl_s794_s ck_S0) (ck_E1 (ck_S1 qLl_pl_s804 ck_S0) ck_E0))))⟩ ck_X0 ck_l0 q_pl_s805_e
theorem qLl_pl_s807 : ck_Ok qL_O X LX 208 pl_s807 := qL_l pl_s807_s (by decide +kernel)
def q_pl_s808 : ck_Sum := ((24, 3, 18), 249, [.inr (.inr (.inl 1)), .inl (0, 7, []), .inl (0, 7, []), .inl (51, 2147483647, [])], ([], [(3, 8, 246)], [(3, 6, 6, (0, 299, [(10, 0)]))]), ([(200, 6, 6), (204, 0, 9), (205, 0, 14849), (206, 2, 8), (209, 3, 3), (210, 0, 2399), (211, 3, 3), (212, 0, 2399)], []), [(.inl 3, 249, ([], [], [])), (.inl 0, 249, ([], [], [])), (.inr (some (.inl (ck_one (-1)))), 249, ([], [], [(206, 4, 4, ck_one (-1))])), (.inr (some (.inl (0, 2398, []))), 249, ([], [], [(206, 4, 4, ck_one (-1))]))])
set_option maxRecDepth 100000 in
theorem q_pl_s808_e : ck_ok qL_O none [] [(139, [pl_s197]), (153, [pl_s254]), (202, [q_pl_s794]), (208, [pl_s807])] 207 [] 120 q_pl_s808 = true := by decide +kernel
theorem q_pl_s808_s : ck_Ok qL_O X LX 207 q_pl_s808 := ck_ok_s ⟨qL_nmu, (ck_E1 (ck_S1 qLl_pl_s197 ck_S0) (ck_E1 (ck_S1 qLl_pl_s254 ck_S0) (ck_E1 (ck_S1 q_pl_s794_s ck_S0) (ck_E1 (ck_S1 qLl_pl_s807 ck_S0) ck_E0))))⟩ ck_X0 ck_l0 q_pl_s808_e
theorem qLl_pl_s809 : ck_Ok qL_O X LX 208 pl_s809 := qL_l pl_s809_s (by decide +kernel)
def q_pl_s810 : ck_Sum := ((24, 3, 18), 249, [.inr (.inr (.inl 1)), .inl (0, 7, []), .inl (0, 7, []), .inl (1, 50, [])], ([], [(3, 8, 246)], [(3, 6, 6, (0, 299, [(10, 0)]))]), ([(200, 6, 6), (204, 0, 9), (205, 0, 14849), (206, 2, 8), (209, 3, 3), (210, 0, 2399), (211, 3, 3), (212, 0, 2399)], []), [(.inl 3, 249, ([], [], [])), (.inl 0, 249, ([], [], [])), (.inr (some (.inl (ck_one (-1)))), 249, ([], [], [(206, 4, 4, ck_one (-1))])), (.inr (some (.inl (0, 2398, []))), 249, ([], [], [(206, 4, 4, ck_one (-1))]))])
set_option maxRecDepth 100000 in
theorem q_pl_s810_e : ck_ok qL_O none [] [(139, [pl_s197]), (153, [pl_s254]), (202, [q_pl_s794]), (208, [pl_s809])] 207 [] 120 q_pl_s810 = true := by decide +kernel
theorem q_pl_s810_s : ck_Ok qL_O X LX 207 q_pl_s810 := ck_ok_s ⟨qL_nmu, (ck_E1 (ck_S1 qLl_pl_s197 ck_S0) (ck_E1 (ck_S1 qLl_pl_s254 ck_S0) (ck_E1 (ck_S1 q_pl_s794_s ck_S0) (ck_E1 (ck_S1 qLl_pl_s809 ck_S0) ck_E0))))⟩ ck_X0 ck_l0 q_pl_s810_e
def q_pl_s815 : ck_Sum := ((21, 0, 0), 249, [.inr (.inr (.inl 208)), .inl (0, 7, []), .inl (0, 299, []), .inl (ck_one 1), .inl (0, 299, [])], ([], [(3, 8, 246)], []), ([(200, 6, 6), (204, 0, 9), (205, 0, 14849), (206, 2, 8), (210, 0, 2399), (212, 0, 2399)], []), [(.inr none, 249, ([], [], [(206, 4, 4, ck_one (-1))]))])
set_option maxRecDepth 100000 in
theorem q_pl_s815_e : ck_ok qL_O none [] [(10, [pl_s224, pl_s787]), (170, [q170]), (30, [q30_206, q30n_206]), (45, [pl_s788, pl_s789]), (9, [pl_s189])] 203 [(59, [some (.inr (.inr (.inl 208))), some (.inl (0, 7, [])), some (.inl (0, 299, [])), some (.inl (ck_one 1)), some (.inl (0, 299, [])), some (.inr (.inr (.inl 8))), some (.inl ((-1), 98, [])), some (.inl ((-2147483648), 299, [])), some (.inl (0, 8, [])), none], ([], [(3, 8, 246)], [(206, 4, 4, ck_one (-1))]), 100, .inl 8, true)] 214 q_pl_s815 = true := by decide +kernel
theorem q_pl_s815_s : ck_Ok qL_O X LX 203 q_pl_s815 := ck_ok_s ⟨qL_nmu, (ck_E1 (ck_S1 qLl_pl_s224 (ck_S1 qLl_pl_s787 ck_S0)) (ck_E1 (ck_S1 Q170 ck_S0) (ck_E1 (ck_S1 Q30_206 (ck_S1 Q30n_206 ck_S0)) (ck_E1 (ck_S1 qLl_pl_s788 (ck_S1 qLl_pl_s789 ck_S0)) (ck_E1 (ck_S1 qLl_pl_s189 ck_S0) ck_E0)))))⟩ ck_X0 ck_l0 q_pl_s815_e
def q_pl_s816 : ck_Sum := ((21, 0, 0), 249, [.inr (.inr (.inl 208)), .inl (0, 7, []), .inl (2, 299, []), .inl ((-2147483648), 2147483647, []), .inl (2, 299, [])], ([], [(3, 8, 246)], []), ([(200, 6, 6), (204, 0, 9), (205, 0, 14849), (206, 2, 8), (210, 0, 2399), (212, 2, 299), (212, 302, 599), (212, 602, 899), (212, 902, 1199), (212, 1202, 1499), (212, 1502, 1799), (212, 1802, 2099), (212, 2102, 2399)], []), [(.inr none, 249, ([], [], [(206, 4, 4, ck_one (-1))]))])
set_option maxRecDepth 100000 in
theorem q_pl_s816_e : ck_ok qL_O none [] [(10, [pl_s224, pl_s787]), (170, [q170]), (30, [q30_206, q30n_206]), (45, [pl_s791, pl_s792]), (9, [pl_s189])] 203 [(59, [some (.inr (.inr (.inl 208))), some (.inl (0, 7, [])), some (.inl (2, 299, [])), some (.inl ((-2147483648), 2147483647, [])), some (.inl (2, 299, [])), some (.inr (.inr (.inl 8))), some (.inl ((-1), 98, [])), some (.inl ((-2147483648), 299, [])), some (.inl (0, 8, [])), none], ([], [(3, 8, 246)], [(206, 4, 4, ck_one (-1))]), 100, .inl 8, true)] 214 q_pl_s816 = true := by decide +kernel
theorem q_pl_s816_s : ck_Ok qL_O X LX 203 q_pl_s816 := ck_ok_s ⟨qL_nmu, (ck_E1 (ck_S1 qLl_pl_s224 (ck_S1 qLl_pl_s787 ck_S0)) (ck_E1 (ck_S1 Q170 ck_S0) (ck_E1 (ck_S1 Q30_206 (ck_S1 Q30n_206 ck_S0)) (ck_E1 (ck_S1 qLl_pl_s791 (ck_S1 qLl_pl_s792 ck_S0)) (ck_E1 (ck_S1 qLl_pl_s189 ck_S0) ck_E0)))))⟩ ck_X0 ck_l0 q_pl_s816_e
def q_pl_s817 : ck_Sum := ((22, 0, 0), 249, [.inr (.inr (.inl 208)), .inl (0, 7, []), .inl (ck_one (-1)), .inl (0, 299, [])], ([], [(3, 8, 246)], [(3, 6, 6, (0, 299, [(10, 0)]))]), ([(200, 6, 6), (204, 0, 9), (205, 0, 14849), (206, 2, 8), (209, 3, 3), (210, 0, 2399), (211, 3, 3), (212, 0, 2399)], []), [(.inr none, 249, ([], [], [(206, 4, 4, ck_one (-1))]))])
set_option maxRecDepth 100000 in
theorem q_pl_s817_e : ck_ok qL_O none [] [(9, [pl_s189]), (25, [pl_s784, pl_s786]), (203, [q_pl_s815, q_pl_s816]), (10, [pl_s787])] 202 [(59, [some (.inr (.inr (.inl 208))), some (.inl (0, 7, [])), some (.inl (ck_one (-1))), some (.inl (0, 299, [])), some (.inl (1, 300, [(1000010, 1)])), none, none], ([], [(3, 8, 246)], [(206, 4, 4, ck_one (-1)), (3, 6, 6, (0, 299, [(10, 0)]))]), 100, .inl 4, true), (82, [some (.inr (.inr (.inl 208))), some (.inl (0, 7, [])), some (.inl (ck_one (-1))), some (.inl (2, 299, [])), some (.inl (1, 298, [(100, 0), (1000010, 1)])), some (.inl (0, 8, [])), none], ([], [(3, 8, 246)], [(206, 4, 4, ck_one (-1)), (3, 6, 6, (0, 299, [(10, 0)]))]), 300, .inl 5, true)] 284 q_pl_s817 = true := by decide +kernel
theorem q_pl_s817_s : ck_Ok qL_O X LX 202 q_pl_s817 := ck_ok_s ⟨qL_nmu, (ck_E1 (ck_S1 qLl_pl_s189 ck_S0) (ck_E1 (ck_S1 qLl_pl_s784 (ck_S1 qLl_pl_s786 ck_S0)) (ck_E1 (ck_S1 q_pl_s815_s (ck_S1 q_pl_s816_s ck_S0)) (ck_E1 (ck_S1 qLl_pl_s787 ck_S0) ck_E0))))⟩ ck_X0 ck_l0 q_pl_s817_e
def q_pl_s818 : ck_Sum := ((24, 1, 6), 249, [.inr (.inr (.inl 1)), .inl (0, 7, []), .inl (0, 299, [])], ([], [(3, 8, 246)], [(3, 6, 6, (0, 299, [(10, 0)]))]), ([(200, 6, 6), (204, 0, 9), (205, 0, 14849), (206, 2, 8), (209, 3, 3), (210, 0, 2399), (211, 3, 3), (212, 0, 2399)], []), [(.inl 3, 249, ([], [], [])), (.inr (some (.inl ((-2147483648), 2147483647, []))), 249, ([], [], [(206, 4, 4, ck_one (-1))]))])
set_option maxRecDepth 100000 in
theorem q_pl_s818_e : ck_ok qL_O none [] [(139, [pl_s197]), (129, [pl_s149]), (202, [q_pl_s817]), (9, [pl_s189]), (204, [pl_s795])] 211 [(27, [some (.inr (.inr (.inl 1))), some (.inl (0, 7, [])), some (.inl (0, 299, [])), some (.inl ((-2147483648), 2147483647, [])), some (.inl (0, 8, []))], ([], [(3, 8, 246)], [(206, 4, 4, ck_one (-1)), (3, 6, 6, (0, 299, [(10, 0)]))]), 100, .inl 4, true)] 174 q_pl_s818 = true := by decide +kernel
theorem q_pl_s818_s : ck_Ok qL_O X LX 211 q_pl_s818 := ck_ok_s ⟨qL_nmu, (ck_E1 (ck_S1 qLl_pl_s197 ck_S0) (ck_E1 (ck_S1 qLl_pl_s149 ck_S0) (ck_E1 (ck_S1 q_pl_s817_s ck_S0) (ck_E1 (ck_S1 qLl_pl_s189 ck_S0) (ck_E1 (ck_S1 qLl_pl_s795 ck_S0) ck_E0)))))⟩ ck_X0 ck_l0 q_pl_s818_e
theorem qLl_pl_s823 : ck_Ok qL_O X LX 214 pl_s823 := qL_l pl_s823_s (by decide +kernel)
theorem qLl_pl_s828 : ck_Ok qL_O X LX 215 pl_s828 := qL_l pl_s828_s (by decide +kernel)
theorem qLl_pl_s830 : ck_Ok qL_O X LX 25 pl_s830 := qL_l pl_s830_s (by decide +kernel)
theorem qLl_pl_s831 : ck_Ok qL_O X LX 10 pl_s831 := qL_l pl_s831_s (by decide +kernel)
theorem qLl_pl_s826 : ck_Ok qL_O X LX 10 pl_s826 := qL_l pl_s826_s (by decide +kernel)
theorem qLl_pl_s832 : ck_Ok qL_O X LX 216 pl_s832 := qL_l pl_s832_s (by decide +kernel)
theorem qLl_pl_s833 : ck_Ok qL_O X LX 45 pl_s833 := qL_l pl_s833_s (by decide +kernel)
def q_pl_s834 : ck_Sum := ((23, 1, 6), 249, [.inr (.inr (.inl 1)), .inl (0, 30, []), .inl (0, 1, [])], ([], [(3, 8, 246)], [(3, 6, 6, (0, 299, [(10, 0)]))]), ([(1, 15, 15), (200, 6, 6), (204, 0, 9), (205, 0, 14849), (206, 2, 8), (220, 3, 3), (221, 0, 47), (222, 3, 3), (223, 0, 179), (224, 3, 3), (225, 0, 185)], []), [(.inl 0, 249, ([], [], [])), (.inr (some (.inl ((-2147483648), 2147483647, []))), 249, ([], [], [(224, 3, 3, (1, 31, [])), (1, 15, 15, ck_one 1)])), (.inr (some (.inl (0, 5, []))), 249, ([], [], [(224, 3, 3, (1, 31, [])), (1, 15, 15, ck_one 1)]))])
set_option maxRecDepth 100000 in
theorem q_pl_s834_e : ck_ok qL_O none [] [(214, [pl_s823]), (24, [(q24 1 q24_WL)]), (215, [pl_s828]), (25, [pl_s830]), (10, [pl_s831, pl_s826]), (216, [pl_s832]), (45, [pl_s833])] 213 [(28, [some (.inr (.inr (.inl 1))), some (.inl (0, 30, [])), some (.inl (0, 1, [])), some (.inl ((-1), 29, [])), none], ([], [(3, 8, 246)], [(224, 3, 3, (1, 31, [])), (1, 15, 15, ck_one 1), (3, 6, 6, (0, 299, [(10, 0)]))]), 100, .inl 3, false), (94, [some (.inr (.inr (.inl 1))), some (.inl (0, 30, [])), some (.inl (0, 1, [])), some (.inl (0, 5, [])), some (.inl (1, 6, []))], ([], [(3, 8, 246)], [(224, 3, 3, (1, 31, [])), (1, 15, 15, ck_one 1), (3, 6, 6, (0, 299, [(10, 0)]))]), 300, .inl 4, true), (35, [some (.inr (.inr (.inl 1))), some (.inl (0, 30, [])), some (.inl (0, 1, [])), some (.inl (0, 29, [(100, 0)])), some (.inl (0, 6, []))], ([], [(3, 8, 246)], [(224, 3, 3, (1, 31, [])), (1, 15, 15, ck_one 1), (3, 6, 6, (0, 299, [(10, 0)]))]), 500, .inl 4, true)] 330 q_pl_s834 = true := by decide +kernel
theorem q_pl_s834_s : ck_Ok qL_O X LX 213 q_pl_s834 := ck_ok_s ⟨qL_nmu, (ck_E1 (ck_S1 qLl_pl_s823 ck_S0) (ck_E1 (ck_S1 Q24L ck_S0) (ck_E1 (ck_S1 qLl_pl_s828 ck_S0) (ck_E1 (ck_S1 qLl_pl_s830 ck_S0) (ck_E1 (ck_S1 qLl_pl_s831 (ck_S1 qLl_pl_s826 ck_S0)) (ck_E1 (ck_S1 qLl_pl_s832 ck_S0) (ck_E1 (ck_S1 qLl_pl_s833 ck_S0) ck_E0)))))))⟩ ck_X0 ck_l0 q_pl_s834_e
theorem qLl_pl_s837 : ck_Ok qL_O X LX 219 pl_s837 := qL_l pl_s837_s (by decide +kernel)
theorem qLl_pl_s838 : ck_Ok qL_O X LX 219 pl_s838 := qL_l pl_s838_s (by decide +kernel)
def q_pl_s839 : ck_Sum := ((23, 1, 6), 249, [.inr (.inr (.inl 1)), .inl (0, 30, []), .inl (0, 1, [])], ([], [(3, 8, 246)], [(3, 6, 6, (0, 299, [(10, 0)]))]), ([(1, 15, 15), (200, 6, 6), (204, 0, 9), (205, 0, 14849), (206, 2, 8), (220, 3, 3), (221, 0, 47), (222, 3, 3), (223, 0, 179)], []), [(.inl 0, 249, ([], [], [])), (.inr (some (.inl (0, 2147483647, []))), 249, ([], [], [(1, 15, 15, ck_one 1)]))])
set_option maxRecDepth 100000 in
theorem q_pl_s839_e : ck_ok qL_O none [] [(214, [pl_s823]), (24, [(q24 1 q24_WL)]), (215, [pl_s828]), (219, [pl_s837, pl_s838])] 218 [(19, [some (.inr (.inr (.inl 1))), some (.inl (0, 30, [])), some (.inl (0, 1, [])), some (.inl (0, 5, [])), some (.inl (1, 6, []))], ([], [(3, 8, 246)], [(1, 15, 15, ck_one 1), (3, 6, 6, (0, 299, [(10, 0)]))]), 100, .inl 4, true)] 166 q_pl_s839 = true := by decide +kernel
theorem q_pl_s839_s : ck_Ok qL_O X LX 218 q_pl_s839 := ck_ok_s ⟨qL_nmu, (ck_E1 (ck_S1 qLl_pl_s823 ck_S0) (ck_E1 (ck_S1 Q24L ck_S0) (ck_E1 (ck_S1 qLl_pl_s828 ck_S0) (ck_E1 (ck_S1 qLl_pl_s837 (ck_S1 qLl_pl_s838 ck_S0)) ck_E0))))⟩ ck_X0 ck_l0 q_pl_s839_e
theorem qLl_pl_s849 : ck_Ok qL_O X LX 47 pl_s849 := qL_l pl_s849_s (by decide +kernel)
def q_pl_s850 : ck_Sum := ((22, 0, 0), 249, [.inr (.inr (.inl 1)), .inl (0, 299, [])], ([], [(3, 8, 246)], []), ([(1, 15, 15), (200, 6, 6), (204, 0, 9), (205, 0, 14849), (206, 2, 8), (220, 3, 3), (221, 0, 47)], []), [(.inr (some (.inl ((-2147483648), 2147483647, []))), 249, ([], [], [(1, 15, 15, ck_one 1)]))])
set_option maxRecDepth 100000 in
theorem q_pl_s850_e : ck_ok qL_O none [] [(129, [pl_s149]), (24, [(q24 1 q24_WL)]), (47, [pl_s849])] 223 [] 90 q_pl_s850 = true := by decide +kernel
theorem q_pl_s850_s : ck_Ok qL_O X LX 223 q_pl_s850 := ck_ok_s ⟨qL_nmu, (ck_E1 (ck_S1 qLl_pl_s149 ck_S0) (ck_E1 (ck_S1 Q24L ck_S0) (ck_E1 (ck_S1 qLl_pl_s849 ck_S0) ck_E0)))⟩ ck_X0 ck_l0 q_pl_s850_e
theorem qLl_pl_s851 : ck_Ok qL_O X LX 53 pl_s851 := qL_l pl_s851_s (by decide +kernel)
def q_pl_s852 : ck_Sum := ((22, 0, 0), 249, [.inr (.inr (.inl 1)), .inl ((-2147483648), 2147483647, [])], ([], [(3, 8, 246)], []), ([(1, 15, 15), (200, 6, 6), (204, 0, 9), (205, 0, 14849), (206, 2, 8), (220, 3, 3), (221, 0, 47)], []), [(.inr (some (.inl (ck_one (-1)))), 249, ([], [], [(1, 15, 15, ck_one 1)])), (.inr (some (.inl (0, 23, []))), 249, ([], [], [(1, 15, 15, ck_one 1)]))])
set_option maxRecDepth 100000 in
theorem q_pl_s852_e : ck_ok qL_O none [] [(24, [(q24 1 q24_WL)]), (9, [pl_s201]), (10, [pl_s218]), (53, [pl_s851])] 52 [(6, [some (.inr (.inr (.inl 1))), some (.inl ((-2147483648), 2147483647, [])), some (.inl (0, 24, []))], ([], [(3, 8, 246)], [(1, 15, 15, ck_one 1)]), 100, .inl 2, true)] 170 q_pl_s852 = true := by decide +kernel
theorem q_pl_s852_s : ck_Ok qL_O X LX 52 q_pl_s852 := ck_ok_s ⟨qL_nmu, (ck_E1 (ck_S1 Q24L ck_S0) (ck_E1 (ck_S1 qLl_pl_s201 ck_S0) (ck_E1 (ck_S1 qLl_pl_s218 ck_S0) (ck_E1 (ck_S1 qLl_pl_s851 ck_S0) ck_E0))))⟩ ck_X0 ck_l0 q_pl_s852_e
theorem qLl_pl_s219 : ck_Ok qL_O X LX 67 pl_s219 := qL_l pl_s219_s (by decide +kernel)
def q_pl_s855 : ck_Sum := ((22, 0, 0), 249, [.inr (.inr (.inl 1)), .inl (0, 299, []), .inl (0, 1, [])], ([], [(3, 8, 246)], []), ([(1, 15, 15), (200, 6, 6), (204, 0, 9), (205, 0, 14849), (206, 2, 8), (220, 3, 3), (221, 0, 47)], []), [(.inr (some (.inl ((-2147483648), 2147483647, []))), 249, ([], [], [(1, 15, 15, ck_one 1)]))])
set_option maxRecDepth 100000 in
theorem q_pl_s855_e : ck_ok qL_O none [] [(129, [pl_s149]), (24, [(q24 1 q24_WL)]), (9, [pl_s201]), (10, [pl_s204, pl_s218]), (67, [pl_s219])] 225 [(14, [some (.inr (.inr (.inl 1))), some (.inl (0, 299, [])), some (.inl (0, 1, [])), some (.inl ((-2147483648), 2147483647, [])), some (.inl (0, 24, [])), none], ([], [(3, 8, 246)], [(1, 15, 15, ck_one 1)]), 100, .inl 4, true)] 226 q_pl_s855 = true := by decide +kernel
theorem q_pl_s855_s : ck_Ok qL_O X LX 225 q_pl_s855 := ck_ok_s ⟨qL_nmu, (ck_E1 (ck_S1 qLl_pl_s149 ck_S0) (ck_E1 (ck_S1 Q24L ck_S0) (ck_E1 (ck_S1 qLl_pl_s201 ck_S0) (ck_E1 (ck_S1 qLl_pl_s204 (ck_S1 qLl_pl_s218 ck_S0)) (ck_E1 (ck_S1 qLl_pl_s219 ck_S0) ck_E0)))))⟩ ck_X0 ck_l0 q_pl_s855_e
def q_pl_s860 : ck_Sum := ((24, 1, 6), 249, [.inr (.inr (.inl 1)), .inl (0, 5, []), .inl (0, 299, [])], ([], [(3, 8, 246)], []), ([(200, 6, 6), (204, 0, 9), (205, 0, 14849), (206, 2, 8)], []), [(.inl 3, 249, ([], [], [])), (.inr (some (.inl ((-2147483648), 2147483647, []))), 249, ([], [], [(206, 4, 4, ck_one (-1))]))])
set_option maxRecDepth 100000 in
theorem q_pl_s860_e : ck_ok qL_O none [] [(132, [pl_s159]), (129, [pl_s149]), (29, [q29]), (30, [q30_206, q30n_206])] 227 [] 120 q_pl_s860 = true := by decide +kernel
theorem q_pl_s860_s : ck_Ok qL_O X LX 227 q_pl_s860 := ck_ok_s ⟨qL_nmu, (ck_E1 (ck_S1 qLl_pl_s159 ck_S0) (ck_E1 (ck_S1 qLl_pl_s149 ck_S0) (ck_E1 (ck_S1 Q29 ck_S0) (ck_E1 (ck_S1 Q30_206 (ck_S1 Q30n_206 ck_S0)) ck_E0))))⟩ ck_X0 ck_l0 q_pl_s860_e
def q_pl_s865 : ck_Sum := ((24, 1, 6), 249, [.inr (.inr (.inl 1)), .inl (0, 98, []), .inl (0, 299, [])], ([], [(3, 8, 246)], []), ([(200, 6, 6), (204, 0, 9), (205, 0, 14849), (206, 2, 8)], []), [(.inl 3, 249, ([], [], [])), (.inr (some (.inl ((-1), 5, []))), 249, ([], [], []))])
set_option maxRecDepth 100000 in
theorem q_pl_s865_e : ck_ok qL_O none [] [(134, [pl_s167]), (129, [pl_s149]), (29, [q29]), (30, [q30_206, q30n_206])] 229 [(20, [some (.inr (.inr (.inl 1))), some (.inl (0, 98, [])), some (.inl (0, 299, [])), some (.inl ((-1), 5, [])), some (.inl ((-2147483648), 300, [])), some (.inl (0, 6, [])), none], ([], [(3, 8, 246)], []), 100, .inl 5, true)] 210 q_pl_s865 = true := by decide +kernel
theorem q_pl_s865_s : ck_Ok qL_O X LX 229 q_pl_s865 := ck_ok_s ⟨qL_nmu, (ck_E1 (ck_S1 qLl_pl_s167 ck_S0) (ck_E1 (ck_S1 qLl_pl_s149 ck_S0) (ck_E1 (ck_S1 Q29 ck_S0) (ck_E1 (ck_S1 Q30_206 (ck_S1 Q30n_206 ck_S0)) ck_E0))))⟩ ck_X0 ck_l0 q_pl_s865_e
theorem qLl_pl_s209 : ck_Ok qL_O X LX 31 pl_s209 := qL_l pl_s209_s (by decide +kernel)
def q_pl_s868 : ck_Sum := ((21, 0, 0), 249, [.inr (.inr (.inl 1)), .inl (0, 299, [])], ([], [(3, 8, 246)], []), ([(200, 6, 6), (204, 0, 9), (205, 0, 14849), (206, 2, 8)], []), [(.inr (some (.inl ((-2147483648), 2147483647, []))), 249, ([], [], []))])
set_option maxRecDepth 100000 in
theorem q_pl_s868_e : ck_ok qL_O none [] [(129, [pl_s149]), (9, [pl_s200]), (10, [pl_s204]), (27, [q27_206]), (148, [q148_206, q148n_206]), (31, [pl_s209])] 231 [(9, [some (.inr (.inr (.inl 1))), some (.inl (0, 299, [])), some (.inl ((-2147483648), 2147483647, [])), some (.inl (0, 24, []))], ([], [(3, 8, 246)], []), 100, .inl 3, true)] 246 q_pl_s868 = true := by decide +kernel
theorem q_pl_s868_s : ck_Ok qL_O X LX 231 q_pl_s868 := ck_ok_s ⟨qL_nmu, (ck_E1 (ck_S1 qLl_pl_s149 ck_S0) (ck_E1 (ck_S1 qLl_pl_s200 ck_S0) (ck_E1 (ck_S1 qLl_pl_s204 ck_S0) (ck_E1 (ck_S1 Q27_206 ck_S0) (ck_E1 (ck_S1 Q148_206 (ck_S1 Q148n_206 ck_S0)) (ck_E1 (ck_S1 qLl_pl_s209 ck_S0) ck_E0))))))⟩ ck_X0 ck_l0 q_pl_s868_e
def q_pl_s980 : ck_Sum := ((22, 0, 0), 249, [.inr (.inr (.inl 1))], ([], [(3, 8, 246)], [(3, 6, 6, (0, 299, [(10, 0)]))]), ([(1, 15, 15), (200, 6, 6), (204, 0, 9), (205, 0, 14849), (206, 2, 8), (220, 3, 3), (221, 0, 47)], []), [(.inr (some (.inl ((-2147483648), 2147483647, []))), 249, ([], [], [(1, 15, 15, ck_one 1)]))])
set_option maxRecDepth 100000 in
theorem q_pl_s980_e : ck_ok qL_O none [] [(24, [(q24 1 q24_WL)]), (9, [pl_s200]), (10, [pl_s218]), (67, [pl_s219])] 68 [(8, [some (.inr (.inr (.inl 1))), some (.inl ((-2147483648), 2147483647, [])), some (.inl (0, 24, []))], ([], [(3, 8, 246)], [(1, 15, 15, ck_one 1), (3, 6, 6, (0, 299, [(10, 0)]))]), 100, .inl 2, true)] 174 q_pl_s980 = true := by decide +kernel
theorem q_pl_s980_s : ck_Ok qL_O X LX 68 q_pl_s980 := ck_ok_s ⟨qL_nmu, (ck_E1 (ck_S1 Q24L ck_S0) (ck_E1 (ck_S1 qLl_pl_s200 ck_S0) (ck_E1 (ck_S1 qLl_pl_s218 ck_S0) (ck_E1 (ck_S1 qLl_pl_s219 ck_S0) ck_E0))))⟩ ck_X0 ck_l0 q_pl_s980_e
def q_pl_s981 : ck_Sum := ((22, 0, 0), 249, [.inr (.inr (.inl 1)), .inl (ck_one (-1))], ([], [(3, 8, 246)], [(3, 6, 6, (0, 299, [(10, 0)]))]), ([(1, 15, 15), (200, 6, 6), (204, 0, 9), (205, 0, 14849), (206, 2, 8), (220, 3, 3), (221, 0, 47)], []), [(.inr (some (.inl ((-2147483648), 2147483647, []))), 249, ([], [], [(1, 15, 15, ck_one 1)]))])
set_option maxRecDepth 100000 in
theorem q_pl_s981_e : ck_ok qL_O none [] [(24, [(q24 1 q24_WL)]), (9, [pl_s200]), (66, [pl_s220])] 65 [(8, [some (.inr (.inr (.inl 1))), some (.inl (ck_one (-1))), some (.inl ((-2147483648), 2147483647, [])), some (.inl (0, 24, [])), none], ([], [(3, 8, 246)], [(1, 15, 15, ck_one 1), (3, 6, 6, (0, 299, [(10, 0)]))]), 100, .inl 3, true)] 178 q_pl_s981 = true := by decide +kernel
theorem q_pl_s981_s : ck_Ok qL_O X LX 65 q_pl_s981 := ck_ok_s ⟨qL_nmu, (ck_E1 (ck_S1 Q24L ck_S0) (ck_E1 (ck_S1 qLl_pl_s200 ck_S0) (ck_E1 (ck_S1 qLl_pl_s220 ck_S0) ck_E0)))⟩ ck_X0 ck_l0 q_pl_s981_e
theorem qLl_pl_s979 : ck_Ok qL_O X LX 69 pl_s979 := qL_l pl_s979_s (by decide +kernel)
theorem qLl_pl_s982 : ck_Ok qL_O X LX 9 pl_s982 := qL_l pl_s982_s (by decide +kernel)
def q_pl_s983 : ck_Sum := ((23, 0, 0), 249, [.inr (.inr (.inl 1)), .inl (10, 2147483647, [])], ([], [(3, 8, 246)], [(3, 6, 6, (0, 299, [(10, 0)]))]), ([(1, 15, 15), (200, 6, 6), (204, 0, 9), (205, 0, 14849), (206, 2, 8), (220, 3, 3), (221, 0, 47)], []), [(.inr (some (.inl ((-2147483648), 2147483647, []))), 249, ([], [], [])), (.inr (some (.inl (0, 9999, []))), 249, ([], [], []))])
set_option maxRecDepth 100000 in
theorem q_pl_s983_e : ck_ok qL_O none [] [(69, [pl_s979]), (68, [q_pl_s980]), (65, [q_pl_s981]), (9, [pl_s982])] 63 [] 84 q_pl_s983 = true := by decide +kernel
theorem q_pl_s983_s : ck_Ok qL_O X LX 63 q_pl_s983 := ck_ok_s ⟨qL_nmu, (ck_E1 (ck_S1 qLl_pl_s979 ck_S0) (ck_E1 (ck_S1 q_pl_s980_s ck_S0) (ck_E1 (ck_S1 q_pl_s981_s ck_S0) (ck_E1 (ck_S1 qLl_pl_s982 ck_S0) ck_E0))))⟩ ck_X0 ck_l0 q_pl_s983_e
def q_pl_h15 : ck_Sum := ((25, 2, 12), 249, [.inr (.inr (.inl 1)), .inl (0, 5, []), .inl (0, 98, []), .inl (0, 299, []), .inr (.inr (.inl 245))], ([], [(3, 8, 246)], []), ([(200, 6, 6), (204, 0, 9), (205, 0, 14849), (245, 0, 0)], []), [(.inr (some (.inl (ck_one 1))), 249, ([], [], [])), (.inr (some (.inl (ck_one 0))), 249, ([], [], [(245, 0, 0, (0, 30, [])), (200, 6, 6, ck_one 0)]))])
set_option maxRecDepth 100000 in
theorem q_pl_h15_e : ck_ok qL_O none [] [(136, [q_pl_s188])] 135 [] 94 q_pl_h15 = true := by decide +kernel
theorem q_pl_h15_s : ck_Ok qL_O X LX 135 q_pl_h15 := ck_ok_s ⟨qL_nmu, (ck_E1 (ck_S1 q_pl_s188_s ck_S0) ck_E0)⟩ ck_X0 ck_l0 q_pl_h15_e
def q_pl_h20 : ck_Sum := ((25, 2, 12), 249, [.inr (.inr (.inl 1)), .inl (0, 7, []), .inl (0, 9, []), .inr (.inr (.inl 245))], ([], [(3, 8, 246)], [(3, 6, 6, (0, 299, [(10, 0)]))]), ([(1, 15, 15), (200, 6, 6), (204, 0, 9), (205, 0, 14849), (206, 2, 8), (220, 3, 3), (221, 0, 47), (245, 0, 0)], []), [(.inr (some (.inl (ck_one 1))), 249, ([], [], [])), (.inr (some (.inl (ck_one 0))), 249, ([], [], [])), (.inr (some (.inl (ck_one 2))), 249, ([], [], []))])
set_option maxRecDepth 100000 in
theorem q_pl_h20_e : ck_ok qL_O none [] [(138, [q_pl_s225])] 137 [] 92 q_pl_h20 = true := by decide +kernel
theorem q_pl_h20_s : ck_Ok qL_O X LX 137 q_pl_h20 := ck_ok_s ⟨qL_nmu, (ck_E1 (ck_S1 q_pl_s225_s ck_S0) ck_E0)⟩ ck_X0 ck_l0 q_pl_h20_e
def q_pl_h25 : ck_Sum := ((25, 1, 6), 249, [.inr (.inr (.inl 1)), .inl (0, 23, []), .inl (0, 9, []), .inr (.inr (.inl 245))], ([], [(3, 8, 246)], []), ([(200, 6, 6), (204, 0, 9), (205, 0, 14849), (206, 2, 8), (245, 0, 0)], []), [(.inr (some (.inl (ck_one 1))), 249, ([], [], [])), (.inr (some (.inl (ck_one 0))), 249, ([], [], [(245, 0, 0, ((-2147483648), 299, []))]))])
set_option maxRecDepth 100000 in
theorem q_pl_h25_e : ck_ok qL_O none [] [(142, [q_pl_s238])] 141 [] 92 q_pl_h25 = true := by decide +kernel
theorem q_pl_h25_s : ck_Ok qL_O X LX 141 q_pl_h25 := ck_ok_s ⟨qL_nmu, (ck_E1 (ck_S1 q_pl_s238_s ck_S0) ck_E0)⟩ ck_X0 ck_l0 q_pl_h25_e
def q_pl_h30 : ck_Sum := ((25, 1, 6), 249, [.inr (.inr (.inl 1)), .inl (0, 23, []), .inl (0, 299, []), .inr (.inr (.inl 245))], ([], [(3, 8, 246)], []), ([(200, 6, 6), (204, 0, 9), (205, 0, 14849), (206, 2, 8), (245, 0, 0)], []), [(.inr (some (.inl (ck_one 1))), 249, ([], [], [])), (.inr (some (.inl (ck_one 0))), 249, ([], [], [(245, 0, 0, ((-2147483648), 99, []))]))])
set_option maxRecDepth 100000 in
theorem q_pl_h30_e : ck_ok qL_O none [] [(147, [q_pl_s244])] 146 [] 92 q_pl_h30 = true := by decide +kernel
theorem q_pl_h30_s : ck_Ok qL_O X LX 146 q_pl_h30 := ck_ok_s ⟨qL_nmu, (ck_E1 (ck_S1 q_pl_s244_s ck_S0) ck_E0)⟩ ck_X0 ck_l0 q_pl_h30_e
def q_pl_h35 : ck_Sum := ((25, 1, 6), 249, [.inr (.inr (.inl 1)), .inl (0, 23, []), .inl (0, 299, []), .inr (.inr (.inl 245))], ([], [(3, 8, 246)], []), ([(200, 6, 6), (204, 0, 9), (205, 0, 14849), (206, 2, 8), (245, 0, 0)], []), [(.inr (some (.inl (ck_one 1))), 249, ([], [], [])), (.inr (some (.inl (ck_one 0))), 249, ([], [], [(245, 0, 0, ((-1), 99, []))]))])
set_option maxRecDepth 100000 in
theorem q_pl_h35_e : ck_ok qL_O none [] [(150, [q_pl_s249])] 149 [] 92 q_pl_h35 = true := by decide +kernel
theorem q_pl_h35_s : ck_Ok qL_O X LX 149 q_pl_h35 := ck_ok_s ⟨qL_nmu, (ck_E1 (ck_S1 q_pl_s249_s ck_S0) ck_E0)⟩ ck_X0 ck_l0 q_pl_h35_e
def q_pl_h132 : ck_Sum := ((25, 2, 12), 249, [.inr (.inr (.inl 1)), .inl (0, 5, []), .inl (0, 299, []), .inl (0, 299, []), .inl (0, 9, []), .inr (.inr (.inl 245))], ([], [(3, 8, 246)], [(3, 6, 6, (0, 299, [(10, 0)]))]), ([(200, 6, 6), (204, 0, 9), (205, 0, 14849), (206, 2, 8), (245, 0, 0)], []), [(.inr (some (.inl (ck_one 1))), 249, ([], [], [])), (.inr (some (.inl (ck_one 0))), 249, ([], [], [])), (.inr (some (.inl (ck_one 2))), 249, ([], [], [(3, 6, 6, (1, 299, [(10, 0)]))])), (.inr (some (.inl (ck_one 3))), 249, ([], [], []))])
set_option maxRecDepth 100000 in
theorem q_pl_h132_e : ck_ok qL_O none [] [(167, [q_pl_s692])] 166 [] 96 q_pl_h132 = true := by decide +kernel
theorem q_pl_h132_s : ck_Ok qL_O X LX 166 q_pl_h132 := ck_ok_s ⟨qL_nmu, (ck_E1 (ck_S1 q_pl_s692_s ck_S0) ck_E0)⟩ ck_X0 ck_l0 q_pl_h132_e
def q_pl_h137 : ck_Sum := ((25, 1, 6), 249, [.inr (.inr (.inl 1)), .inl (0, 7, []), .inl (0, 299, []), .inr (.inr (.inl 245))], ([], [(3, 8, 246)], [(3, 6, 6, (0, 299, [(10, 0)]))]), ([(200, 6, 6), (204, 0, 9), (205, 0, 14849), (206, 2, 8), (245, 0, 0)], []), [(.inr (some (.inl (ck_one 1))), 249, ([], [], [])), (.inr (some (.inl (ck_one 0))), 249, ([], [], [(245, 0, 0, ((-1), 299, []))]))])
set_option maxRecDepth 100000 in
theorem q_pl_h137_e : ck_ok qL_O none [] [(169, [q_pl_s698])] 168 [] 92 q_pl_h137 = true := by decide +kernel
theorem q_pl_h137_s : ck_Ok qL_O X LX 168 q_pl_h137 := ck_ok_s ⟨qL_nmu, (ck_E1 (ck_S1 q_pl_s698_s ck_S0) ck_E0)⟩ ck_X0 ck_l0 q_pl_h137_e
def q_pl_h142 : ck_Sum := ((25, 2, 12), 249, [.inr (.inr (.inl 1)), .inl (0, 5, []), .inl (0, 299, []), .inr (.inr (.inl 245))], ([], [(3, 8, 246)], [(3, 6, 6, (0, 299, [(10, 0)]))]), ([(200, 6, 6), (204, 0, 9), (205, 0, 14849), (206, 2, 8), (245, 0, 0)], []), [(.inr (some (.inl (ck_one 1))), 249, ([], [], [])), (.inr (some (.inl (ck_one 0))), 249, ([], [], [(245, 0, 0, ((-1), 98, []))])), (.inr (some (.inl (ck_one 2))), 249, ([], [], []))])
set_option maxRecDepth 100000 in
theorem q_pl_h142_e : ck_ok qL_O none [] [(172, [q_pl_s703])] 171 [] 92 q_pl_h142 = true := by decide +kernel
theorem q_pl_h142_s : ck_Ok qL_O X LX 171 q_pl_h142 := ck_ok_s ⟨qL_nmu, (ck_E1 (ck_S1 q_pl_s703_s ck_S0) ck_E0)⟩ ck_X0 ck_l0 q_pl_h142_e
def q_pl_h147 : ck_Sum := ((25, 2, 12), 249, [.inr (.inr (.inl 1)), .inl (0, 23, []), .inl (0, 7, []), .inr (.inr (.inl 245))], ([], [(3, 8, 246)], []), ([(200, 6, 6), (204, 0, 9), (205, 0, 14849), (206, 2, 8), (245, 0, 0)], []), [(.inr (some (.inl (ck_one 1))), 249, ([], [], [])), (.inr (some (.inl (ck_one 0))), 249, ([], [], [(245, 0, 0, ((-2147483648), 299, [])), (206, 4, 4, (0, 7, [])), (206, 2, 2, ((-1), 299, []))]))])
set_option maxRecDepth 100000 in
theorem q_pl_h147_e : ck_ok qL_O none [] [(174, [q_pl_s709])] 173 [] 92 q_pl_h147 = true := by decide +kernel
theorem q_pl_h147_s : ck_Ok qL_O X LX 173 q_pl_h147 := ck_ok_s ⟨qL_nmu, (ck_E1 (ck_S1 q_pl_s709_s ck_S0) ck_E0)⟩ ck_X0 ck_l0 q_pl_h147_e
def q_pl_h150 : ck_Sum := ((25, 1, 6), 249, [.inr (.inr (.inl 1)), .inl (0, 23, []), .inr (.inr (.inl 245))], ([], [(3, 8, 246)], []), ([(200, 6, 6), (204, 0, 9), (205, 0, 14849), (206, 2, 8), (245, 0, 0)], []), [(.inr (some (.inl (ck_one 1))), 249, ([], [], [])), (.inr (some (.inl (ck_one 0))), 249, ([], [], [(206, 4, 4, ck_one (-1)), (206, 2, 2, ((-1), 299, []))]))])
set_option maxRecDepth 100000 in
theorem q_pl_h150_e : ck_ok qL_O none [] [(177, [q_pl_s712])] 176 [] 90 q_pl_h150 = true := by decide +kernel
theorem q_pl_h150_s : ck_Ok qL_O X LX 176 q_pl_h150 := ck_ok_s ⟨qL_nmu, (ck_E1 (ck_S1 q_pl_s712_s ck_S0) ck_E0)⟩ ck_X0 ck_l0 q_pl_h150_e
def q_pl_h153 : ck_Sum := ((25, 1, 6), 249, [.inr (.inr (.inl 1)), .inl (0, 23, []), .inr (.inr (.inl 245))], ([], [(3, 8, 246)], []), ([(200, 6, 6), (204, 0, 9), (205, 0, 14849), (206, 2, 8), (207, 2, 8), (245, 0, 0)], []), [(.inr (some (.inl (ck_one 1))), 249, ([], [], [])), (.inr (some (.inl (ck_one 0))), 249, ([], [], []))])
set_option maxRecDepth 100000 in
theorem q_pl_h153_e : ck_ok qL_O none [] [(179, [q_pl_s731])] 178 [] 90 q_pl_h153 = true := by decide +kernel
theorem q_pl_h153_s : ck_Ok qL_O X LX 178 q_pl_h153 := ck_ok_s ⟨qL_nmu, (ck_E1 (ck_S1 q_pl_s731_s ck_S0) ck_E0)⟩ ck_X0 ck_l0 q_pl_h153_e
def q_pl_h160 : ck_Sum := ((25, 1, 6), 249, [.inr (.inr (.inl 1)), .inl (0, 5, []), .inl (0, 299, []), .inl (0, 99, []), .inr (.inr (.inl 245))], ([], [(3, 8, 246)], []), ([(200, 6, 6), (204, 0, 9), (205, 0, 14849), (206, 2, 8), (245, 0, 0)], []), [(.inr (some (.inl (ck_one 1))), 249, ([], [], [])), (.inr (some (.inl (ck_one 0))), 249, ([], [], []))])
set_option maxRecDepth 100000 in
theorem q_pl_h160_e : ck_ok qL_O none [] [(186, [q_pl_s744])] 185 [] 94 q_pl_h160 = true := by decide +kernel
theorem q_pl_h160_s : ck_Ok qL_O X LX 185 q_pl_h160 := ck_ok_s ⟨qL_nmu, (ck_E1 (ck_S1 q_pl_s744_s ck_S0) ck_E0)⟩ ck_X0 ck_l0 q_pl_h160_e
def q_pl_h169 : ck_Sum := ((25, 2, 12), 249, [.inr (.inr (.inl 1)), .inl (0, 7, []), .inl (0, 5, []), .inl (0, 299, []), .inl (0, 99, []), .inr (.inr (.inl 245))], ([], [(3, 8, 246)], []), ([(200, 6, 6), (204, 0, 9), (205, 0, 14849), (206, 2, 8), (245, 0, 0)], []), [(.inr (some (.inl (ck_one 1))), 249, ([], [], [])), (.inr (some (.inl (ck_one 0))), 249, ([], [], [(245, 0, 0, ((-1), 298, []))]))])
set_option maxRecDepth 100000 in
theorem q_pl_h169_e : ck_ok qL_O none [] [(190, [q_pl_s753])] 189 [] 96 q_pl_h169 = true := by decide +kernel
theorem q_pl_h169_s : ck_Ok qL_O X LX 189 q_pl_h169 := ck_ok_s ⟨qL_nmu, (ck_E1 (ck_S1 q_pl_s753_s ck_S0) ck_E0)⟩ ck_X0 ck_l0 q_pl_h169_e
def q_pl_h185 : ck_Sum := ((25, 3, 18), 249, [.inr (.inr (.inl 1)), .inl (0, 7, []), .inl (0, 7, []), .inl (0, 1, []), .inr (.inr (.inl 245))], ([], [(3, 8, 246)], [(3, 6, 6, (0, 299, [(10, 0)]))]), ([(200, 6, 6), (204, 0, 9), (205, 0, 14849), (206, 2, 8), (209, 3, 3), (210, 0, 2399), (211, 3, 3), (212, 0, 2399), (245, 0, 0)], []), [(.inr (some (.inl (ck_one 1))), 249, ([], [], [])), (.inr (some (.inl (ck_one 0))), 249, ([], [], [(206, 4, 4, ck_one (-1))])), (.inr (some (.inl (ck_one 2))), 249, ([], [], []))])
set_option maxRecDepth 100000 in
theorem q_pl_h185_e : ck_ok qL_O none [] [(201, [q_pl_s797])] 200 [] 94 q_pl_h185 = true := by decide +kernel
theorem q_pl_h185_s : ck_Ok qL_O X LX 200 q_pl_h185 := ck_ok_s ⟨qL_nmu, (ck_E1 (ck_S1 q_pl_s797_s ck_S0) ck_E0)⟩ ck_X0 ck_l0 q_pl_h185_e
def q_pl_h190 : ck_Sum := ((25, 4, 24), 249, [.inr (.inr (.inl 1)), .inl (0, 7, []), .inl (0, 7, []), .inl ((-2147483648), 0, []), .inr (.inr (.inl 245))], ([], [(3, 8, 246)], [(3, 6, 6, (0, 299, [(10, 0)]))]), ([(200, 6, 6), (204, 0, 9), (205, 0, 14849), (206, 2, 8), (209, 3, 3), (210, 0, 2399), (211, 3, 3), (212, 0, 2399), (245, 0, 0)], []), [(.inr (some (.inl (ck_one 1))), 249, ([], [], [])), (.inr (some (.inl (ck_one 0))), 249, ([], [], [(245, 0, 0, ((-1), 7, [])), (206, 4, 4, ck_one (-1))])), (.inr (some (.inl (ck_one 2))), 249, ([], [], []))])
set_option maxRecDepth 100000 in
theorem q_pl_h190_e : ck_ok qL_O none [] [(207, [q_pl_s805])] 206 [] 94 q_pl_h190 = true := by decide +kernel
theorem q_pl_h190_s : ck_Ok qL_O X LX 206 q_pl_h190 := ck_ok_s ⟨qL_nmu, (ck_E1 (ck_S1 q_pl_s805_s ck_S0) ck_E0)⟩ ck_X0 ck_l0 q_pl_h190_e
def q_pl_h191 : ck_Sum := ((25, 3, 18), 249, [.inr (.inr (.inl 1)), .inl (0, 7, []), .inl (0, 7, []), .inl (51, 2147483647, []), .inr (.inr (.inl 245))], ([], [(3, 8, 246)], [(3, 6, 6, (0, 299, [(10, 0)]))]), ([(200, 6, 6), (204, 0, 9), (205, 0, 14849), (206, 2, 8), (209, 3, 3), (210, 0, 2399), (211, 3, 3), (212, 0, 2399), (245, 0, 0)], []), [(.inr (some (.inl (ck_one 1))), 249, ([], [], [])), (.inr (some (.inl (ck_one 0))), 249, ([], [], [(245, 0, 0, ((-1), 2398, [])), (206, 4, 4, ck_one (-1))])), (.inr (some (.inl (ck_one 2))), 249, ([], [], []))])
set_option maxRecDepth 100000 in
theorem q_pl_h191_e : ck_ok qL_O none [] [(207, [q_pl_s808])] 206 [] 94 q_pl_h191 = true := by decide +kernel
theorem q_pl_h191_s : ck_Ok qL_O X LX 206 q_pl_h191 := ck_ok_s ⟨qL_nmu, (ck_E1 (ck_S1 q_pl_s808_s ck_S0) ck_E0)⟩ ck_X0 ck_l0 q_pl_h191_e
def q_pl_h192 : ck_Sum := ((25, 3, 18), 249, [.inr (.inr (.inl 1)), .inl (0, 7, []), .inl (0, 7, []), .inl (1, 50, []), .inr (.inr (.inl 245))], ([], [(3, 8, 246)], [(3, 6, 6, (0, 299, [(10, 0)]))]), ([(200, 6, 6), (204, 0, 9), (205, 0, 14849), (206, 2, 8), (209, 3, 3), (210, 0, 2399), (211, 3, 3), (212, 0, 2399), (245, 0, 0)], []), [(.inr (some (.inl (ck_one 1))), 249, ([], [], [])), (.inr (some (.inl (ck_one 0))), 249, ([], [], [(245, 0, 0, ((-1), 2398, [])), (206, 4, 4, ck_one (-1))])), (.inr (some (.inl (ck_one 2))), 249, ([], [], []))])
set_option maxRecDepth 100000 in
theorem q_pl_h192_e : ck_ok qL_O none [] [(207, [q_pl_s810])] 206 [] 94 q_pl_h192 = true := by decide +kernel
theorem q_pl_h192_s : ck_Ok qL_O X LX 206 q_pl_h192 := ck_ok_s ⟨qL_nmu, (ck_E1 (ck_S1 q_pl_s810_s ck_S0) ck_E0)⟩ ck_X0 ck_l0 q_pl_h192_e
def q_pl_h197 : ck_Sum := ((25, 1, 6), 249, [.inr (.inr (.inl 1)), .inl (0, 7, []), .inl (0, 299, []), .inr (.inr (.inl 245))], ([], [(3, 8, 246)], [(3, 6, 6, (0, 299, [(10, 0)]))]), ([(200, 6, 6), (204, 0, 9), (205, 0, 14849), (206, 2, 8), (209, 3, 3), (210, 0, 2399), (211, 3, 3), (212, 0, 2399), (245, 0, 0)], []), [(.inr (some (.inl (ck_one 1))), 249, ([], [], [])), (.inr (some (.inl (ck_one 0))), 249, ([], [], [(206, 4, 4, ck_one (-1))]))])
set_option maxRecDepth 100000 in
theorem q_pl_h197_e : ck_ok qL_O none [] [(211, [q_pl_s818])] 210 [] 92 q_pl_h197 = true := by decide +kernel
theorem q_pl_h197_s : ck_Ok qL_O X LX 210 q_pl_h197 := ck_ok_s ⟨qL_nmu, (ck_E1 (ck_S1 q_pl_s818_s ck_S0) ck_E0)⟩ ck_X0 ck_l0 q_pl_h197_e
def q_pl_h200 : ck_Sum := ((24, 1, 6), 249, [.inr (.inr (.inl 1)), .inl (0, 30, []), .inl (0, 1, []), .inr (.inr (.inl 245))], ([], [(3, 8, 246)], [(3, 6, 6, (0, 299, [(10, 0)]))]), ([(1, 15, 15), (200, 6, 6), (204, 0, 9), (205, 0, 14849), (206, 2, 8), (220, 3, 3), (221, 0, 47), (222, 3, 3), (223, 0, 179), (224, 3, 3), (225, 0, 185), (245, 0, 0)], []), [(.inr (some (.inl (ck_one 1))), 249, ([], [], [])), (.inr (some (.inl (ck_one 0))), 249, ([], [], [(224, 3, 3, (1, 31, [])), (1, 15, 15, ck_one 1)]))])
set_option maxRecDepth 100000 in
theorem q_pl_h200_e : ck_ok qL_O none [] [(213, [q_pl_s834])] 212 [] 92 q_pl_h200 = true := by decide +kernel
theorem q_pl_h200_s : ck_Ok qL_O X LX 212 q_pl_h200 := ck_ok_s ⟨qL_nmu, (ck_E1 (ck_S1 q_pl_s834_s ck_S0) ck_E0)⟩ ck_X0 ck_l0 q_pl_h200_e
def q_pl_h203 : ck_Sum := ((24, 1, 6), 249, [.inr (.inr (.inl 1)), .inl (0, 30, []), .inl (0, 1, []), .inr (.inr (.inl 245))], ([], [(3, 8, 246)], [(3, 6, 6, (0, 299, [(10, 0)]))]), ([(1, 15, 15), (200, 6, 6), (204, 0, 9), (205, 0, 14849), (206, 2, 8), (220, 3, 3), (221, 0, 47), (222, 3, 3), (223, 0, 179), (245, 0, 0)], []), [(.inr (some (.inl (ck_one 1))), 249, ([], [], [])), (.inr (some (.inl (ck_one 0))), 249, ([], [], [(245, 0, 0, (0, 2147483647, [])), (1, 15, 15, ck_one 1)]))])
set_option maxRecDepth 100000 in
theorem q_pl_h203_e : ck_ok qL_O none [] [(218, [q_pl_s839])] 217 [] 92 q_pl_h203 = true := by decide +kernel
theorem q_pl_h203_s : ck_Ok qL_O X LX 217 q_pl_h203 := ck_ok_s ⟨qL_nmu, (ck_E1 (ck_S1 q_pl_s839_s ck_S0) ck_E0)⟩ ck_X0 ck_l0 q_pl_h203_e
def q_pl_h208 : ck_Sum := ((25, 3, 18), 249, [.inr (.inr (.inl 1)), .inl (0, 23, []), .inl (0, 23, []), .inr (.inr (.inl 245))], ([], [(3, 8, 246)], [(3, 6, 6, (0, 299, [(10, 0)]))]), ([(200, 6, 6), (204, 0, 9), (205, 0, 14849), (206, 2, 8), (207, 2, 8), (245, 0, 0)], []), [(.inr (some (.inl (ck_one 1))), 249, ([], [], [])), (.inr (some (.inl (ck_one 0))), 249, ([], [], [(245, 0, 0, ((-1), 299, []))])), (.inr (some (.inl (ck_one 2))), 249, ([], [], []))])
set_option maxRecDepth 100000 in
theorem q_pl_h208_e : ck_ok qL_O none [] [(221, [q221])] 220 [] 92 q_pl_h208 = true := by decide +kernel
theorem q_pl_h208_s : ck_Ok qL_O X LX 220 q_pl_h208 := ck_ok_s ⟨qL_nmu, (ck_E1 (ck_S1 Q221 ck_S0) ck_E0)⟩ ck_X0 ck_l0 q_pl_h208_e
def q_pl_h211 : ck_Sum := ((23, 0, 0), 249, [.inr (.inr (.inl 1)), .inl (0, 299, []), .inr (.inr (.inl 245))], ([], [(3, 8, 246)], []), ([(1, 15, 15), (200, 6, 6), (204, 0, 9), (205, 0, 14849), (206, 2, 8), (220, 3, 3), (221, 0, 47), (245, 0, 0)], []), [(.inr (some (.inl (ck_one 0))), 249, ([], [], [(1, 15, 15, ck_one 1)]))])
set_option maxRecDepth 100000 in
theorem q_pl_h211_e : ck_ok qL_O none [] [(223, [q_pl_s850])] 222 [] 90 q_pl_h211 = true := by decide +kernel
theorem q_pl_h211_s : ck_Ok qL_O X LX 222 q_pl_h211 := ck_ok_s ⟨qL_nmu, (ck_E1 (ck_S1 q_pl_s850_s ck_S0) ck_E0)⟩ ck_X0 ck_l0 q_pl_h211_e
def q_pl_h214 : ck_Sum := ((23, 0, 0), 249, [.inr (.inr (.inl 1)), .inl (0, 299, []), .inl (0, 1, []), .inr (.inr (.inl 245))], ([], [(3, 8, 246)], []), ([(1, 15, 15), (200, 6, 6), (204, 0, 9), (205, 0, 14849), (206, 2, 8), (220, 3, 3), (221, 0, 47), (245, 0, 0)], []), [(.inr (some (.inl (ck_one 0))), 249, ([], [], [(1, 15, 15, ck_one 1)]))])
set_option maxRecDepth 100000 in
theorem q_pl_h214_e : ck_ok qL_O none [] [(225, [q_pl_s855])] 224 [] 92 q_pl_h214 = true := by decide +kernel
theorem q_pl_h214_s : ck_Ok qL_O X LX 224 q_pl_h214 := ck_ok_s ⟨qL_nmu, (ck_E1 (ck_S1 q_pl_s855_s ck_S0) ck_E0)⟩ ck_X0 ck_l0 q_pl_h214_e
def q_pl_h219 : ck_Sum := ((25, 1, 6), 249, [.inr (.inr (.inl 1)), .inl (0, 5, []), .inl (0, 299, []), .inr (.inr (.inl 245))], ([], [(3, 8, 246)], []), ([(200, 6, 6), (204, 0, 9), (205, 0, 14849), (206, 2, 8), (245, 0, 0)], []), [(.inr (some (.inl (ck_one 1))), 249, ([], [], [])), (.inr (some (.inl (ck_one 0))), 249, ([], [], [(206, 4, 4, ck_one (-1))]))])
set_option maxRecDepth 100000 in
theorem q_pl_h219_e : ck_ok qL_O none [] [(227, [q_pl_s860])] 226 [] 92 q_pl_h219 = true := by decide +kernel
theorem q_pl_h219_s : ck_Ok qL_O X LX 226 q_pl_h219 := ck_ok_s ⟨qL_nmu, (ck_E1 (ck_S1 q_pl_s860_s ck_S0) ck_E0)⟩ ck_X0 ck_l0 q_pl_h219_e
def q_pl_h224 : ck_Sum := ((25, 1, 6), 249, [.inr (.inr (.inl 1)), .inl (0, 98, []), .inl (0, 299, []), .inr (.inr (.inl 245))], ([], [(3, 8, 246)], []), ([(200, 6, 6), (204, 0, 9), (205, 0, 14849), (206, 2, 8), (245, 0, 0)], []), [(.inr (some (.inl (ck_one 1))), 249, ([], [], [])), (.inr (some (.inl (ck_one 0))), 249, ([], [], [(245, 0, 0, ((-1), 5, []))]))])
set_option maxRecDepth 100000 in
theorem q_pl_h224_e : ck_ok qL_O none [] [(229, [q_pl_s865])] 228 [] 92 q_pl_h224 = true := by decide +kernel
theorem q_pl_h224_s : ck_Ok qL_O X LX 228 q_pl_h224 := ck_ok_s ⟨qL_nmu, (ck_E1 (ck_S1 q_pl_s865_s ck_S0) ck_E0)⟩ ck_X0 ck_l0 q_pl_h224_e
def q_pl_h227 : ck_Sum := ((22, 0, 0), 249, [.inr (.inr (.inl 1)), .inl (0, 299, []), .inr (.inr (.inl 245))], ([], [(3, 8, 246)], []), ([(200, 6, 6), (204, 0, 9), (205, 0, 14849), (206, 2, 8), (245, 0, 0)], []), [(.inr (some (.inl (ck_one 0))), 249, ([], [], []))])
set_option maxRecDepth 100000 in
theorem q_pl_h227_e : ck_ok qL_O none [] [(231, [q_pl_s868])] 230 [] 90 q_pl_h227 = true := by decide +kernel
theorem q_pl_h227_s : ck_Ok qL_O X LX 230 q_pl_h227 := ck_ok_s ⟨qL_nmu, (ck_E1 (ck_S1 q_pl_s868_s ck_S0) ck_E0)⟩ ck_X0 ck_l0 q_pl_h227_e
end GHL
end
/-! 7c37.g0 -/
section
/-! ROWS THAT KEEP SOMETHING, again under q0_O (laid by wip/rel/gh2.py). -/
section GH0
variable {X : Int → Int} {LX : Nat}
theorem Q240 : ck_Ok q0_O X LX 24 (q24 0 q24_W0) := q24_0 p2_s349_s
theorem q0l_p2_s331 : ck_Ok q0_O X LX 9 p2_s331 := q0_l p2_s331_s (by decide +kernel)
theorem q0l_p2_s335 : ck_Ok q0_O X LX 10 p2_s335 := q0_l p2_s335_s (by decide +kernel)
theorem q0l_p2_s352 : ck_Ok q0_O X LX 66 p2_s352 := q0_l p2_s352_s (by decide +kernel)
def q_p2_s353 : ck_Sum := ((21, 0, 0), 245, [.inr (.inr (.inl 1)), .inl (0, 7, [])], ([], [(3, 8, 0)], [(3, 6, 6, (0, 299, [(10, 0)]))]), ([(1, 15, 15), (206, 2, 8), (220, 3, 3), (221, 0, 47)], []), [(.inr (some (.inl ((-2147483648), 2147483647, []))), 245, ([], [], [(1, 15, 15, ck_one 1)]))])
set_option maxRecDepth 100000 in
theorem q_p2_s353_e : ck_ok q0_O none [] [(24, [(q24 0 q24_W0)]), (9, [p2_s331]), (10, [p2_s335]), (66, [p2_s352])] 65 [(8, [some (.inr (.inr (.inl 1))), some (.inl (0, 7, [])), some (.inl ((-2147483648), 2147483647, [])), some (.inl (0, 24, [])), none], ([], [(3, 8, 0)], [(1, 15, 15, ck_one 1), (3, 6, 6, (0, 299, [(10, 0)]))]), 100, .inl 3, true)] 210 q_p2_s353 = true := by decide +kernel
theorem q_p2_s353_s : ck_Ok q0_O X LX 65 q_p2_s353 := ck_ok_s ⟨q0_nmu, (ck_E1 (ck_S1 Q240 ck_S0) (ck_E1 (ck_S1 q0l_p2_s331 ck_S0) (ck_E1 (ck_S1 q0l_p2_s335 ck_S0) (ck_E1 (ck_S1 q0l_p2_s352 ck_S0) ck_E0))))⟩ ck_X0 ck_l0 q_p2_s353_e
theorem q0l_p2_s328 : ck_Ok q0_O X LX 139 p2_s328 := q0_l p2_s328_s (by decide +kernel)
theorem q0l_p2_s354 : ck_Ok q0_O X LX 140 p2_s354 := q0_l p2_s354_s (by decide +kernel)
theorem q0l_p2_s355 : ck_Ok q0_O X LX 140 p2_s355 := q0_l p2_s355_s (by decide +kernel)
theorem q0l_p2_s356 : ck_Ok q0_O X LX 10 p2_s356 := q0_l p2_s356_s (by decide +kernel)
def q_p2_s357 : ck_Sum := ((24, 2, 12), 245, [.inr (.inr (.inl 1)), .inl (0, 7, []), .inl (0, 9, [])], ([], [(3, 8, 0)], [(3, 6, 6, (0, 299, [(10, 0)]))]), ([(1, 15, 15), (206, 2, 8), (220, 3, 3), (221, 0, 47)], []), [(.inl 3, 245, ([], [], [])), (.inl 4, 245, ([], [], [])), (.inr (some (.inl ((-2147483648), 2147483647, []))), 245, ([], [], []))])
set_option maxRecDepth 100000 in
theorem q_p2_s357_e : ck_ok q0_O none [] [(139, [p2_s328]), (65, [q_p2_s353]), (140, [p2_s354, p2_s355]), (10, [p2_s356])] 138 [] 94 q_p2_s357 = true := by decide +kernel
theorem q_p2_s357_s : ck_Ok q0_O X LX 138 q_p2_s357 := ck_ok_s ⟨q0_nmu, (ck_E1 (ck_S1 q0l_p2_s328 ck_S0) (ck_E1 (ck_S1 q_p2_s353_s ck_S0) (ck_E1 (ck_S1 q0l_p2_s354 (ck_S1 q0l_p2_s355 ck_S0)) (ck_E1 (ck_S1 q0l_p2_s356 ck_S0) ck_E0))))⟩ ck_X0 ck_l0 q_p2_s357_e
theorem q0l_p2_s332 : ck_Ok q0_O X LX 9 p2_s332 := q0_l p2_s332_s (by decide +kernel)
theorem q0l_p2_s350 : ck_Ok q0_O X LX 10 p2_s350 := q0_l p2_s350_s (by decide +kernel)
def q_p2_s1369 : ck_Sum := ((21, 0, 0), 245, [.inr (.inr (.inl 1))], ([], [(3, 8, 0)], []), ([(1, 15, 15), (206, 2, 8), (220, 3, 3), (221, 0, 47)], []), [(.inr (some (.inl ((-2147483648), 2147483647, []))), 245, ([], [], [(1, 15, 15, ck_one 1)]))])
set_option maxRecDepth 100000 in
theorem q_p2_s1369_e : ck_ok q0_O none [] [(24, [(q24 0 q24_W0)]), (9, [p2_s332]), (10, [p2_s350])] 23 [(8, [some (.inr (.inr (.inl 1))), some (.inl ((-2147483648), 2147483647, [])), some (.inl (0, 24, []))], ([], [(3, 8, 0)], [(1, 15, 15, ck_one 1)]), 100, .inl 2, true)] 174 q_p2_s1369 = true := by decide +kernel
theorem q_p2_s1369_s : ck_Ok q0_O X LX 23 q_p2_s1369 := ck_ok_s ⟨q0_nmu, (ck_E1 (ck_S1 Q240 ck_S0) (ck_E1 (ck_S1 q0l_p2_s332 ck_S0) (ck_E1 (ck_S1 q0l_p2_s350 ck_S0) ck_E0)))⟩ ck_X0 ck_l0 q_p2_s1369_e
theorem q0l_p2_s1371 : ck_Ok q0_O X LX 47 p2_s1371 := q0_l p2_s1371_s (by decide +kernel)
def q_p2_s1372 : ck_Sum := ((21, 0, 0), 245, [.inr (.inr (.inl 1)), .inl (0, 1, [])], ([], [(3, 8, 0)], []), ([(1, 15, 15), (206, 2, 8), (220, 3, 3), (221, 0, 47)], []), [(.inr (some (.inl ((-2147483648), 299, []))), 245, ([], [], [(1, 15, 15, ck_one 1)])), (.inr (some (.inl (0, 2147483647, []))), 245, ([], [], [(1, 15, 15, ck_one 1)]))])
set_option maxRecDepth 100000 in
theorem q_p2_s1372_e : ck_ok q0_O none [] [(24, [(q24 0 q24_W0)]), (9, [p2_s332]), (10, [p2_s350]), (47, [p2_s1371])] 46 [(11, [some (.inr (.inr (.inl 1))), some (.inl (0, 1, [])), some (.inl ((-2147483648), 299, [])), some (.inl (0, 2147483647, [])), some (.inl (0, 24, [])), none, none], ([], [(3, 8, 0)], [(1, 15, 15, ck_one 1)]), 100, .inl 4, true)] 230 q_p2_s1372 = true := by decide +kernel
theorem q_p2_s1372_s : ck_Ok q0_O X LX 46 q_p2_s1372 := ck_ok_s ⟨q0_nmu, (ck_E1 (ck_S1 Q240 ck_S0) (ck_E1 (ck_S1 q0l_p2_s332 ck_S0) (ck_E1 (ck_S1 q0l_p2_s350 ck_S0) (ck_E1 (ck_S1 q0l_p2_s1371 ck_S0) ck_E0))))⟩ ck_X0 ck_l0 q_p2_s1372_e
theorem q0l_p2_s1558 : ck_Ok q0_O X LX 214 p2_s1558 := q0_l p2_s1558_s (by decide +kernel)
theorem q0l_p2_s1563 : ck_Ok q0_O X LX 215 p2_s1563 := q0_l p2_s1563_s (by decide +kernel)
theorem q0l_p2_s1565 : ck_Ok q0_O X LX 25 p2_s1565 := q0_l p2_s1565_s (by decide +kernel)
theorem q0l_p2_s1566 : ck_Ok q0_O X LX 10 p2_s1566 := q0_l p2_s1566_s (by decide +kernel)
theorem q0l_p2_s1561 : ck_Ok q0_O X LX 10 p2_s1561 := q0_l p2_s1561_s (by decide +kernel)
theorem q0l_p2_s1567 : ck_Ok q0_O X LX 216 p2_s1567 := q0_l p2_s1567_s (by decide +kernel)
theorem q0l_p2_s1568 : ck_Ok q0_O X LX 45 p2_s1568 := q0_l p2_s1568_s (by decide +kernel)
def q_p2_s1569 : ck_Sum := ((23, 1, 6), 245, [.inr (.inr (.inl 1)), .inl (0, 30, []), .inl (0, 1, [])], ([], [(3, 8, 0)], [(3, 6, 6, (0, 299, [(10, 0)]))]), ([(1, 15, 15), (206, 2, 8), (220, 3, 3), (221, 0, 47), (222, 3, 3), (223, 0, 179), (224, 3, 3), (225, 0, 185)], []), [(.inl 0, 245, ([], [], [])), (.inr (some (.inl ((-2147483648), 2147483647, []))), 245, ([], [], [(224, 3, 3, (1, 31, [])), (1, 15, 15, ck_one 1)])), (.inr (some (.inl (0, 5, []))), 245, ([], [], [(224, 3, 3, (1, 31, [])), (1, 15, 15, ck_one 1)]))])
set_option maxRecDepth 100000 in
theorem q_p2_s1569_e : ck_ok q0_O none [] [(214, [p2_s1558]), (24, [(q24 0 q24_W0)]), (215, [p2_s1563]), (25, [p2_s1565]), (10, [p2_s1566, p2_s1561]), (216, [p2_s1567]), (45, [p2_s1568])] 213 [(28, [some (.inr (.inr (.inl 1))), some (.inl (0, 30, [])), some (.inl (0, 1, [])), some (.inl ((-1), 29, [])), none], ([], [(3, 8, 0)], [(224, 3, 3, (1, 31, [])), (1, 15, 15, ck_one 1), (3, 6, 6, (0, 299, [(10, 0)]))]), 100, .inl 3, false), (94, [some (.inr (.inr (.inl 1))), some (.inl (0, 30, [])), some (.inl (0, 1, [])), some (.inl (0, 5, [])), some (.inl (1, 6, []))], ([], [(3, 8, 0)], [(224, 3, 3, (1, 31, [])), (1, 15, 15, ck_one 1), (3, 6, 6, (0, 299, [(10, 0)]))]), 300, .inl 4, true), (35, [some (.inr (.inr (.inl 1))), some (.inl (0, 30, [])), some (.inl (0, 1, [])), some (.inl (0, 29, [(100, 0)])), some (.inl (0, 6, []))], ([], [(3, 8, 0)], [(224, 3, 3, (1, 31, [])), (1, 15, 15, ck_one 1), (3, 6, 6, (0, 299, [(10, 0)]))]), 500, .inl 4, true)] 330 q_p2_s1569 = true := by decide +kernel
theorem q_p2_s1569_s : ck_Ok q0_O X LX 213 q_p2_s1569 := ck_ok_s ⟨q0_nmu, (ck_E1 (ck_S1 q0l_p2_s1558 ck_S0) (ck_E1 (ck_S1 Q240 ck_S0) (ck_E1 (ck_S1 q0l_p2_s1563 ck_S0) (ck_E1 (ck_S1 q0l_p2_s1565 ck_S0) (ck_E1 (ck_S1 q0l_p2_s1566 (ck_S1 q0l_p2_s1561 ck_S0)) (ck_E1 (ck_S1 q0l_p2_s1567 ck_S0) (ck_E1 (ck_S1 q0l_p2_s1568 ck_S0) ck_E0)))))))⟩ ck_X0 ck_l0 q_p2_s1569_e
theorem q0l_p2_s1585 : ck_Ok q0_O X LX 219 p2_s1585 := q0_l p2_s1585_s (by decide +kernel)
theorem q0l_p2_s1586 : ck_Ok q0_O X LX 219 p2_s1586 := q0_l p2_s1586_s (by decide +kernel)
def q_p2_s1587 : ck_Sum := ((23, 1, 6), 245, [.inr (.inr (.inl 1)), .inl (0, 30, []), .inl (0, 1, [])], ([], [(3, 8, 0)], [(3, 6, 6, (0, 299, [(10, 0)]))]), ([(1, 15, 15), (206, 2, 8), (220, 3, 3), (221, 0, 47), (222, 3, 3), (223, 0, 179)], []), [(.inl 0, 245, ([], [], [])), (.inr (some (.inl (0, 2147483647, []))), 245, ([], [], [(1, 15, 15, ck_one 1)]))])
set_option maxRecDepth 100000 in
theorem q_p2_s1587_e : ck_ok q0_O none [] [(214, [p2_s1558]), (24, [(q24 0 q24_W0)]), (215, [p2_s1563]), (219, [p2_s1585, p2_s1586])] 218 [(19, [some (.inr (.inr (.inl 1))), some (.inl (0, 30, [])), some (.inl (0, 1, [])), some (.inl (0, 5, [])), some (.inl (1, 6, []))], ([], [(3, 8, 0)], [(1, 15, 15, ck_one 1), (3, 6, 6, (0, 299, [(10, 0)]))]), 100, .inl 4, true)] 166 q_p2_s1587 = true := by decide +kernel
theorem q_p2_s1587_s : ck_Ok q0_O X LX 218 q_p2_s1587 := ck_ok_s ⟨q0_nmu, (ck_E1 (ck_S1 q0l_p2_s1558 ck_S0) (ck_E1 (ck_S1 Q240 ck_S0) (ck_E1 (ck_S1 q0l_p2_s1563 ck_S0) (ck_E1 (ck_S1 q0l_p2_s1585 (ck_S1 q0l_p2_s1586 ck_S0)) ck_E0))))⟩ ck_X0 ck_l0 q_p2_s1587_e
theorem q0l_p2_s253 : ck_Ok q0_O X LX 129 p2_s253 := q0_l p2_s253_s (by decide +kernel)
theorem q0l_p2_s1605 : ck_Ok q0_O X LX 47 p2_s1605 := q0_l p2_s1605_s (by decide +kernel)
def q_p2_s1606 : ck_Sum := ((21, 0, 0), 245, [.inr (.inr (.inl 1)), .inl (0, 299, [])], ([], [(3, 8, 0)], []), ([(1, 15, 15), (206, 2, 8), (220, 3, 3), (221, 0, 47)], []), [(.inr (some (.inl ((-2147483648), 2147483647, []))), 245, ([], [], [(1, 15, 15, ck_one 1)]))])
set_option maxRecDepth 100000 in
theorem q_p2_s1606_e : ck_ok q0_O none [] [(129, [p2_s253]), (24, [(q24 0 q24_W0)]), (47, [p2_s1605])] 223 [] 90 q_p2_s1606 = true := by decide +kernel
theorem q_p2_s1606_s : ck_Ok q0_O X LX 223 q_p2_s1606 := ck_ok_s ⟨q0_nmu, (ck_E1 (ck_S1 q0l_p2_s253 ck_S0) (ck_E1 (ck_S1 Q240 ck_S0) (ck_E1 (ck_S1 q0l_p2_s1605 ck_S0) ck_E0)))⟩ ck_X0 ck_l0 q_p2_s1606_e
theorem q0l_p2_s1610 : ck_Ok q0_O X LX 53 p2_s1610 := q0_l p2_s1610_s (by decide +kernel)
def q_p2_s1611 : ck_Sum := ((21, 0, 0), 245, [.inr (.inr (.inl 1)), .inl ((-2147483648), 2147483647, [])], ([], [(3, 8, 0)], []), ([(1, 15, 15), (206, 2, 8), (220, 3, 3), (221, 0, 47)], []), [(.inr (some (.inl (ck_one (-1)))), 245, ([], [], [(1, 15, 15, ck_one 1)])), (.inr (some (.inl (0, 23, []))), 245, ([], [], [(1, 15, 15, ck_one 1)]))])
set_option maxRecDepth 100000 in
theorem q_p2_s1611_e : ck_ok q0_O none [] [(24, [(q24 0 q24_W0)]), (9, [p2_s332]), (10, [p2_s350]), (53, [p2_s1610])] 52 [(6, [some (.inr (.inr (.inl 1))), some (.inl ((-2147483648), 2147483647, [])), some (.inl (0, 24, []))], ([], [(3, 8, 0)], [(1, 15, 15, ck_one 1)]), 100, .inl 2, true)] 170 q_p2_s1611 = true := by decide +kernel
theorem q_p2_s1611_s : ck_Ok q0_O X LX 52 q_p2_s1611 := ck_ok_s ⟨q0_nmu, (ck_E1 (ck_S1 Q240 ck_S0) (ck_E1 (ck_S1 q0l_p2_s332 ck_S0) (ck_E1 (ck_S1 q0l_p2_s350 ck_S0) (ck_E1 (ck_S1 q0l_p2_s1610 ck_S0) ck_E0))))⟩ ck_X0 ck_l0 q_p2_s1611_e
theorem q0l_p2_s351 : ck_Ok q0_O X LX 67 p2_s351 := q0_l p2_s351_s (by decide +kernel)
def q_p2_s1615 : ck_Sum := ((21, 0, 0), 245, [.inr (.inr (.inl 1)), .inl (0, 299, []), .inl (0, 1, [])], ([], [(3, 8, 0)], []), ([(1, 15, 15), (206, 2, 8), (220, 3, 3), (221, 0, 47)], []), [(.inr (some (.inl ((-2147483648), 2147483647, []))), 245, ([], [], [(1, 15, 15, ck_one 1)]))])
set_option maxRecDepth 100000 in
theorem q_p2_s1615_e : ck_ok q0_O none [] [(129, [p2_s253]), (24, [(q24 0 q24_W0)]), (9, [p2_s332]), (10, [p2_s335, p2_s350]), (67, [p2_s351])] 225 [(14, [some (.inr (.inr (.inl 1))), some (.inl (0, 299, [])), some (.inl (0, 1, [])), some (.inl ((-2147483648), 2147483647, [])), some (.inl (0, 24, [])), none], ([], [(3, 8, 0)], [(1, 15, 15, ck_one 1)]), 100, .inl 4, true)] 226 q_p2_s1615 = true := by decide +kernel
theorem q_p2_s1615_s : ck_Ok q0_O X LX 225 q_p2_s1615 := ck_ok_s ⟨q0_nmu, (ck_E1 (ck_S1 q0l_p2_s253 ck_S0) (ck_E1 (ck_S1 Q240 ck_S0) (ck_E1 (ck_S1 q0l_p2_s332 ck_S0) (ck_E1 (ck_S1 q0l_p2_s335 (ck_S1 q0l_p2_s350 ck_S0)) (ck_E1 (ck_S1 q0l_p2_s351 ck_S0) ck_E0)))))⟩ ck_X0 ck_l0 q_p2_s1615_e
def q_p2_s1765 : ck_Sum := ((21, 0, 0), 245, [.inr (.inr (.inl 1))], ([], [(3, 8, 0)], [(3, 6, 6, (0, 299, [(10, 0)]))]), ([(1, 15, 15), (206, 2, 8), (220, 3, 3), (221, 0, 47)], []), [(.inr (some (.inl ((-2147483648), 2147483647, []))), 245, ([], [], [(1, 15, 15, ck_one 1)]))])
set_option maxRecDepth 100000 in
theorem q_p2_s1765_e : ck_ok q0_O none [] [(24, [(q24 0 q24_W0)]), (9, [p2_s331]), (10, [p2_s350]), (67, [p2_s351])] 68 [(8, [some (.inr (.inr (.inl 1))), some (.inl ((-2147483648), 2147483647, [])), some (.inl (0, 24, []))], ([], [(3, 8, 0)], [(1, 15, 15, ck_one 1), (3, 6, 6, (0, 299, [(10, 0)]))]), 100, .inl 2, true)] 174 q_p2_s1765 = true := by decide +kernel
theorem q_p2_s1765_s : ck_Ok q0_O X LX 68 q_p2_s1765 := ck_ok_s ⟨q0_nmu, (ck_E1 (ck_S1 Q240 ck_S0) (ck_E1 (ck_S1 q0l_p2_s331 ck_S0) (ck_E1 (ck_S1 q0l_p2_s350 ck_S0) (ck_E1 (ck_S1 q0l_p2_s351 ck_S0) ck_E0))))⟩ ck_X0 ck_l0 q_p2_s1765_e
def q_p2_s1766 : ck_Sum := ((21, 0, 0), 245, [.inr (.inr (.inl 1)), .inl (ck_one (-1))], ([], [(3, 8, 0)], [(3, 6, 6, (0, 299, [(10, 0)]))]), ([(1, 15, 15), (206, 2, 8), (220, 3, 3), (221, 0, 47)], []), [(.inr (some (.inl ((-2147483648), 2147483647, []))), 245, ([], [], [(1, 15, 15, ck_one 1)]))])
set_option maxRecDepth 100000 in
theorem q_p2_s1766_e : ck_ok q0_O none [] [(24, [(q24 0 q24_W0)]), (9, [p2_s331]), (66, [p2_s352])] 65 [(8, [some (.inr (.inr (.inl 1))), some (.inl (ck_one (-1))), some (.inl ((-2147483648), 2147483647, [])), some (.inl (0, 24, [])), none], ([], [(3, 8, 0)], [(1, 15, 15, ck_one 1), (3, 6, 6, (0, 299, [(10, 0)]))]), 100, .inl 3, true)] 178 q_p2_s1766 = true := by decide +kernel
theorem q_p2_s1766_s : ck_Ok q0_O X LX 65 q_p2_s1766 := ck_ok_s ⟨q0_nmu, (ck_E1 (ck_S1 Q240 ck_S0) (ck_E1 (ck_S1 q0l_p2_s331 ck_S0) (ck_E1 (ck_S1 q0l_p2_s352 ck_S0) ck_E0)))⟩ ck_X0 ck_l0 q_p2_s1766_e
theorem q0l_p2_s1764 : ck_Ok q0_O X LX 69 p2_s1764 := q0_l p2_s1764_s (by decide +kernel)
theorem q0l_p2_s1767 : ck_Ok q0_O X LX 9 p2_s1767 := q0_l p2_s1767_s (by decide +kernel)
def q_p2_s1768 : ck_Sum := ((22, 0, 0), 245, [.inr (.inr (.inl 1)), .inl (10, 2147483647, [])], ([], [(3, 8, 0)], [(3, 6, 6, (0, 299, [(10, 0)]))]), ([(1, 15, 15), (206, 2, 8), (220, 3, 3), (221, 0, 47)], []), [(.inr (some (.inl ((-2147483648), 2147483647, []))), 245, ([], [], [])), (.inr (some (.inl (0, 9999, []))), 245, ([], [], []))])
set_option maxRecDepth 100000 in
theorem q_p2_s1768_e : ck_ok q0_O none [] [(69, [p2_s1764]), (68, [q_p2_s1765]), (65, [q_p2_s1766]), (9, [p2_s1767])] 63 [] 84 q_p2_s1768 = true := by decide +kernel
theorem q_p2_s1768_s : ck_Ok q0_O X LX 63 q_p2_s1768 := ck_ok_s ⟨q0_nmu, (ck_E1 (ck_S1 q0l_p2_s1764 ck_S0) (ck_E1 (ck_S1 q_p2_s1765_s ck_S0) (ck_E1 (ck_S1 q_p2_s1766_s ck_S0) (ck_E1 (ck_S1 q0l_p2_s1767 ck_S0) ck_E0))))⟩ ck_X0 ck_l0 q_p2_s1768_e
def q_p2_h20 : ck_Sum := ((25, 2, 12), 245, [.inr (.inr (.inl 1)), .inl (0, 7, []), .inl (0, 9, []), .inr (.inr (.inl 245))], ([], [(3, 8, 0)], [(3, 6, 6, (0, 299, [(10, 0)]))]), ([(1, 15, 15), (206, 2, 8), (220, 3, 3), (221, 0, 47), (245, 0, 0)], []), [(.inr (some (.inl (ck_one 1))), 245, ([], [], [])), (.inr (some (.inl (ck_one 0))), 245, ([], [], [])), (.inr (some (.inl (ck_one 2))), 245, ([], [], []))])
set_option maxRecDepth 100000 in
theorem q_p2_h20_e : ck_ok q0_O none [] [(138, [q_p2_s357])] 137 [] 92 q_p2_h20 = true := by decide +kernel
theorem q_p2_h20_s : ck_Ok q0_O X LX 137 q_p2_h20 := ck_ok_s ⟨q0_nmu, (ck_E1 (ck_S1 q_p2_s357_s ck_S0) ck_E0)⟩ ck_X0 ck_l0 q_p2_h20_e
def q_p2_h200 : ck_Sum := ((24, 1, 6), 245, [.inr (.inr (.inl 1)), .inl (0, 30, []), .inl (0, 1, []), .inr (.inr (.inl 245))], ([], [(3, 8, 0)], [(3, 6, 6, (0, 299, [(10, 0)]))]), ([(1, 15, 15), (206, 2, 8), (220, 3, 3), (221, 0, 47), (222, 3, 3), (223, 0, 179), (224, 3, 3), (225, 0, 185), (245, 0, 0)], []), [(.inr (some (.inl (ck_one 1))), 245, ([], [], [])), (.inr (some (.inl (ck_one 0))), 245, ([], [], [(224, 3, 3, (1, 31, [])), (1, 15, 15, ck_one 1)]))])
set_option maxRecDepth 100000 in
theorem q_p2_h200_e : ck_ok q0_O none [] [(213, [q_p2_s1569])] 212 [] 92 q_p2_h200 = true := by decide +kernel
theorem q_p2_h200_s : ck_Ok q0_O X LX 212 q_p2_h200 := ck_ok_s ⟨q0_nmu, (ck_E1 (ck_S1 q_p2_s1569_s ck_S0) ck_E0)⟩ ck_X0 ck_l0 q_p2_h200_e
def q_p2_h203 : ck_Sum := ((24, 1, 6), 245, [.inr (.inr (.inl 1)), .inl (0, 30, []), .inl (0, 1, []), .inr (.inr (.inl 245))], ([], [(3, 8, 0)], [(3, 6, 6, (0, 299, [(10, 0)]))]), ([(1, 15, 15), (206, 2, 8), (220, 3, 3), (221, 0, 47), (222, 3, 3), (223, 0, 179), (245, 0, 0)], []), [(.inr (some (.inl (ck_one 1))), 245, ([], [], [])), (.inr (some (.inl (ck_one 0))), 245, ([], [], [(245, 0, 0, (0, 2147483647, [])), (1, 15, 15, ck_one 1)]))])
set_option maxRecDepth 100000 in
theorem q_p2_h203_e : ck_ok q0_O none [] [(218, [q_p2_s1587])] 217 [] 92 q_p2_h203 = true := by decide +kernel
theorem q_p2_h203_s : ck_Ok q0_O X LX 217 q_p2_h203 := ck_ok_s ⟨q0_nmu, (ck_E1 (ck_S1 q_p2_s1587_s ck_S0) ck_E0)⟩ ck_X0 ck_l0 q_p2_h203_e
def q_p2_h211 : ck_Sum := ((22, 0, 0), 245, [.inr (.inr (.inl 1)), .inl (0, 299, []), .inr (.inr (.inl 245))], ([], [(3, 8, 0)], []), ([(1, 15, 15), (206, 2, 8), (220, 3, 3), (221, 0, 47), (245, 0, 0)], []), [(.inr (some (.inl (ck_one 0))), 245, ([], [], [(1, 15, 15, ck_one 1)]))])
set_option maxRecDepth 100000 in
theorem q_p2_h211_e : ck_ok q0_O none [] [(223, [q_p2_s1606])] 222 [] 90 q_p2_h211 = true := by decide +kernel
theorem q_p2_h211_s : ck_Ok q0_O X LX 222 q_p2_h211 := ck_ok_s ⟨q0_nmu, (ck_E1 (ck_S1 q_p2_s1606_s ck_S0) ck_E0)⟩ ck_X0 ck_l0 q_p2_h211_e
def q_p2_h214 : ck_Sum := ((22, 0, 0), 245, [.inr (.inr (.inl 1)), .inl (0, 299, []), .inl (0, 1, []), .inr (.inr (.inl 245))], ([], [(3, 8, 0)], []), ([(1, 15, 15), (206, 2, 8), (220, 3, 3), (221, 0, 47), (245, 0, 0)], []), [(.inr (some (.inl (ck_one 0))), 245, ([], [], [(1, 15, 15, ck_one 1)]))])
set_option maxRecDepth 100000 in
theorem q_p2_h214_e : ck_ok q0_O none [] [(225, [q_p2_s1615])] 224 [] 92 q_p2_h214 = true := by decide +kernel
theorem q_p2_h214_s : ck_Ok q0_O X LX 224 q_p2_h214 := ck_ok_s ⟨q0_nmu, (ck_E1 (ck_S1 q_p2_s1615_s ck_S0) ck_E0)⟩ ck_X0 ck_l0 q_p2_h214_e
end GH0
end
