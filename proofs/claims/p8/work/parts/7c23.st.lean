/-! THE TRAVELLERS under a law: steps, runs; FLOWs that are kept stay right. -/
section ST23
variable {X : Int → Int} {LX : Nat}
noncomputable def q31_206 : ck_Sum := ((0, 0, 0), 249, [.inr (.inr (.inl 206))], ([], [], [(206, 5, 5, (0, 300, []))]), ([], []), [(.inr (some (.inl (ck_one 0))), 249, ([], [], [(206, 5, 5, (0, 98, []))])), (.inr (some (.inl (ck_one 1))), 249, ([], [], [(206, 5, 5, (0, 300, []))]))])
theorem q31_206_s : ck_Ok qL_O X LX 31 q31_206 := ck_ok_s (O := qL_O) (X := X) (LX := LX) (E := []) (mi := 31) (cuts := []) (f := 100) (S := q31_206) (lx := none) (XF := []) ⟨qL_nmu, ck_E0⟩ ck_X0 ck_l0 (by decide +kernel)
noncomputable def q33_206 : ck_Sum := ((1, 0, 0), 249, [.inr (.inr (.inl 206))], ([], [], []), ([], []), [(.inr (some (.inl (0, 99, []))), 249, ([], [], []))])
noncomputable def q32_206 : ck_Sum := ((13, 0, 0), 249, [.inr (.inr (.inl 206))], ([], [(3, 8, 246)], [(206, 2, 2, (0, 6, [])), (206, 5, 5, (0, 300, [])), (206, 7, 7, (0, 299, [(28, 0)]))]), ([(200, 6, 6), (204, 0, 9), (205, 0, 14849), (206, 5, 8)], []), [(.inr none, 249, ([], [], [(206, 5, 5, (0, 300, [])), (206, 7, 7, (1, 300, [(28, 1)]))]))])
set_option maxRecDepth 100000 in
theorem q32_206_e : ck_ok qL_O none [] [(31, [q31_206]), (33, [q33_206]), (35, [q35]), (43, [q43 206])] 32 [] 200 q32_206 = true := by decide +kernel
theorem q32_206_s (h33 : ck_Ok qL_O X LX 33 q33_206) (h35 : ck_Ok qL_O X LX 35 q35) (h43 : ck_Ok qL_O X LX 43 (q43 206)) : ck_Ok qL_O X LX 32 q32_206 := ck_ok_s ⟨qL_nmu, ck_E1 (ck_S1 q31_206_s ck_S0) (ck_E1 (ck_S1 h33 ck_S0) (ck_E1 (ck_S1 h35 ck_S0) (ck_E1 (ck_S1 h43 ck_S0) ck_E0)))⟩ ck_X0 ck_l0 q32_206_e
noncomputable def q31_207 : ck_Sum := ((0, 0, 0), 249, [.inr (.inr (.inl 207))], ([], [], [(207, 5, 5, (0, 300, []))]), ([], []), [(.inr (some (.inl (ck_one 0))), 249, ([], [], [(207, 5, 5, (0, 98, []))])), (.inr (some (.inl (ck_one 1))), 249, ([], [], [(207, 5, 5, (0, 300, []))]))])
theorem q31_207_s : ck_Ok qL_O X LX 31 q31_207 := ck_ok_s (O := qL_O) (X := X) (LX := LX) (E := []) (mi := 31) (cuts := []) (f := 100) (S := q31_207) (lx := none) (XF := []) ⟨qL_nmu, ck_E0⟩ ck_X0 ck_l0 (by decide +kernel)
noncomputable def q33_207 : ck_Sum := ((1, 0, 0), 249, [.inr (.inr (.inl 207))], ([], [], []), ([], []), [(.inr (some (.inl (0, 99, []))), 249, ([], [], []))])
noncomputable def q32_207 : ck_Sum := ((13, 0, 0), 249, [.inr (.inr (.inl 207))], ([], [(3, 8, 246)], [(207, 2, 2, (0, 6, [])), (207, 5, 5, (0, 300, [])), (207, 7, 7, (0, 299, [(29, 0)]))]), ([(200, 6, 6), (204, 0, 9), (205, 0, 14849), (207, 5, 8)], []), [(.inr none, 249, ([], [], [(207, 5, 5, (0, 300, [])), (207, 7, 7, (1, 300, [(29, 1)]))]))])
set_option maxRecDepth 100000 in
theorem q32_207_e : ck_ok qL_O none [] [(31, [q31_207]), (33, [q33_207]), (35, [q35]), (43, [q43 207])] 32 [] 200 q32_207 = true := by decide +kernel
theorem q32_207_s (h33 : ck_Ok qL_O X LX 33 q33_207) (h35 : ck_Ok qL_O X LX 35 q35) (h43 : ck_Ok qL_O X LX 43 (q43 207)) : ck_Ok qL_O X LX 32 q32_207 := ck_ok_s ⟨qL_nmu, ck_E1 (ck_S1 q31_207_s ck_S0) (ck_E1 (ck_S1 h33 ck_S0) (ck_E1 (ck_S1 h35 ck_S0) (ck_E1 (ck_S1 h43 ck_S0) ck_E0)))⟩ ck_X0 ck_l0 q32_207_e
end ST23
