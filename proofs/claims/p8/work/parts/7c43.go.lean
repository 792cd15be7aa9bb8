/-! FROM THE ENTRY to the loop's head, told of class and reference. -/
noncomputable def st_A : ck_F := match pc_s130.2.2.2.2.2 with
  | oc :: _ => oc.2.2
  | [] => ([], [], [])
noncomputable def st_B : ck_F := match pc_s132.2.2.2.2.2 with
  | oc :: _ => oc.2.2
  | [] => ([], [], [])
noncomputable def st_F : ck_F := (st_A.1 ++ (st_B.1 ++ [(1, 4, 0), (226, 15, 0), (245, 2, 1)]), st_A.2.1 ++ st_B.2.1, st_A.2.2 ++ (st_B.2.2 ++ [(226, 0, 12, ck_one 0), (226, 14, 25, ck_one 0), (226, 27, 60, ck_one 0), (245, 0, 0, ck_one 0)]))
/-- the reference's row in parts: what is ahead of the heats, the heats, what is behind -/
noncomputable def st_Bp : List (Nat × Int × Int × ck_I) := [(226, 26, 26, ck_one (-1)), (227, 13, 13, ck_one 1), (227, 12, 12, ck_one 3), (227, 11, 11, ck_one 2), (227, 10, 10, ck_one 10), (227, 1, 1, ck_one 40), (227, 0, 0, ck_one 3), (226, 13, 13, ck_one (-1)), (232, 0, 4, ck_one 0), (244, 0, 5, ck_one 0), (243, 0, 5, ck_one 0), (227, 2, 9, ck_one 0), (238, 0, 23, ck_one 0)]
noncomputable def st_H2 : List (Nat × Int × Int × ck_I) := [(234, 299, 299, ck_one 9), (234, 298, 298, ck_one 4), (234, 297, 297, ck_one 5), (234, 296, 296, ck_one 1), (234, 295, 295, ck_one 2), (234, 294, 294, ck_one 7), (234, 293, 293, ck_one 3), (234, 292, 292, ck_one 9), (234, 291, 291, ck_one 2), (234, 290, 290, ck_one 4), (234, 289, 289, ck_one 2), (234, 288, 288, ck_one 9), (234, 287, 287, ck_one 5), (234, 286, 286, ck_one 3), (234, 285, 285, ck_one 2), (234, 284, 284, ck_one 8), (234, 283, 283, ck_one 1), (234, 282, 282, ck_one 9), (234, 281, 281, ck_one 5), (234, 280, 280, ck_one 9), (234, 279, 279, ck_one 0), (234, 278, 278, ck_one 5), (234, 277, 277, ck_one 2), (234, 276, 276, ck_one 8), (234, 275, 275, ck_one 7), (234, 274, 274, ck_one 2), (234, 273, 273, ck_one 9), (234, 272, 272, ck_one 4), (234, 271, 271, ck_one 6), (234, 270, 270, ck_one 9), (234, 269, 269, ck_one 1), (234, 268, 268, ck_one 1), (234, 267, 267, ck_one 3), (234, 266, 266, ck_one 8), (234, 265, 265, ck_one 3), (234, 264, 264, ck_one 6), (234, 263, 263, ck_one 0), (234, 262, 262, ck_one 9), (234, 261, 261, ck_one 7), (234, 260, 260, ck_one 1), (234, 259, 259, ck_one 0), (234, 258, 258, ck_one 1), (234, 257, 257, ck_one 6), (234, 256, 256, ck_one 0), (234, 255, 255, ck_one 2), (234, 254, 254, ck_one 1), (234, 253, 253, ck_one 9), (234, 252, 252, ck_one 1), (234, 251, 251, ck_one 8), (234, 250, 250, ck_one 5), (234, 249, 249, ck_one 0), (234, 248, 248, ck_one 0), (234, 247, 247, ck_one 2), (234, 246, 246, ck_one 9), (234, 245, 245, ck_one 5), (234, 244, 244, ck_one 2), (234, 243, 243, ck_one 0), (234, 242, 242, ck_one 4), (234, 241, 241, ck_one 5), (234, 240, 240, ck_one 5), (234, 239, 239, ck_one 9), (234, 238, 238, ck_one 1), (234, 237, 237, ck_one 4), (234, 236, 236, ck_one 9), (234, 235, 235, ck_one 4), (234, 234, 234, ck_one 8), (234, 233, 233, ck_one 4), (234, 232, 232, ck_one 1), (234, 231, 231, ck_one 6), (234, 230, 230, ck_one 2), (234, 229, 229, ck_one 3), (234, 228, 228, ck_one 1), (234, 227, 227, ck_one 3), (234, 226, 226, ck_one 8), (234, 225, 225, ck_one 1), (234, 224, 224, ck_one 2), (234, 223, 223, ck_one 6), (234, 222, 222, ck_one 6), (234, 221, 221, ck_one 5), (234, 220, 220, ck_one 8), (234, 219, 219, ck_one 6), (234, 218, 218, ck_one 7), (234, 217, 217, ck_one 5), (234, 216, 216, ck_one 4), (234, 215, 215, ck_one 4), (234, 214, 214, ck_one 2), (234, 213, 213, ck_one 2), (234, 212, 212, ck_one 1), (234, 211, 211, ck_one 4), (234, 210, 210, ck_one 2), (234, 209, 209, ck_one 7), (234, 208, 208, ck_one 5), (234, 207, 207, ck_one 8), (234, 206, 206, ck_one 7), (234, 205, 205, ck_one 0), (234, 204, 204, ck_one 9), (234, 203, 203, ck_one 9), (234, 202, 202, ck_one 0), (234, 201, 201, ck_one 0), (234, 200, 200, ck_one 3), (234, 199, 199, ck_one 6), (234, 198, 198, ck_one 5), (234, 197, 197, ck_one 6), (234, 196, 196, ck_one 1), (234, 195, 195, ck_one 1), (234, 194, 194, ck_one 3), (234, 193, 193, ck_one 9), (234, 192, 192, ck_one 4), (234, 191, 191, ck_one 5), (234, 190, 190, ck_one 3), (234, 189, 189, ck_one 8), (234, 188, 188, ck_one 5), (234, 187, 187, ck_one 6), (234, 186, 186, ck_one 1), (234, 185, 185, ck_one 9), (234, 184, 184, ck_one 3), (234, 183, 183, ck_one 5), (234, 182, 182, ck_one 8), (234, 181, 181, ck_one 4), (234, 180, 180, ck_one 2), (234, 179, 179, ck_one 3), (234, 178, 178, ck_one 1), (234, 177, 177, ck_one 8), (234, 176, 176, ck_one 2), (234, 175, 175, ck_one 7), (234, 174, 174, ck_one 1), (234, 173, 173, ck_one 7), (234, 172, 172, ck_one 3), (234, 171, 171, ck_one 6), (234, 170, 170, ck_one 8), (234, 169, 169, ck_one 8), (234, 168, 168, ck_one 6), (234, 167, 167, ck_one 6), (234, 166, 166, ck_one 6), (234, 165, 165, ck_one 1), (234, 164, 164, ck_one 6), (234, 163, 163, ck_one 8), (234, 162, 162, ck_one 3), (234, 161, 161, ck_one 7), (234, 160, 160, ck_one 9), (234, 159, 159, ck_one 7), (234, 158, 158, ck_one 3), (234, 157, 157, ck_one 1), (234, 156, 156, ck_one 3), (234, 155, 155, ck_one 6), (234, 154, 154, ck_one 5), (234, 153, 153, ck_one 9), (234, 152, 152, ck_one 3), (234, 151, 151, ck_one 7), (234, 150, 150, ck_one 9), (234, 149, 149, ck_one 7), (234, 148, 148, ck_one 3), (234, 147, 147, ck_one 7), (234, 146, 146, ck_one 6), (234, 145, 145, ck_one 1), (234, 144, 144, ck_one 4), (234, 143, 143, ck_one 5), (234, 142, 142, ck_one 5), (234, 141, 141, ck_one 5), (234, 140, 140, ck_one 5), (234, 139, 139, ck_one 4), (234, 138, 138, ck_one 9), (234, 137, 137, ck_one 0), (234, 136, 136, ck_one 0), (234, 135, 135, ck_one 5), (234, 134, 134, ck_one 2), (234, 133, 133, ck_one 0), (234, 132, 132, ck_one 0), (234, 131, 131, ck_one 2), (234, 130, 130, ck_one 5), (234, 129, 129, ck_one 5), (234, 128, 128, ck_one 6), (234, 127, 127, ck_one 9), (234, 126, 126, ck_one 1), (234, 125, 125, ck_one 0), (234, 124, 124, ck_one 3), (234, 123, 123, ck_one 7), (234, 122, 122, ck_one 6), (234, 121, 121, ck_one 2), (234, 120, 120, ck_one 6), (234, 119, 119, ck_one 9), (234, 118, 118, ck_one 0), (234, 117, 117, ck_one 0), (234, 116, 116, ck_one 8), (234, 115, 115, ck_one 0), (234, 114, 114, ck_one 3), (234, 113, 113, ck_one 4), (234, 112, 112, ck_one 3), (234, 111, 111, ck_one 8), (234, 110, 110, ck_one 1), (234, 109, 109, ck_one 4), (234, 108, 108, ck_one 6), (234, 107, 107, ck_one 3), (234, 106, 106, ck_one 6), (234, 105, 105, ck_one 5), (234, 104, 104, ck_one 2), (234, 103, 103, ck_one 7), (234, 102, 102, ck_one 4), (234, 101, 101, ck_one 1), (234, 100, 100, ck_one 2), (234, 99, 99, ck_one 1), (234, 98, 98, ck_one 8), (234, 97, 97, ck_one 9), (234, 96, 96, ck_one 4), (234, 95, 95, ck_one 3), (234, 94, 94, ck_one 5), (234, 93, 93, ck_one 4), (234, 92, 92, ck_one 9), (234, 91, 91, ck_one 5), (234, 90, 90, ck_one 0), (234, 89, 89, ck_one 1), (234, 88, 88, ck_one 6), (234, 87, 87, ck_one 1), (234, 86, 86, ck_one 1), (234, 85, 85, ck_one 9), (234, 84, 84, ck_one 0), (234, 83, 83, ck_one 6), (234, 82, 82, ck_one 3), (234, 81, 81, ck_one 2), (234, 80, 80, ck_one 3), (234, 79, 79, ck_one 4), (234, 78, 78, ck_one 1), (234, 77, 77, ck_one 5), (234, 76, 76, ck_one 6), (234, 75, 75, ck_one 2), (234, 74, 74, ck_one 4), (234, 73, 73, ck_one 6), (234, 72, 72, ck_one 8), (234, 71, 71, ck_one 0), (234, 70, 70, ck_one 6), (234, 69, 69, ck_one 6), (234, 68, 68, ck_one 9), (234, 67, 67, ck_one 7), (234, 66, 66, ck_one 8), (234, 65, 65, ck_one 9), (234, 64, 64, ck_one 0), (234, 63, 63, ck_one 4), (234, 62, 62, ck_one 1), (234, 61, 61, ck_one 3), (234, 60, 60, ck_one 9), (234, 59, 59, ck_one 5), (234, 58, 58, ck_one 7), (234, 57, 57, ck_one 7), (234, 56, 56, ck_one 2), (234, 55, 55, ck_one 8), (234, 54, 54, ck_one 2), (234, 53, 53, ck_one 3), (234, 52, 52, ck_one 4), (234, 51, 51, ck_one 0), (234, 50, 50, ck_one 3), (234, 49, 49, ck_one 4), (234, 48, 48, ck_one 2), (234, 47, 47, ck_one 3), (234, 46, 46, ck_one 5), (234, 45, 45, ck_one 6), (234, 44, 44, ck_one 7), (234, 43, 43, ck_one 3), (234, 42, 42, ck_one 5), (234, 41, 41, ck_one 8), (234, 40, 40, ck_one 8), (234, 39, 39, ck_one 6), (234, 38, 38, ck_one 1), (234, 37, 37, ck_one 3), (234, 36, 36, ck_one 4), (234, 35, 35, ck_one 7), (234, 34, 34, ck_one 1), (234, 33, 33, ck_one 2), (234, 32, 32, ck_one 4), (234, 31, 31, ck_one 5), (234, 30, 30, ck_one 4), (234, 29, 29, ck_one 6), (234, 28, 28, ck_one 2), (234, 27, 27, ck_one 5), (234, 26, 26, ck_one 1), (234, 25, 25, ck_one 4), (234, 24, 24, ck_one 7), (234, 23, 23, ck_one 1), (234, 22, 22, ck_one 5), (234, 21, 21, ck_one 8), (234, 20, 20, ck_one 6), (234, 19, 19, ck_one 6), (234, 18, 18, ck_one 7), (234, 17, 17, ck_one 3), (234, 16, 16, ck_one 9), (234, 15, 15, ck_one 3), (234, 14, 14, ck_one 5), (234, 13, 13, ck_one 0), (234, 12, 12, ck_one 4), (234, 11, 11, ck_one 7), (234, 10, 10, ck_one 9), (234, 9, 9, ck_one 6), (234, 8, 8, ck_one 2), (234, 7, 7, ck_one 9), (234, 6, 6, ck_one 0), (234, 5, 5, ck_one 7), (234, 4, 4, ck_one 1), (234, 3, 3, ck_one 5), (234, 2, 2, ck_one 3), (234, 1, 1, ck_one 8), (234, 0, 0, ck_one 8)]
noncomputable def st_Bs : List (Nat × Int × Int × ck_I) := [(239, 0, 299, ck_one 0), (237, 0, 299, ck_one 0), (236, 0, 299, ck_one 0), (233, 0, 399, ck_one 0), (231, 0, 399, ck_one 0), (229, 0, 1243, ck_one 0), (228, 0, 1243, ck_one 0), (227, 14, 2092, ck_one 0), (242, 0, 2407, ck_one 0), (241, 0, 2407, ck_one 0), (240, 0, 2407, ck_one 0), (230, 0, 4739, ck_one 0), (235, 0, 29699, ck_one 0)]
/-- the facts, the heats left out -/
noncomputable def st_F0 : ck_F := (st_A.1 ++ (st_B.1 ++ [(1, 4, 0), (226, 15, 0), (245, 2, 1)]), st_A.2.1 ++ st_B.2.1, st_U.2.2 ++ ((st_Bp ++ ((234, 0, 299, (0, 9, [])) :: st_Bs)) ++ [(226, 0, 12, ck_one 0), (226, 14, 25, ck_one 0), (226, 27, 60, ck_one 0), (245, 0, 0, ck_one 0)]))
set_option maxRecDepth 100000 in
theorem st_b1 : st_B.2.2 = st_Bp ++ (st_H2 ++ st_Bs) := rfl
theorem st_a1 : st_A.2.2 = st_H ++ st_U.2.2 := rfl
set_option maxRecDepth 100000 in
theorem st_d3 : (List.range 300).all (fun y => st_cov (st_k st_H 201) (hts 1 (y : Int)) (hts 1 (y : Int)) 50 (y : Int) (y : Int)) = true := by decide +kernel
set_option maxRecDepth 100000 in
theorem st_d4 : (List.range 300).all (fun y => st_cov (st_k st_H2 234) (hts 1 (y : Int)) (hts 1 (y : Int)) 50 (y : Int) (y : Int)) = true := by decide +kernel
theorem st_hC {σ : Nat → Int} {K : gm_K} {R : gm_R} {M : gm_M} (hf : ck_gf σ st_F 245 K R M) (y : Int) (y0 : 0 ≤ y) (y1 : y < 300) : M 201 y = hts 1 y := by
  obtain ⟨j, rfl⟩ : ∃ j : Nat, y = (j : Int) := ⟨y.toNat, by omega⟩
  have h := st_cov_s (k := 201) (fun q hq => hf.2.2 q (List.mem_append.mpr (Or.inl (by rw [st_a1]; exact List.mem_append.mpr (Or.inl hq))))) 50 (j : Int) (j : Int) (List.all_eq_true.mp st_d3 j (List.mem_range.mpr (by omega))) (j : Int) (Int.le_refl _) (Int.le_refl _)
  omega
theorem st_hR {σ : Nat → Int} {K : gm_K} {R : gm_R} {M : gm_M} (hf : ck_gf σ st_F 245 K R M) (y : Int) (y0 : 0 ≤ y) (y1 : y < 300) : M 234 y = hts 1 y := by
  obtain ⟨j, rfl⟩ : ∃ j : Nat, y = (j : Int) := ⟨y.toNat, by omega⟩
  have h := st_cov_s (k := 234) (fun q hq => hf.2.2 q (List.mem_append.mpr (Or.inr (List.mem_append.mpr (Or.inl (by rw [st_b1]; exact List.mem_append.mpr (Or.inr (List.mem_append.mpr (Or.inl hq)))))))) ) 50 (j : Int) (j : Int) (List.all_eq_true.mp st_d4 j (List.mem_range.mpr (by omega))) (j : Int) (Int.le_refl _) (Int.le_refl _)
  omega
theorem st_f0 {σ : Nat → Int} {K : gm_K} {R : gm_R} {M : gm_M} (hf : ck_gf σ st_F 245 K R M) : ck_gf σ st_F0 245 K R M := by
  refine ⟨hf.1, hf.2.1, fun q hq => ?_⟩
  rcases List.mem_append.mp hq with hq | hq
  · exact hf.2.2 q (List.mem_append.mpr (Or.inl (by rw [st_a1]; exact List.mem_append.mpr (Or.inr hq))))
  · rcases List.mem_append.mp hq with hq | hq
    · rcases List.mem_append.mp hq with hq | hq
      · exact hf.2.2 q (List.mem_append.mpr (Or.inr (List.mem_append.mpr (Or.inl (by rw [st_b1]; exact List.mem_append.mpr (Or.inl hq))))))
      · rcases List.mem_cons.mp hq with rfl | hq
        · refine ⟨by decide, fun j j0 j1 => ?_⟩
          have j0 : 0 ≤ j := j0
          have j1 : j ≤ 299 := j1
          have e := st_hR hf j j0 (by omega)
          have b := hts_b (s := 1) (y := j)
          show gm_ir (M 234 j) ∧ (0 ≤ M 234 j ∧ M 234 j ≤ 9 ∧ _)
          rw [e]
          exact ⟨⟨by omega, by omega⟩, b.1, b.2, fun _ h => nomatch h⟩
        · exact hf.2.2 q (List.mem_append.mpr (Or.inr (List.mem_append.mpr (Or.inl (by rw [st_b1]; exact List.mem_append.mpr (Or.inr (List.mem_append.mpr (Or.inr hq))))))))
    · exact hf.2.2 q (List.mem_append.mpr (Or.inr (List.mem_append.mpr (Or.inr hq))))
set_option maxRecDepth 100000 in
theorem st_c1 : st_T st_F0 = true := by decide +kernel
set_option maxRecDepth 100000 in
theorem st_c2 : ((st_cov (st_k st_F0.2.2 227) 0 0 50 4 4 = true ∧ st_cov (st_k st_F0.2.2 227) 0 0 50 14 2092 = true) ∧ (st_cov (st_k st_F0.2.2 228) 0 0 50 0 1243 = true ∧ st_cov (st_k st_F0.2.2 229) 0 0 50 0 1243 = true)) ∧ st_cov (st_k st_F0.2.2 230) 0 0 50 0 4739 = true ∧ (st_cov (st_k st_F0.2.2 1) 0 0 50 1 1 = true ∧ st_cov (st_k st_F0.2.2 226) 0 0 50 8 8 = true) := by decide +kernel
set_option maxRecDepth 100000 in
theorem st_c3 : bg_ss.all (fun s => st_F0.2.1.any fun q => decide (q = (s, 8, 0))) = true := by decide +kernel
set_option maxRecDepth 100000 in
theorem st_c4 : (List.range 246).all (fun k => match ck_tab p2_T k with
  | none => k == 0
  | some e => if e.1.1 = 3 then (List.range e.1.2).all (fun j => (e.2.1.lookup (j : Int)).isSome) else if 4 ≤ e.1.1 then (List.range (gm_nf (e.1.1 - 4))).all (fun j => !gm_isr (e.1.1 - 4) j || ((e.2.1.lookup (j : Int)).isSome || decide (k ∈ bg_ss ∧ j = 8))) else true) = true := by decide +kernel
set_option maxRecDepth 100000 in
theorem st_o1 : pc_s130.2.2.2.2.2 = [(.inr none, 225, st_A)] ∧ pc_s132.2.2.2.2.2 = [(.inr none, 244, st_B)] := ⟨rfl, rfl⟩
set_option maxRecDepth 100000 in
theorem st_w1 : (pc_s132.2.2.2.2.1.1.all (fun w => decide (w.1 = 226 ∧ ((w.2.1 = 13 ∧ w.2.2 = 13) ∨ (w.2.1 = 26 ∧ w.2.2 = 26)))) && pc_s132.2.2.2.2.1.2.all (fun w => decide (w.1 = 226))) = true ∧ (st_A.1.all (fun q => decide (q.1 ≤ 225)) && (st_A.2.1.all (fun q => decide (q.1 ≤ 225)) && st_A.2.2.all (fun q => decide (q.1 ≤ 225)))) = true := by decide +kernel
section GO
variable {X : Int → Int} {LX : Nat}
theorem st_nR {K : gm_K} {R : gm_R} {M : gm_M} (hF : gm_Fx p2_O 245 K R M) (h0 : ∀ s ∈ bg_ss, R s 8 = 0) : nR_ok 245 K R (bg_R 0 fun _ => 0) := by
  intro k h1 h2
  have hk := List.all_eq_true.mp st_c4 k (List.mem_range.mpr (by omega))
  cases he : ck_tab p2_T k with
  | none => rw [he] at hk; have : k = 0 := eq_of_beq hk; omega
  | some e =>
    rw [he] at hk
    have hK : K k = e.1 := (hF.1 k e.1 (show (match ck_tab p2_T k with | some e => some e.1 | none => none) = some e.1 by rw [he])).2.2
    have hr : ∀ (j : Int) (r : Nat), e.2.1.lookup j = some r → R k j = bg_R 0 (fun _ => 0) k j := fun j r hj => by
      have ho : p2_O.2.1 k j = some r := by
        show (match ck_tab p2_T k with | some e => e.2.1.lookup j | none => none) = some r
        rw [he]; exact hj
      rw [(hF.2.1 k j r ho).2]
      unfold bg_R
      rw [ho]
    refine ⟨fun c j hc hj hi => ?_, fun h3 j hj => ?_⟩
    · rw [hK] at hc
      have hk : (if e.1.1 = 3 then (List.range e.1.2).all (fun j => (e.2.1.lookup (j : Int)).isSome) else if 4 ≤ e.1.1 then (List.range (gm_nf (e.1.1 - 4))).all (fun j => !gm_isr (e.1.1 - 4) j || ((e.2.1.lookup (j : Int)).isSome || decide (k ∈ bg_ss ∧ j = 8))) else true) = true := hk
      rw [if_neg (by omega), if_pos (by omega), show e.1.1 - 4 = c by omega] at hk
      have h5 := List.all_eq_true.mp hk j (List.mem_range.mpr hj)
      rw [hi] at h5
      simp only [Bool.not_true, Bool.false_or, Bool.or_eq_true, decide_eq_true_eq] at h5
      rcases h5 with h5 | ⟨h5, rfl⟩
      · obtain ⟨r, hr2⟩ := Option.isSome_iff_exists.mp h5
        exact hr _ r hr2
      · rw [show R k ((8 : Nat) : Int) = 0 from h0 k h5]
        unfold bg_R
        cases ho : p2_O.2.1 k ((8 : Nat) : Int) with
        | some r => exact absurd ⟨h5, rfl⟩ (bg_rfo ho).2.2
        | none =>
          show _ = if k ∈ bg_ss ∧ ((8 : Nat) : Int) = 8 then bg_lr (fun _ => 0) k else _
          rw [if_pos ⟨h5, rfl⟩]
          rfl
    · rw [hK] at h3 hj
      have hk : (if e.1.1 = 3 then (List.range e.1.2).all (fun j => (e.2.1.lookup (j : Int)).isSome) else if 4 ≤ e.1.1 then (List.range (gm_nf (e.1.1 - 4))).all (fun j => !gm_isr (e.1.1 - 4) j || ((e.2.1.lookup (j : Int)).isSome || decide (k ∈ bg_ss ∧ j = 8))) else true) = true := hk
      rw [if_pos h3] at hk
      obtain ⟨r, hr2⟩ := Option.isSome_iff_exists.mp (List.all_eq_true.mp hk j (List.mem_range.mpr hj))
      exact hr _ r hr2
theorem st_mv {σ : Nat → Int} {F : ck_F} {n n' : Nat} {K K' : gm_K} {R R' : gm_R} {M M' : gm_M} (h : ck_gf σ F n K R M) (hl : (F.1.all (fun q => decide (q.1 ≤ 225)) && (F.2.1.all (fun q => decide (q.1 ≤ 225)) && F.2.2.all (fun q => decide (q.1 ≤ 225)))) = true) (hn : n ≤ n') (hK : ∀ k, k ≤ 225 → K' k = K k) (hR : ∀ k j, k ≤ 225 → R' k j = R k j) (hM : ∀ k j, k ≤ 225 → M' k j = M k j) : ck_gf σ F n' K' R' M' := by
  simp only [Bool.and_eq_true] at hl
  obtain ⟨l1, l2, l3⟩ := hl
  refine ⟨fun q hq => ?_, fun q hq => ?_, fun q hq => ?_⟩
  · have := of_decide_eq_true (List.all_eq_true.mp l1 q hq)
    obtain ⟨a, b⟩ := h.1 q hq
    exact ⟨⟨a.1, by omega⟩, (hK _ this).trans b⟩
  · have := of_decide_eq_true (List.all_eq_true.mp l2 q hq)
    obtain ⟨a, b⟩ := h.2.1 q hq
    exact ⟨by omega, (hR _ _ this).trans b⟩
  · have := of_decide_eq_true (List.all_eq_true.mp l3 q hq)
    obtain ⟨a, b⟩ := h.2.2 q hq
    refine ⟨by omega, fun j j1 j2 => ?_⟩
    rw [hM _ _ this]
    exact b j j1 j2
/-- what a new object is told of -/
noncomputable def iN (i : Int) : Int := if i = 0 then 3 else if i = 1 then 40 else if i = 10 then 10 else if i = 11 then 2 else if i = 12 then 3 else if i = 13 then 1 else 0
noncomputable def st_v (k : Nat) (v j : Int) : Bool := st_cov (st_k st_F0.2.2 k) v v 50 j j
noncomputable def st_g (F : List (Nat × Int × Int × ck_I)) (c : Nat) : Bool := (List.range 395).all (fun i => i == 8 || (!((pl (i : Int)).1 == c) || st_cov F (iN (i : Int)) (iN (i : Int)) 50 (pl (i : Int)).2 (pl (i : Int)).2))
set_option maxRecDepth 100000 in
theorem st_d1 : (List.range 13).all (fun c => st_g (st_k st_F0.2.2 (3 + c)) c) = true := by decide +kernel
set_option maxRecDepth 100000 in
theorem st_d2 : (List.range 395).all (fun i => i == 8 || st_v 227 (iN (i : Int)) (i : Int)) = true := by decide +kernel
set_option maxRecDepth 100000 in
theorem st_d5 : (((st_v 42 0 1 && st_v 42 0 2) && (st_v 1 0 15 && st_v 1 0 6)) && ((st_v 1 0 1 && st_v 1 (-1) 2) && (st_v 226 0 6 && st_v 227 0 8)) && ((st_v 226 (-1) 26 && st_v 226 0 5) && (st_v 226 0 8 && st_v 226 (-1) 13))) = true := by decide +kernel
set_option maxRecDepth 100000 in
theorem st_d6 : (((st_cov (st_k st_F0.2.2 202) 0 0 50 0 593 && st_cov (st_k st_F0.2.2 203) 0 0 50 0 299) && (st_cov (st_k st_F0.2.2 2) 0 0 50 0 399 && st_cov (st_k st_F0.2.2 231) 0 0 50 0 399)) && st_cov (st_k st_F0.2.2 235) 0 0 50 0 29699) = true := by decide +kernel
theorem iN_ir : irN iN := fun i => by
  have h : 0 ≤ iN i ∧ iN i ≤ 40 := by
    unfold iN
    split
    · decide
    · split
      · decide
      · split
        · decide
        · split
          · decide
          · split
            · decide
            · split <;> decide
  exact ⟨by omega, by omega⟩
theorem iN_R : NR iN := by
  have e2 : iN 2 = 0 := by decide
  have e3 : iN 3 = 0 := by decide
  have e4 : iN 4 = 0 := by decide
  have e5 : iN 5 = 0 := by decide
  refine ⟨by decide, by decide, fun f f0 f1 => ?_, fun p p0 p1 => ?_, fun l l0 l1 => ?_⟩
  · rw [e5] at f1; omega
  · rw [e3] at p1; omega
  · rw [e4] at l1; omega
theorem iN_S : NS iN := fun s s0 s1 => by
  have e2 : iN 2 = 0 := by decide
  rw [e2] at s1
  omega
theorem iN_L : LOGI iN := by
  unfold LOGI
  rw [show (iN 4).toNat = 0 by decide]
  exact (show iN 14 = 0 by decide)
theorem iN_J : GJ iN := ⟨⟨iN_R, iN_S, iN_L⟩, iN_ir⟩
theorem iN_sp {l r : Int} : spd iN l r = 0 := by
  unfold spd nsp
  rw [show (iN 2).toNat = 0 by decide]
  split <;> rfl
theorem st_vs {σ : Nat → Int} {K : gm_K} {R : gm_R} {M : gm_M} (hf : ck_gf σ st_F 245 K R M) {k : Nat} {v j : Int} (h : st_v k v j = true) : M k j = v := by
  have := st_cov_s (st_f0 hf).2.2 50 j j h j (Int.le_refl _) (Int.le_refl _)
  omega
set_option maxRecDepth 100000 in
theorem st_REL {σ : Nat → Int} {K : gm_K} {R : gm_R} {M : gm_M} (hf : ck_gf σ st_F 245 K R M) (hF : gm_Fx p2_O 245 K R M) : REL (fun _ => 0) K M iN none [] none 0 (-1) (fun _ => 0) := by
  have v : ∀ {k : Nat} {v j : Int}, st_v k v j = true → M k j = v := fun h => st_vs hf h
  have z : ∀ k lo hi, st_cov (st_k st_F0.2.2 k) 0 0 50 lo hi = true → ∀ j, lo ≤ j → j ≤ hi → M k j = 0 := fun k lo hi h j j1 j2 => by
    have := st_cov_s (st_f0 hf).2.2 50 lo hi h j j1 j2
    omega
  have d5 := st_d5
  have d6 := st_d6
  simp only [Bool.and_eq_true] at d5 d6
  have a1 := d5.1.1.1.1
  have a2 := d5.1.1.1.2
  have a3 := d5.1.1.2.1
  have a4 := d5.1.1.2.2
  have a5 := d5.1.2.1.1
  have a6 := d5.1.2.1.2
  have a7 := d5.1.2.2.1
  have a8 := d5.1.2.2.2
  have b1 := d5.2.1.1
  have b2 := d5.2.1.2
  have b3 := d5.2.2.1
  have b4 := d5.2.2.2
  obtain ⟨⟨⟨c1, c2⟩, c3, c4⟩, c5⟩ := d6
  have e13 : iN 13 = 1 := by decide
  have eC : cs M 3 = iN := by
    funext i
    by_cases hi : 0 ≤ i ∧ i < 395 ∧ ¬ i = 8
    · rw [cs_pl hi]
      obtain ⟨k, rfl⟩ : ∃ k : Nat, i = (k : Int) := ⟨i.toNat, by omega⟩
      have hc : (pl (k : Int)).1 < 13 := Nat.lt_succ_of_le (pl_le hi)
      have h := List.all_eq_true.mp (List.all_eq_true.mp st_d1 (pl (k : Int)).1 (List.mem_range.mpr hc)) k (List.mem_range.mpr (by omega))
      simp only [Bool.or_eq_true] at h
      rcases h with h | h | h
      · exact absurd (eq_of_beq h) (by omega)
      · simp at h
      · have := st_cov_s (st_f0 hf).2.2 50 _ _ h _ (Int.le_refl _) (Int.le_refl _)
        omega
    · rw [cs_no hi]
      unfold iN
      rw [if_neg (by omega), if_neg (by omega), if_neg (by omega), if_neg (by omega), if_neg (by omega), if_neg (by omega)]
  have eW : ws (M 227) = iN := by
    funext i
    unfold ws
    by_cases hi : 0 ≤ i ∧ i < 395 ∧ ¬ i = 8
    · rw [if_pos hi]
      obtain ⟨k, rfl⟩ : ∃ k : Nat, i = (k : Int) := ⟨i.toNat, by omega⟩
      have h := List.all_eq_true.mp st_d2 k (List.mem_range.mpr (by omega))
      simp only [Bool.or_eq_true] at h
      rcases h with h | h
      · exact absurd (eq_of_beq h) (by omega)
      · exact v h
    · rw [if_neg hi]
      unfold iN
      rw [if_neg (by omega), if_neg (by omega), if_neg (by omega), if_neg (by omega), if_neg (by omega), if_neg (by omega)]
  have eH : ∀ k : Nat, (k = 201 ∨ k = 234) → ∀ y, 0 ≤ y → y < 300 → M k y = hts (iN 13) y := fun k hk y y0 y1 => by
    rw [e13]
    rcases hk with rfl | rfl
    · exact st_hC hf y y0 y1
    · exact st_hR hf y y0 y1
  refine ⟨⟨iN_J, (fun ls e => nomatch e), (fun N1 h => nomatch h), (fun NI lI e => nomatch e), ⟨by decide, by decide⟩, ⟨by decide, by decide⟩, fun j _ _ => ⟨show (-128 : Int) ≤ 0 by decide, show (0 : Int) ≤ 127 by decide⟩⟩, ⟨⟨fun _ => rfl, (fun ls e => nomatch e)⟩, fun i hi => absurd hi (Nat.not_lt_zero _), (fun NI lI e => nomatch e)⟩, ?_, ?_⟩
  · refine ⟨⟨⟨cstF hF, eC, fun y y0 y1 => ⟨eH 201 (Or.inl rfl) y y0 y1, hts_b, ?_⟩, fun l r l0 l1 r0 r1 => ?_⟩, 0, ⟨by decide, by decide⟩, v a1, v a2, by decide, (fun i N1 e => nomatch e)⟩, Or.inl (v a3), fun h => absurd rfl h, Or.inl ⟨v a4, rfl⟩, ⟨v a5, v a6⟩, fun j j0 j1 => z _ _ _ c3 j j0 (by omega)⟩
    · rw [z _ _ _ c2 y y0 (by omega)]
      exact fbk_f (k := 0) fbk_0 (show ((0 : Nat) : Int) = iN 5 by decide)
    · rw [iN_sp]
      exact z _ _ _ c1 _ (by omega) (by omega)
  · refine ⟨⟨⟨eW, fun y y0 y1 => ⟨eH 234 (Or.inr rfl) y y0 y1, hts_b⟩⟩, ⟨fun _ => v a8, (fun ls e => nomatch e)⟩, ⟨v a7, by decide⟩, (fun i N1 e => nomatch e)⟩, ⟨?_, fun j j0 j1 => ?_, fun r y h0 => ?_⟩, Or.inl ⟨v b2, rfl⟩, ⟨v b3, v b4⟩, fun j j0 j1 => z _ _ _ c4 j j0 (by omega)⟩
    · rw [v b1]; exact ⟨by decide, by decide⟩
    · rw [z _ _ _ c5 j j0 (by omega)]; exact ⟨by decide, by decide⟩
    · rw [v b1] at h0; omega
theorem st_bg {σ : Nat → Int} {K : gm_K} {R : gm_R} {M : gm_M} (hf : ck_gf σ st_F 245 K R M) : bg 0 (fun _ => 0) K (bg_R 0 fun _ => 0) M ∧ nR_ok 245 K R (bg_R 0 fun _ => 0) ∧ RELW (fun _ => 0) K M := by
  have z : ∀ k lo hi, st_cov (st_k st_F0.2.2 k) 0 0 50 lo hi = true → ∀ j, lo ≤ j → j ≤ hi → M k j = 0 := fun k lo hi h j j1 j2 => by
    have := st_cov_s (st_f0 hf).2.2 50 lo hi h j j1 j2
    omega
  obtain ⟨⟨⟨a1, a2⟩, a3, a4⟩, a5, -, -⟩ := st_c2
  have hF := st_Fx (st_f0 hf) st_c1 (st_J (K := K) (fun j h1 h2 => by
    rcases h1 with rfl | h1
    · exact z _ _ _ a1 4 (Int.le_refl _) (Int.le_refl _)
    · exact z _ _ _ a2 j h1 h2) (fun j h1 h2 => z _ _ _ a3 j h1 h2) (fun j h1 h2 => z _ _ _ a4 j h1 h2) (fun j h1 h2 => z _ _ _ a5 j h1 h2))
  have h0 : ∀ s ∈ bg_ss, R s 8 = 0 := fun s hs => by
    obtain ⟨q, hq, e⟩ := List.any_eq_true.mp (List.all_eq_true.mp st_c3 s hs)
    have := ((st_f0 hf).2.1 q hq).2
    rw [of_decide_eq_true e] at this
    exact this
  refine ⟨⟨⟨rfl, by decide⟩, ⟨hF.1, fun k j r hr => ⟨(hF.2.1 k j r hr).1, by unfold bg_R; rw [hr]⟩, hF.2.2⟩, fun i hi => by omega, fun s _ => Nat.le_refl _⟩, st_nR hF h0, ⟨_, _, _, _, _, _, _, st_REL hf hF⟩⟩
end GO
