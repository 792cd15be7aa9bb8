/-! 7c43.go -/
section
/-! FROM THE ENTRY to the loop's head, told of class and reference. -/
def st_A : ck_F := match pc_s130.2.2.2.2.2 with
  | oc :: _ => oc.2.2
  | [] => ([], [], [])
def st_B : ck_F := match pc_s132.2.2.2.2.2 with
  | oc :: _ => oc.2.2
  | [] => ([], [], [])
def st_F : ck_F := (st_A.1 ++ (st_B.1 ++ [(1, 4, 0), (226, 15, 0), (245, 2, 1)]), st_A.2.1 ++ st_B.2.1, st_A.2.2 ++ (st_B.2.2 ++ [(226, 0, 12, ck_one 0), (226, 14, 25, ck_one 0), (226, 27, 60, ck_one 0), (245, 0, 0, ck_one 0)]))
/-- the reference's row in parts: what is ahead of the heats, the heats, what is behind -/
def st_Bp : List (Nat × Int × Int × ck_I) := [(226, 26, 26, ck_one (-1)), (227, 13, 13, ck_one 1), (227, 12, 12, ck_one 3), (227, 11, 11, ck_one 2), (227, 10, 10, ck_one 10), (227, 1, 1, ck_one 40), (227, 0, 0, ck_one 3), (226, 13, 13, ck_one (-1)), (232, 0, 4, ck_one 0), (244, 0, 5, ck_one 0), (243, 0, 5, ck_one 0), (227, 2, 9, ck_one 0), (238, 0, 23, ck_one 0)]
def st_H2 : List (Nat × Int × Int × ck_I) := [(234, 299, 299, ck_one 9), (234, 298, 298, ck_one 4), (234, 297, 297, ck_one 5), (234, 296, 296, ck_one 1), (234, 295, 295, ck_one 2), (234, 294, 294, ck_one 7), (234, 293, 293, ck_one 3), (234, 292, 292, ck_one 9), (234, 291, 291, ck_one 2), (234, 290, 290, ck_one 4), (234, 289, 289, ck_one 2), (234, 288, 288, ck_one 9), (234, 287, 287, ck_one 5), (234, 286, 286, ck_one 3), (234, 285, 285, ck_one 2), (234, 284, 284, ck_one 8), (234, 283, 283, ck_one 1), (234, 282, 282, ck_one 9), (234, 281, 281, ck_one 5), (234, 280, 280, ck_one 9), (234, 279, 279, ck_one 0), (234, 278, 278, ck_one 5), (234, 277, 277, ck_one 2), (234, 276, 276, ck_one 8), (234, 275, 275, ck_one 7), (234, 274, 274, ck_one 2), (234, 273, 273, ck_one 9), (234, 272, 272, ck_one 4), (234, 271, 271, ck_one 6), (234, 270, 270, ck_one 9), (234, 269, 269, ck_one 1), (234, 268, 268, ck_one 1), (234, 267, 267, ck_one 3), (234, 266, 266, ck_one 8), (234, 265, 265, ck_one 3), (234, 264, 264, ck_one 6), (234, 263, 263, ck_one 0), (234, 262, 262, ck_one 9), (234, 261, 261, ck_one 7), (234, 260, 260, ck_one 1), (234, 259, 259, ck_one 0), (234, 258, 258, ck_one 1), (234, 257, 257, ck_one 6), (234, 256, 256, ck_one 0), (234, 255, 255, ck_one 2), (234, 254, 254, ck_one 1), (234, 253, 253, ck_one 9), (234, 252, 252, ck_one 1), (234, 251, 251, ck_one 8), (234, 250, 250, ck_one 5), (234, 249, 249, ck_one 0), (234, 248, 248, ck_one 0), (234, 247, 247, ck_one 2), (234, 246, 246, ck_one 9), (234, 245, 245, ck_one 5), (234, 244, 244, ck_one 2), (234, 243, 243, ck_one 0), (234, 242, 242, ck_one 4), (234, 241, 241, ck_one 5), (234, 240, 240, ck_one 5), (234, 239, 239, ck_one 9), (234, 238, 238, ck_one 1), (234, 237, 237, ck_one 4), (234, 236, 236, ck_one 9), (234, 235, 235, ck_one 4), (234, 234, 234, ck_one 8), (234, 233, 233, ck_one 4), (234, 232, 232, ck_one 1), (234, 231, 231, ck_one 6), (234, 230, 230, ck_one 2), (234, 229, 229, ck_one 3), (234, 228, 228, ck_one 1), (234, 227, 227, ck_one 3), (234, 226, 226, ck_one 8), (234, 225, 225, ck_one 1), (234, 224, 224, ck_one 2), (234, 223, 223, ck_one 6), (234, 222, 222, ck_one 6), (234, 221, 221, ck_one 5), (234, 220, 220, ck_one 8), (234, 219, 219, ck_one 6), (234, 218, 218, ck_one 7), (234, 217, 217, ck_one 5), (234, 216, 216, ck_one 4), (234, 215, 215, ck_one 4), (234, 214, 214, ck_one 2), (234, 213, 213, ck_one 2), (234, 212, 212, ck_one 1), (234, 211, 211, ck_one 4), (234, 210, 210, ck_one 2), (234, 209, 209, ck_one 7), (234, 208, 208, ck_one 5), (234, 207, 207, ck_one 8), (234, 206, 206, ck_one 7), (234, 205, 205, ck_one 0), (234, 204, 204, ck_one 9), (234, 203, 203, ck_one 9), (234, 202, 202, ck_one 0), (234, 201, 201, ck_one 0), (234, 200, 200, ck_one 3), (234, 199, 199, ck_one 6), (234, 198, 198, ck_one 5), (234, 197, 197, ck_one 6), (234, 196, 196, ck_one 1), (234, 195, 195, ck_one 1), (234, 194, 194, ck_one 3), (234, 193, 193, ck_one 9), (234, 192, 192, ck_one 4), (234, 191, 191, ck_one 5), (234, 190, 190, ck_one 3), (234, 189, 189, ck_one 8), (234, 188, 188, ck_one 5), (234, 187, 187, ck_one 6), (234, 186, 186, ck_one 1), (234, 185, 185, ck_one 9), (234, 184, 184, ck_one 3), (234, 183, 183, ck_one 5), (234, 182, 182, ck_one 8), (234, 181, 181, ck_one 4), (234, 180, 180, ck_one 2), (234, 179, 179, ck_one 3), (234, 178, 178, ck_one 1), (234, 177, 177, ck_one 8), (234, 176, 176, ck_one 2), (234, 175, 175, ck_one 7), (234, 174, 174, ck_one 1), (234, 173, 173, ck_one 7), (234, 172, 172, ck_one 3), (234, 171, 171, ck_one 6), (234, 170, 170, ck_one 8), (234, 169, 169, ck_one 8), (234, 168, 168, ck_one 6), (234, 167, 167, ck_one 6), (234, 166, 166, ck_one 6), (234, 165, 165, ck_one 1), (234, 164, 164, ck_one 6), (234, 163, 163, ck_one 8), (234, 162, 162, ck_one 3), (234, 161, 161, ck_one 7), (234, 160, 160, ck_one 9), (234, 159, 159, ck_one 7), (234, 158, 158, ck_one 3), (234, 157, 157, ck_one 1), (234, 156, 156, ck_one 3), (234, 155, 155, ck_one 6), (234, 154, 154, ck_one 5), (234, 153, 153, ck_one 9), (234, 152, 152, ck_one 3), (234, 151, 151, ck_one 7), (234, 150, 150, ck_one 9), (234, 149, 149, ck_one 7), (234, 148, 148, ck_one 3), (234, 147, 147, ck_one 7), (234, 146, 146, ck_one 6), (234, 145, 145, ck_one 1), (234, 144, 144, ck_one 4), (234, 143, 143, ck_one 5), (234, 142, 142, ck_one 5), (234, 141, 141, ck_one 5), (234, 140, 140, ck_one 5), (234, 139, 139, ck_one 4), (234, 138, 138, ck_one 9), (234, 137, 137, ck_one 0), (234, 136, 136, ck_one 0), (234, 135, 135, ck_one 5), (234, 134, 134, ck_one 2), (234, 133, 133, ck_one 0), (234, 132, 132, ck_one 0), (234, 131, 131, ck_one 2), (234, 130, 130, ck_one 5), (234, 129, 129, ck_one 5), (234, 128, 128, ck_one 6), (234, 127, 127, ck_one 9), (234, 126, 126, ck_one 1), (234, 125, 125, ck_one 0), (234, 124, 124, ck_one 3), (234, 123, 123, ck_one 7), (234, 122, 122, ck_one 6), (234, 121, 121, ck_one 2), (234, 120, 120, ck_one 6), (234, 119, 119, ck_one 9), (234, 118, 118, ck_one 0), (234, 117, 117, ck_one 0), (234, 116, 116, ck_one 8), (234, 115, 115, ck_one 0), (234, 114, 114, ck_one 3), (234, 113, 113, ck_one 4), (234, 112, 112, ck_one 3), (234, 111, 111, ck_one 8), (234, 110, 110, ck_one 1), (234, 109, 109, ck_one 4), (234, 108, 108, ck_one 6), (234, 107, 107, ck_one 3), (234, 106, 106, ck_one 6), (234, 105, 105, ck_one 5), (234, 104, 104, ck_one 2), (234, 103, 103, ck_one 7), (234, 102, 102, ck_one 4), (234, 101, 101, ck_one 1), (234, 100, 100, ck_one 2), (234, 99, 99, ck_one 1), (234, 98, 98, ck_one 8), (234, 97, 97, ck_one 9), (234, 96, 96, ck_one 4), (234, 95, 95, ck_one 3), (234, 94, 94, ck_one 5), (234, 93, 93, ck_one 4), (234, 92, 92, ck_one 9), (234, 91, 91, ck_one 5), (234, 90, 90, ck_one 0), (234, 89, 89, ck_one 1), (234, 88, 88, ck_one 6), (234, 87, 87, ck_one 1), (234, 86, 86, ck_one 1), (234, 85, 85, ck_one 9), (234, 84, 84, ck_one 0), (234, 83, 83, ck_one 6), (234, 82, 82, ck_one 3), (234, 81, 81, ck_one 2), (234, 80, 80, ck_one 3), (234, 79, 79, ck_one 4), (234, 78, 78, ck_one 1), (234, 77, 77, ck_one 5), (234, 76, 76, ck_one 6), (234, 75, 75, ck_one 2), (234, 74, 74, ck_one 4), (234, 73, 73, ck_one 6), (234, 72, 72, ck_one 8), (234, 71, 71, ck_one 0), (234, 70, 70, ck_one 6), (234, 69, 69, ck_one 6), (234, 68, 68, ck_one 9), (234, 67, 67, ck_one 7), (234, 66, 66, ck_one 8), (234, 65, 65, ck_one 9), (234, 64, 64, ck_one 0), (234, 63, 63, ck_one 4), (234, 62, 62, ck_one 1), (234, 61, 61, ck_one 3), (234, 60, 60, ck_one 9), (234, 59, 59, ck_one 5), (234, 58, 58, ck_one 7), (234, 57, 57, ck_one 7), (234, 56, 56, ck_one 2), (234, 55, 55, ck_one 8), (234, 54, 54, ck_one 2), (234, 53, 53, ck_one 3), (234, 52, 52, ck_one 4), (234, 51, 51, ck_one 0), (234, 50, 50, ck_one 3), (234, 49, 49, ck_one 4), (234, 48, 48, ck_one 2), (234, 47, 47, ck_one 3), (234, 46, 46, ck_one 5), (234, 45, 45, ck_one 6), (234, 44, 44, ck_one 7), (234, 43, 43, ck_one 3), (234, 42, 42, ck_one 5), (234, 41, 41, ck_one 8), (234, 40, 40, ck_one 8), (234, 39, 39, ck_one 6), (234, 38, 38, ck_one 1), (234, 37, 37, ck_one 3), (234, 36, 36, ck_one 4), (234, 35, 35, ck_one 7), (234, 34, 34, ck_one 1), (234, 33, 33, ck_one 2), (234, 32, 32, ck_one 4), (234, 31, 31, ck_one 5), (234, 30, 30, ck_one 4), (234, 29, 29, ck_one 6), (234, 28, 28, ck_one 2), (234, 27, 27, ck_one 5), (234, 26, 26, ck_one 1), (234, 25, 25, ck_one 4), (234, 24, 24, ck_one 7), (234, 23, 23, ck_one 1), (234, 22, 22, ck_one 5), (234, 21, 21, ck_one 8), (234, 20, 20, ck_one 6), (234, 19, 19, ck_one 6), (234, 18, 18, ck_one 7), (234, 17, 17, ck_one 3), (234, 16, 16, ck_one 9), (234, 15, 15, ck_one 3), (234, 14, 14, ck_one 5), (234, 13, 13, ck_one 0), (234, 12, 12, ck_one 4), (234, 11, 11, ck_one 7), (234, 10, 10, ck_one 9), (234, 9, 9, ck_one 6), (234, 8, 8, ck_one 2), (234, 7, 7, ck_one 9), (234, 6, 6, ck_one 0), (234, 5, 5, ck_one 7), (234, 4, 4, ck_one 1), (234, 3, 3, ck_one 5), (234, 2, 2, ck_one 3), (234, 1, 1, ck_one 8), (234, 0, 0, ck_one 8)]
def st_Bs : List (Nat × Int × Int × ck_I) := [(239, 0, 299, ck_one 0), (237, 0, 299, ck_one 0), (236, 0, 299, ck_one 0), (233, 0, 399, ck_one 0), (231, 0, 399, ck_one 0), (229, 0, 1243, ck_one 0), (228, 0, 1243, ck_one 0), (227, 14, 2092, ck_one 0), (242, 0, 2407, ck_one 0), (241, 0, 2407, ck_one 0), (240, 0, 2407, ck_one 0), (230, 0, 4739, ck_one 0), (235, 0, 29699, ck_one 0)]
/-- the facts, the heats left out -/
def st_F0 : ck_F := (st_A.1 ++ (st_B.1 ++ [(1, 4, 0), (226, 15, 0), (245, 2, 1)]), st_A.2.1 ++ st_B.2.1, st_U.2.2 ++ ((st_Bp ++ ((234, 0, 299, (0, 9, [])) :: st_Bs)) ++ [(226, 0, 12, ck_one 0), (226, 14, 25, ck_one 0), (226, 27, 60, ck_one 0), (245, 0, 0, ck_one 0)]))
set_option maxRecDepth 100000 in
theorem st_b1 : st_B.2.2 = st_Bp ++ (st_H2 ++ st_Bs) := rfl
theorem st_a1 : st_A.2.2 = st_H ++ st_U.2.2 := rfl
set_option maxRecDepth 100000 in
theorem st_d3 : (List.range 300).all (fun y => st_cov (st_k st_H 201) (hts 1 (y : Int)) (hts 1 (y : Int)) 50 (y : Int) (y : Int)) = true := by decide +kernel
set_option maxRecDepth 100000 in
theorem st_d4 : (List.range 300).all (fun y => st_cov (st_k st_H2 234) (hts 1 (y : Int)) (hts 1 (y : Int)) 50 (y : Int) (y : Int)) = true := by decide +kernel
theorem st_hC {σ : Nat → Int} {K : gm_K} {R : gm_R} {M : gm_M} (hf : ck_gf σ st_F 245 K R M) (y : Int) (y0 : 0 ≤ y) (y1 : y < 300) : M 201 y = hts 1 y := by
  obtain ⟨j, rfl⟩ : ∃ j : Nat, y = (j : Int) := ⟨y.toNat, by omega⟩
  have h := st_cov_s (k := 201) (fun q hq => hf.2.2 q (List.mem_append.mpr (Or.inl (by rw [st_a1]; exact List.mem_append.mpr (Or.inl hq))))) 50 (j : Int) (j : Int) (List.all_eq_true.mp st_d3 j (List.mem_range.mpr (by omega))) (j : Int) (Int.le_refl _) (Int.le_refl _)
  omega
theorem st_hR {σ : Nat → Int} {K : gm_K} {R : gm_R} {M : gm_M} (hf : ck_gf σ st_F 245 K R M) (y : Int) (y0 : 0 ≤ y) (y1 : y < 300) : M 234 y = hts 1 y := by
  obtain ⟨j, rfl⟩ : ∃ j : Nat, y = (j : Int) := ⟨y.toNat, by omega⟩
  have h := st_cov_s (k := 234) (fun q hq => hf.2.2 q (List.mem_append.mpr (Or.inr (List.mem_append.mpr (Or.inl (by rw [st_b1]; exact List.mem_append.mpr (Or.inr (List.mem_append.mpr (Or.inl hq)))))))) ) 50 (j : Int) (j : Int) (List.all_eq_true.mp st_d4 j (List.mem_range.mpr (by omega))) (j : Int) (Int.le_refl _) (Int.le_refl _)
  omega
theorem st_f0 {σ : Nat → Int} {K : gm_K} {R : gm_R} {M : gm_M} (hf : ck_gf σ st_F 245 K R M) : ck_gf σ st_F0 245 K R M := by
  refine ⟨hf.1, hf.2.1, fun q hq => ?_⟩
  rcases List.mem_append.mp hq with hq | hq
  · exact hf.2.2 q (List.mem_append.mpr (Or.inl (by rw [st_a1]; exact List.mem_append.mpr (Or.inr hq))))
  · rcases List.mem_append.mp hq with hq | hq
    · rcases List.mem_append.mp hq with hq | hq
      · exact hf.2.2 q (List.mem_append.mpr (Or.inr (List.mem_append.mpr (Or.inl (by rw [st_b1]; exact List.mem_append.mpr (Or.inl hq))))))
      · rcases List.mem_cons.mp hq with rfl | hq
        · refine ⟨by decide, fun j j0 j1 => ?_⟩
          have j0 : 0 ≤ j := j0
          have j1 : j ≤ 299 := j1
          have e := st_hR hf j j0 (by omega)
          have b := hts_b (s := 1) (y := j)
          show gm_ir (M 234 j) ∧ (0 ≤ M 234 j ∧ M 234 j ≤ 9 ∧ _)
          rw [e]
          exact ⟨⟨by omega, by omega⟩, b.1, b.2, fun _ h => nomatch h⟩
        · exact hf.2.2 q (List.mem_append.mpr (Or.inr (List.mem_append.mpr (Or.inl (by rw [st_b1]; exact List.mem_append.mpr (Or.inr (List.mem_append.mpr (Or.inr hq))))))))
    · exact hf.2.2 q (List.mem_append.mpr (Or.inr (List.mem_append.mpr (Or.inr hq))))
set_option maxRecDepth 100000 in
theorem st_c1 : st_T st_F0 = true := by decide +kernel
set_option maxRecDepth 100000 in
theorem st_c2 : ((st_cov (st_k st_F0.2.2 227) 0 0 50 4 4 = true ∧ st_cov (st_k st_F0.2.2 227) 0 0 50 14 2092 = true) ∧ (st_cov (st_k st_F0.2.2 228) 0 0 50 0 1243 = true ∧ st_cov (st_k st_F0.2.2 229) 0 0 50 0 1243 = true)) ∧ st_cov (st_k st_F0.2.2 230) 0 0 50 0 4739 = true ∧ (st_cov (st_k st_F0.2.2 1) 0 0 50 1 1 = true ∧ st_cov (st_k st_F0.2.2 226) 0 0 50 8 8 = true) := by decide +kernel
set_option maxRecDepth 100000 in
theorem st_c5 : st_cov (st_k st_F0.2.2 2) 0 0 50 0 399 = true ∧ st_cov (st_k st_F0.2.2 231) 0 0 50 0 399 = true := by decide +kernel
set_option maxRecDepth 100000 in
theorem st_c3 : bg_ss.all (fun s => st_F0.2.1.any fun q => decide (q = (s, 8, 0))) = true := by decide +kernel
set_option maxRecDepth 100000 in
theorem st_c4 : (List.range 246).all (fun k => match ck_tab p2_T k with
  | none => k == 0
  | some e => if e.1.1 = 3 then (List.range e.1.2).all (fun j => (e.2.1.lookup (j : Int)).isSome) else if 4 ≤ e.1.1 then (List.range (gm_nf (e.1.1 - 4))).all (fun j => !gm_isr (e.1.1 - 4) j || ((e.2.1.lookup (j : Int)).isSome || decide (k ∈ bg_ss ∧ j = 8))) else true) = true := by decide +kernel
set_option maxRecDepth 100000 in
theorem st_o1 : pc_s130.2.2.2.2.2 = [(.inr none, 225, st_A)] ∧ pc_s132.2.2.2.2.2 = [(.inr none, 244, st_B)] := ⟨rfl, rfl⟩
set_option maxRecDepth 100000 in
theorem st_w1 : (pc_s132.2.2.2.2.1.1.all (fun w => decide (w.1 = 226 ∧ ((w.2.1 = 13 ∧ w.2.2 = 13) ∨ (w.2.1 = 26 ∧ w.2.2 = 26)))) && pc_s132.2.2.2.2.1.2.all (fun w => decide (w.1 = 226))) = true ∧ (st_A.1.all (fun q => decide (q.1 ≤ 225)) && (st_A.2.1.all (fun q => decide (q.1 ≤ 225)) && st_A.2.2.all (fun q => decide (q.1 ≤ 225)))) = true := by decide +kernel
section GO
variable {X : Int → Int} {LX : Nat}
theorem st_nR {K : gm_K} {R : gm_R} {M : gm_M} (hF : gm_Fx p2_O 245 K R M) (h0 : ∀ s ∈ bg_ss, R s 8 = 0) : nR_ok 245 K R (bg_R 0 fun _ => 0) := by
  intro k h1 h2
  have hk := List.all_eq_true.mp st_c4 k (List.mem_range.mpr (by omega))
  cases he : ck_tab p2_T k with
  | none => rw [he] at hk; have : k = 0 := eq_of_beq hk; omega
  | some e =>
    rw [he] at hk
    have hK : K k = e.1 := (hF.1 k e.1 (show (match ck_tab p2_T k with | some e => some e.1 | none => none) = some e.1 by rw [he])).2.2
    have hr : ∀ (j : Int) (r : Nat), e.2.1.lookup j = some r → R k j = bg_R 0 (fun _ => 0) k j := fun j r hj => by
      have ho : p2_O.2.1 k j = some r := by
        show (match ck_tab p2_T k with | some e => e.2.1.lookup j | none => none) = some r
        rw [he]; exact hj
      rw [(hF.2.1 k j r ho).2]
      unfold bg_R
      rw [ho]
    refine ⟨fun c j hc hj hi => ?_, fun h3 j hj => ?_⟩
    · rw [hK] at hc
      have hk : (if e.1.1 = 3 then (List.range e.1.2).all (fun j => (e.2.1.lookup (j : Int)).isSome) else if 4 ≤ e.1.1 then (List.range (gm_nf (e.1.1 - 4))).all (fun j => !gm_isr (e.1.1 - 4) j || ((e.2.1.lookup (j : Int)).isSome || decide (k ∈ bg_ss ∧ j = 8))) else true) = true := hk
      rw [if_neg (by omega), if_pos (by omega), show e.1.1 - 4 = c by omega] at hk
      have h5 := List.all_eq_true.mp hk j (List.mem_range.mpr hj)
      rw [hi] at h5
      simp only [Bool.not_true, Bool.false_or, Bool.or_eq_true, decide_eq_true_eq] at h5
      rcases h5 with h5 | ⟨h5, rfl⟩
      · obtain ⟨r, hr2⟩ := Option.isSome_iff_exists.mp h5
        exact hr _ r hr2
      · rw [show R k ((8 : Nat) : Int) = 0 from h0 k h5]
        unfold bg_R
        cases ho : p2_O.2.1 k ((8 : Nat) : Int) with
        | some r => exact absurd ⟨h5, rfl⟩ (bg_rfo ho).2.2
        | none =>
          show _ = if k ∈ bg_ss ∧ ((8 : Nat) : Int) = 8 then bg_lr (fun _ => 0) k else _
          rw [if_pos ⟨h5, rfl⟩]
          rfl
    · rw [hK] at h3 hj
      have hk : (if e.1.1 = 3 then (List.range e.1.2).all (fun j => (e.2.1.lookup (j : Int)).isSome) else if 4 ≤ e.1.1 then (List.range (gm_nf (e.1.1 - 4))).all (fun j => !gm_isr (e.1.1 - 4) j || ((e.2.1.lookup (j : Int)).isSome || decide (k ∈ bg_ss ∧ j = 8))) else true) = true := hk
      rw [if_pos h3] at hk
      obtain ⟨r, hr2⟩ := Option.isSome_iff_exists.mp (List.all_eq_true.mp hk j (List.mem_range.mpr hj))
      exact hr _ r hr2
theorem st_mv {σ : Nat → Int} {F : ck_F} {n n' : Nat} {K K' : gm_K} {R R' : gm_R} {M M' : gm_M} (h : ck_gf σ F n K R M) (hl : (F.1.all (fun q => decide (q.1 ≤ 225)) && (F.2.1.all (fun q => decide (q.1 ≤ 225)) && F.2.2.all (fun q => decide (q.1 ≤ 225)))) = true) (hn : n ≤ n') (hK : ∀ k, k ≤ 225 → K' k = K k) (hR : ∀ k j, k ≤ 225 → R' k j = R k j) (hM : ∀ k j, k ≤ 225 → M' k j = M k j) : ck_gf σ F n' K' R' M' := by
  simp only [Bool.and_eq_true] at hl
  obtain ⟨l1, l2, l3⟩ := hl
  refine ⟨fun q hq => ?_, fun q hq => ?_, fun q hq => ?_⟩
  · have := of_decide_eq_true (List.all_eq_true.mp l1 q hq)
    obtain ⟨a, b⟩ := h.1 q hq
    exact ⟨⟨a.1, by omega⟩, (hK _ this).trans b⟩
  · have := of_decide_eq_true (List.all_eq_true.mp l2 q hq)
    obtain ⟨a, b⟩ := h.2.1 q hq
    exact ⟨by omega, (hR _ _ this).trans b⟩
  · have := of_decide_eq_true (List.all_eq_true.mp l3 q hq)
    obtain ⟨a, b⟩ := h.2.2 q hq
    refine ⟨by omega, fun j j1 j2 => ?_⟩
    rw [hM _ _ this]
    exact b j j1 j2
/-- what a new object is told of -/
def iN (i : Int) : Int := if i = 0 then 3 else if i = 1 then 40 else if i = 10 then 10 else if i = 11 then 2 else if i = 12 then 3 else if i = 13 then 1 else 0
noncomputable def st_v (k : Nat) (v j : Int) : Bool := st_cov (st_k st_F0.2.2 k) v v 50 j j
noncomputable def st_g (F : List (Nat × Int × Int × ck_I)) (c : Nat) : Bool := (List.range 395).all (fun i => i == 8 || (!((pl (i : Int)).1 == c) || st_cov F (iN (i : Int)) (iN (i : Int)) 50 (pl (i : Int)).2 (pl (i : Int)).2))
set_option maxRecDepth 100000 in
theorem st_d1 : (List.range 13).all (fun c => st_g (st_k st_F0.2.2 (3 + c)) c) = true := by decide +kernel
set_option maxRecDepth 100000 in
theorem st_d2 : (List.range 395).all (fun i => i == 8 || st_v 227 (iN (i : Int)) (i : Int)) = true := by decide +kernel
set_option maxRecDepth 100000 in
theorem st_d5 : (((st_v 42 0 1 && st_v 42 0 2) && (st_v 1 0 15 && st_v 1 0 6)) && ((st_v 1 0 1 && st_v 1 (-1) 2) && (st_v 226 0 6 && st_v 227 0 8)) && ((st_v 226 (-1) 26 && st_v 226 0 5) && (st_v 226 0 8 && st_v 226 (-1) 13))) = true := by decide +kernel
set_option maxRecDepth 100000 in
theorem st_d6 : (((st_cov (st_k st_F0.2.2 202) 0 0 50 0 593 && st_cov (st_k st_F0.2.2 203) 0 0 50 0 299) && (st_cov (st_k st_F0.2.2 2) 0 0 50 0 399 && st_cov (st_k st_F0.2.2 231) 0 0 50 0 399)) && st_cov (st_k st_F0.2.2 235) 0 0 50 0 29699) = true := by decide +kernel
theorem iN_ir : irN iN := fun i => by
  have h : 0 ≤ iN i ∧ iN i ≤ 40 := by
    unfold iN
    split
    · decide
    · split
      · decide
      · split
        · decide
        · split
          · decide
          · split
            · decide
            · split <;> decide
  exact ⟨by omega, by omega⟩
theorem iN_R : NR iN := by
  have e2 : iN 2 = 0 := by decide
  have e3 : iN 3 = 0 := by decide
  have e4 : iN 4 = 0 := by decide
  have e5 : iN 5 = 0 := by decide
  refine ⟨by decide, by decide, fun f f0 f1 => ?_, fun p p0 p1 => ?_, fun l l0 l1 => ?_⟩
  · rw [e5] at f1; omega
  · rw [e3] at p1; omega
  · rw [e4] at l1; omega
theorem iN_S : NS iN := fun s s0 s1 => by
  have e2 : iN 2 = 0 := by decide
  rw [e2] at s1
  omega
theorem iN_L : LOGI iN := by
  unfold LOGI
  rw [show (iN 4).toNat = 0 by decide]
  exact (show iN 14 = 0 by decide)
theorem iN_J : GJ iN := ⟨⟨iN_R, iN_S, iN_L⟩, iN_ir⟩
theorem iN_sp {l r : Int} : spd iN l r = 0 := by
  unfold spd nsp
  rw [show (iN 2).toNat = 0 by decide]
  split <;> rfl
theorem st_vs {σ : Nat → Int} {K : gm_K} {R : gm_R} {M : gm_M} (hf : ck_gf σ st_F 245 K R M) {k : Nat} {v j : Int} (h : st_v k v j = true) : M k j = v := by
  have := st_cov_s (st_f0 hf).2.2 50 j j h j (Int.le_refl _) (Int.le_refl _)
  omega
set_option maxRecDepth 100000 in
theorem st_REL {σ : Nat → Int} {K : gm_K} {R : gm_R} {M : gm_M} (hf : ck_gf σ st_F 245 K R M) (hF : gm_Fx p2_O 245 K R M) : REL (fun _ => 0) K M iN none [] none 0 (-1) (fun _ => 0) := by
  have v : ∀ {k : Nat} {v j : Int}, st_v k v j = true → M k j = v := fun h => st_vs hf h
  have z : ∀ k lo hi, st_cov (st_k st_F0.2.2 k) 0 0 50 lo hi = true → ∀ j, lo ≤ j → j ≤ hi → M k j = 0 := fun k lo hi h j j1 j2 => by
    have := st_cov_s (st_f0 hf).2.2 50 lo hi h j j1 j2
    omega
  have d5 := st_d5
  have d6 := st_d6
  simp only [Bool.and_eq_true] at d5 d6
  have a1 := d5.1.1.1.1
  have a2 := d5.1.1.1.2
  have a3 := d5.1.1.2.1
  have a4 := d5.1.1.2.2
  have a5 := d5.1.2.1.1
  have a6 := d5.1.2.1.2
  have a7 := d5.1.2.2.1
  have a8 := d5.1.2.2.2
  have b1 := d5.2.1.1
  have b2 := d5.2.1.2
  have b3 := d5.2.2.1
  have b4 := d5.2.2.2
  obtain ⟨⟨⟨c1, c2⟩, c3, c4⟩, c5⟩ := d6
  have e13 : iN 13 = 1 := by decide
  have eC : cs M 3 = iN := by
    funext i
    by_cases hi : 0 ≤ i ∧ i < 395 ∧ ¬ i = 8
    · rw [cs_pl hi]
      obtain ⟨k, rfl⟩ : ∃ k : Nat, i = (k : Int) := ⟨i.toNat, by omega⟩
      have hc : (pl (k : Int)).1 < 13 := Nat.lt_succ_of_le (pl_le hi)
      have h := List.all_eq_true.mp (List.all_eq_true.mp st_d1 (pl (k : Int)).1 (List.mem_range.mpr hc)) k (List.mem_range.mpr (by omega))
      simp only [Bool.or_eq_true] at h
      rcases h with h | h | h
      · exact absurd (eq_of_beq h) (by omega)
      · simp at h
      · have := st_cov_s (st_f0 hf).2.2 50 _ _ h _ (Int.le_refl _) (Int.le_refl _)
        omega
    · rw [cs_no hi]
      unfold iN
      rw [if_neg (by omega), if_neg (by omega), if_neg (by omega), if_neg (by omega), if_neg (by omega), if_neg (by omega)]
  have eW : ws (M 227) = iN := by
    funext i
    unfold ws
    by_cases hi : 0 ≤ i ∧ i < 395 ∧ ¬ i = 8
    · rw [if_pos hi]
      obtain ⟨k, rfl⟩ : ∃ k : Nat, i = (k : Int) := ⟨i.toNat, by omega⟩
      have h := List.all_eq_true.mp st_d2 k (List.mem_range.mpr (by omega))
      simp only [Bool.or_eq_true] at h
      rcases h with h | h
      · exact absurd (eq_of_beq h) (by omega)
      · exact v h
    · rw [if_neg hi]
      unfold iN
      rw [if_neg (by omega), if_neg (by omega), if_neg (by omega), if_neg (by omega), if_neg (by omega), if_neg (by omega)]
  have eH : ∀ k : Nat, (k = 201 ∨ k = 234) → ∀ y, 0 ≤ y → y < 300 → M k y = hts (iN 13) y := fun k hk y y0 y1 => by
    rw [e13]
    rcases hk with rfl | rfl
    · exact st_hC hf y y0 y1
    · exact st_hR hf y y0 y1
  refine ⟨⟨iN_J, (fun ls e => nomatch e), (fun N1 h => nomatch h), (fun NI lI e => nomatch e), ⟨by decide, by decide⟩, ⟨by decide, by decide⟩, fun j _ _ => ⟨show (-128 : Int) ≤ 0 by decide, show (0 : Int) ≤ 127 by decide⟩⟩, ⟨⟨fun _ => rfl, (fun ls e => nomatch e)⟩, fun i hi => absurd hi (Nat.not_lt_zero _), (fun NI lI e => nomatch e)⟩, ?_, ?_⟩
  · refine ⟨⟨⟨cstF hF, eC, fun y y0 y1 => ⟨eH 201 (Or.inl rfl) y y0 y1, hts_b, ?_⟩, fun l r l0 l1 r0 r1 => ?_⟩, 0, ⟨by decide, by decide⟩, v a1, v a2, by decide, (fun i N1 e => nomatch e)⟩, Or.inl (v a3), fun h => absurd rfl h, Or.inl ⟨v a4, rfl⟩, ⟨v a5, v a6⟩, fun j j0 j1 => z _ _ _ c3 j j0 (by omega)⟩
    · rw [z _ _ _ c2 y y0 (by omega)]
      exact fbk_f (k := 0) fbk_0 (show ((0 : Nat) : Int) = iN 5 by decide)
    · rw [iN_sp]
      exact z _ _ _ c1 _ (by omega) (by omega)
  · refine ⟨⟨⟨eW, fun y y0 y1 => ⟨eH 234 (Or.inr rfl) y y0 y1, hts_b⟩⟩, ⟨fun _ => v a8, (fun ls e => nomatch e)⟩, ⟨v a7, by decide⟩, (fun i N1 e => nomatch e)⟩, ⟨?_, fun j j0 j1 => ?_, fun r y h0 => ?_⟩, Or.inl ⟨v b2, rfl⟩, ⟨v b3, v b4⟩, fun j j0 j1 => z _ _ _ c4 j j0 (by omega)⟩
    · rw [v b1]; exact ⟨by decide, by decide⟩
    · rw [z _ _ _ c5 j j0 (by omega)]; exact ⟨by decide, by decide⟩
    · rw [v b1] at h0; omega
theorem st_bg {σ : Nat → Int} {K : gm_K} {R : gm_R} {M : gm_M} (hf : ck_gf σ st_F 245 K R M) : bg 0 (fun _ => 0) K (bg_R 0 fun _ => 0) M ∧ nR_ok 245 K R (bg_R 0 fun _ => 0) ∧ RELW (fun _ => 0) K M := by
  have z : ∀ k lo hi, st_cov (st_k st_F0.2.2 k) 0 0 50 lo hi = true → ∀ j, lo ≤ j → j ≤ hi → M k j = 0 := fun k lo hi h j j1 j2 => by
    have := st_cov_s (st_f0 hf).2.2 50 lo hi h j j1 j2
    omega
  obtain ⟨⟨⟨a1, a2⟩, a3, a4⟩, a5, -, -⟩ := st_c2
  have hF := st_Fx (st_f0 hf) st_c1 (st_J (K := K) (fun j h1 h2 => by
    rcases h1 with rfl | h1
    · exact z _ _ _ a1 4 (Int.le_refl _) (Int.le_refl _)
    · exact z _ _ _ a2 j h1 h2) (fun j h1 h2 => z _ _ _ a3 j h1 h2) (fun j h1 h2 => z _ _ _ a4 j h1 h2) (fun j h1 h2 => z _ _ _ a5 j h1 h2))
  have h0 : ∀ s ∈ bg_ss, R s 8 = 0 := fun s hs => by
    obtain ⟨q, hq, e⟩ := List.any_eq_true.mp (List.all_eq_true.mp st_c3 s hs)
    have := ((st_f0 hf).2.1 q hq).2
    rw [of_decide_eq_true e] at this
    exact this
  refine ⟨⟨⟨rfl, by decide⟩, ⟨hF.1, fun k j r hr => ⟨(hF.2.1 k j r hr).1, by unfold bg_R; rw [hr]⟩, hF.2.2⟩, fun i hi => by omega, fun s _ => Nat.le_refl _⟩, st_nR hF h0, ⟨_, _, _, _, _, _, _, st_REL hf hF⟩⟩
end GO
end
/-! 7c45.fx -/
section
/-! CALLS THAT ONLY ASK, by their row and by a judgement that tells the answer. -/
/-- the class answers c (thrown, or, of its own methods, the answer); out[0] is told -/
def CF (c : Int) (ov : Option Int) : gm_Q := fun o _ K1 _ M1 => K1 245 = (2, 1) ∧ o = .inl (some (gm_vi c)) ∧ ∀ v, ov = some v → M1 245 0 = gm_w v
/-- the reference throws c, answers v where it throws nothing -/
def RF (c v : Int) : gm_Q := fun o _ K1 _ M1 => K1 226 = (15, 0) ∧ (∃ x, o = .inl (some (gm_vi x)) ∧ (c = 0 → x = v)) ∧ M1 226 0 = c
def cF (c : Int) (ov : Option Int) (u : Option gm_V) (M2 : gm_M) : Prop := ∃ y, u = some (gm_vi y) ∧ gm_w y = gm_w c ∧ ∀ v, ov = some v → Int64.ofInt (M2 245 0) = Int64.ofInt (gm_w v)
def rF9 (c v : Int) (M : gm_M) (u : Option gm_V) (M2 : gm_M) : Prop := ∃ y, u = some (gm_vi y) ∧ (c = 0 → gm_w y = gm_w v) ∧ gm_w (M2 226 0) = gm_w c ∧ M2 245 0 = M 245 0
section FX45
variable {X : Int → Int} {LX : Nat} {O : gm_Or} {g z g1 n0 ix mj : Nat} {la : Nat → Nat} {K K' K2 : gm_K} {R R' R2 : gm_R} {M M' M2 : gm_M} {L : gm_L} {st : List gm_V} {Q Qf : gm_Q} {N : Int → Int} {lw lw2 : Option (List lln)} {ls : List lln} {A : List (Int → Int)} {im : Option ((Int → Int) × Option (List lln))} {t w c v : Int} {f W : Int → Int} {bc bs pc : Nat} {S : ck_Sum} {l l0 l1 : List ck_Sum} {ds : List (Int × Int)} {xs : List Int} {ov : Option Int} {u : Option gm_V}
/-- what the judgement says beside the row -/
def bF (Qf : gm_Q) (n0 : Nat) (u : Option gm_V) (K' : gm_K) (M' : gm_M) : Prop := ∃ (o2 : gm_O) (n2 : Nat) (Ka : gm_K) (Ra : gm_R) (Ma : gm_M), Qf o2 n2 Ka Ra Ma ∧ dt_o (.inl u) o2 ∧ dt_m n0 K' M' Ka Ma
def bc_KF (X : Int → Int) (LX d bc bs mi pc : Nat) (L : gm_L) (st : List gm_V) (Q : gm_Q) (O : gm_Or) (z g1 g : Nat) (la : Nat → Nat) (K : gm_K) (M : gm_M) (S : ck_Sum) (Qf : gm_Q) : Prop := ∀ oc ∈ S.2.2.2.2.2, ∀ (σ : Nat → Int) (u : Option gm_V) (n' : Nat) (K' : gm_K) (R' : gm_R) (M' : gm_M), (∀ q ∈ O.2.2.nm, σ q.1 = bs_M la M q.2.1 q.2.2) → ck_ho σ oc.1 (.inl u) → ck_gf σ oc.2.2 n' K' R' M' → gm_Fx O n' K' R' M' → ck_fr S.2.2.2.2.1 (245 + 4 * g1) (bs_K la K) (bs_R z g1) (bs_M la M) n' K' R' M' → bF Qf (245 + 4 * g1) u K' M' → bg g (bg_la la g 0 R') (bg_K g K K') (bg_R g (bg_la la g 0 R')) (bg_M g M M') → gm_Wp X LX d bc bs mi pc L (u.toList ++ st) (245 + 4 * g) (bg_K g K K') (bg_R g (bg_la la g 0 R')) (bg_M g M M') Q
theorem bc_ownF {d bc bs mi pc mj d' bc' bs' : Nat} {vs : List gm_V} (hb : bg g la K R M) (hz : bs_ok la z g1) (hg : g < 10000) (hnm : ck_nmu O) (hO : ∀ n K R M, gm_Fx O n K R M → gm_Fx p2_O n K R M) (hF : gm_Fx O (245 + 4 * g1) (bs_K la K) (bs_R z g1) (bs_M la M)) (hS : ck_Ok O X LX mj S) (hck : bc_ok O z g1 S = true) (h1 : S.1.1 ≤ d') (h2 : S.1.2.1 ≤ bc') (h3 : S.1.2.2 ≤ bs') (hvs : ∀ σ, ck_gas σ S.2.2.1 vs) (hf : gm_Wp X LX d' bc' bs' mj 0 (gm_ent mj vs) [] (245 + 4 * g1) (bs_K la K) (bs_R z g1) (bs_M la M) Qf) (k : bc_KF X LX d bc bs mi pc L st Q O z g1 g la K M S Qf) : gm_Wp X LX d' bc' bs' mj 0 (gm_ent mj vs) [] (245 + 4 * g1) (bs_K la K) (bs_R z g1) (bs_M la M) (gm_owe X LX d bc bs mi pc L st (bg_rho (la 3)) (bg_f la) (245 + 4 * g1) (245 + 4 * g) K R M Q) := by
  have hck2 := hck
  simp only [bc_ok, Bool.and_eq_true, decide_eq_true_eq] at hck2
  have hσ := ck_sn_s (σ := fun _ => 0) (M := bs_M la M) hnm
  refine gm_Wp_mono (fun o n' K' R' M' hq => ?_) (gm_Wp_and (gm_Wp_wk (Nat.le_refl _) h2 h3 (hS d' (ck_sn O (fun _ => 0) (bs_M la M)) vs _ _ _ _ h1 hck2.1.symm (hvs _) hσ hF (bc_f_s hck2.2.1 hF (by omega) hσ))) hf)
  obtain ⟨hq, hex⟩ := hq
  obtain ⟨hrt, oc, hoc, u, rfl, hu, ho, hf⟩ := bc_rt hck hz hO hq
  exact bg_oweX (c := 0) hb hz hg hrt hu (fun hb2 => k oc hoc _ u n' K' R' M' hσ ho hf hq.1 hq.2.1 hex hb2)
theorem bc_virtF {ix mj k1 ci mi pc d bc bs d' bc' bs' : Nat} {xs : List Int} (hb : bg g la K R M) (hz : bs_ok la z g1) (hg : g < 10000) (hnm : ck_nmu O) (hO : ∀ n K R M, gm_Fx O n K R M → gm_Fx p2_O n K R M) (hF : gm_Fx O (245 + 4 * g1) (bs_K la K) (bs_R z g1) (bs_M la M)) (hk1 : 1 ≤ k1 ∧ k1 ≤ 245) (hK1 : (K k1).1 = ci + 4) (h : gm_at mi pc = some (.invokevirtual ix)) (hc : gm_cal (gm_ow mi) ix = some (0, mj)) (hmx : gm_ow mj ≠ gm_mxi) (hci : ci < 12) (hcn : gm_cn ci = (gm_mn mj).cls) (hna : xs.length = gm_na mj) (hlen : xs.length + 1 ≤ gm_ml mj) (hst : (st.map gm_cat).sum ≤ 8) (hS : ck_Ok O X LX mj S) (hck : bc_ok O z g1 S = true) (h1 : S.1.1 ≤ d') (h2 : S.1.2.1 ≤ bc') (h3 : S.1.2.2 ≤ bs') (hd : d' + 1 ≤ d) (hb1 : bc' ≤ bc) (hb2 : bs' ≤ bs) (hvs : ∀ σ, ck_gas σ S.2.2.1 (gm_vr k1 :: xs.map gm_vi)) (hf : gm_Wp X LX d' bc' bs' mj 0 (gm_ent mj (gm_vr k1 :: xs.map gm_vi)) [] (245 + 4 * g1) (bs_K la K) (bs_R z g1) (bs_M la M) Qf) (k : bc_KF X LX d (bc - bc') (bs - bs') mi (pc + 3) L st Q O z g1 g la K M S Qf) : gm_Wp X LX d bc bs mi pc L ((xs.map gm_vi).reverse ++ gm_vr k1 :: st) (245 + 4 * g) K R M Q := by
  have er : bg_rho (la 3) k1 = k1 := by unfold bg_rho; rw [if_pos (by omega)]
  have := gm_c_virtS (k1 := k1) (as := xs.map gm_vi) (d' := d') (bc' := bc') (bs' := bs') (fun ti α => bg_sbw hb hz ti α) (fun i j a b c d e => bc_hin hz i j a b c d e) (bs_Rv hz) ⟨hk1.1, by omega⟩ (show (bs_K la K k1).1 = ci + 4 by unfold bs_K; rw [er]; exact hK1) h hc hmx hci hcn (by rw [List.length_map]; exact hna) (fun v hv => by obtain ⟨x, -, rfl⟩ := List.mem_map.mp hv; exact ⟨x, rfl⟩) (by rw [List.length_map]; exact hlen) hst hd hb1 hb2 (bc_ownF hb hz hg hnm hO hF hS hck h1 h2 h3 hvs hf k)
  rw [er] at this
  exact this
theorem bc_statF {ix mj mi pc d bc bs d' bc' bs' : Nat} {xs : List Int} (hb : bg g la K R M) (hz : bs_ok la z g1) (hg : g < 10000) (hnm : ck_nmu O) (hO : ∀ n K R M, gm_Fx O n K R M → gm_Fx p2_O n K R M) (hF : gm_Fx O (245 + 4 * g1) (bs_K la K) (bs_R z g1) (bs_M la M)) (h : gm_at mi pc = some (.invokestatic ix)) (hc : gm_cal (gm_ow mi) ix = some (5, mj)) (hmx : gm_ow mj ≠ gm_mxi) (hhj : ¬ gm_hh mj = []) (hna : xs.length + 2 = gm_na mj) (hlen : xs.length + 2 ≤ gm_ml mj) (hst : (st.map gm_cat).sum ≤ 8) (hS : ck_Ok O X LX mj S) (hck : bc_ok O z g1 S = true) (h1 : S.1.1 ≤ d') (h2 : S.1.2.1 ≤ bc') (h3 : S.1.2.2 ≤ bs') (hd : d' + 1 ≤ d) (hb1 : bc' ≤ bc) (hb2 : bs' ≤ bs) (hvs : ∀ σ, ck_gas σ S.2.2.1 (gm_vr 1 :: bc_as xs true)) (hf : gm_Wp X LX d' bc' bs' mj 0 (gm_ent mj (gm_vr 1 :: bc_as xs true)) [] (245 + 4 * g1) (bs_K la K) (bs_R z g1) (bs_M la M) Qf) (k : bc_KF X LX d (bc - bc') (bs - bs') mi (pc + 3) L st Q O z g1 g la K M S Qf) : gm_Wp X LX d bc bs mi pc L (gm_vr 245 :: ((xs.map gm_vi).reverse ++ gm_vr 1 :: st)) (245 + 4 * g) K R M Q := by
  have hl : (gm_vr 1 :: bc_as xs true).length = xs.length + 2 := by simp [bc_as]
  have := gm_c_statS (as1 := gm_vr 1 :: bc_as xs true) (as := gm_vr 1 :: bc_as xs true) (d' := d') (bc' := bc') (bs' := bs') (st := st) (fun ti α => bg_sbw hb hz ti α) (fun i j a b c d e => bc_hin hz i j a b c d e) (bs_Rv hz) (bc_arX xs (by omega)) h hc hmx hhj (by rw [hl]; exact hna) (by rw [hl]; exact hlen) hst hd hb1 hb2 (bc_ownF hb hz hg hnm hO hF hS hck h1 h2 h3 hvs hf k)
  rw [show (gm_vr 1 :: bc_as xs true).reverse ++ st = gm_vr 245 :: ((xs.map gm_vi).reverse ++ gm_vr 1 :: st) by simp [bc_as]] at this
  exact this
theorem cF_of (hE : bF (CF c ov) n0 u K' M') (hn : 245 ≤ n0) (hK : K' 245 = (2, 1)) (hu : mn_u true u) : cF c ov u (bg_M g M M') := by
  obtain ⟨o2, n2, Ka, Ra, Ma, ⟨a1, rfl, a2⟩, hdo, hdm⟩ := hE
  obtain ⟨y, rfl⟩ : ∃ y, u = some (gm_vi y) := hu
  refine ⟨y, rfl, dt_w hdo, fun v hv => ?_⟩
  rw [bg_Ms (by decide), ← a2 v hv]
  exact (hdm 245 (by decide) hn (hK.trans a1.symm)).2.1 (by rw [hK]) 0 (by rw [hK]; decide)
theorem rF_of (hE : bF (RF c v) n0 u K' M') (hn : 245 ≤ n0) (hK : K' 226 = (15, 0)) (hu : mn_u true u) (h5 : M' 245 0 = M 245 0) : rF9 c v M u (bg_M g M M') := by
  obtain ⟨o2, n2, Ka, Ra, Ma, ⟨a1, ⟨x, rfl, hx⟩, a2⟩, hdo, hdm⟩ := hE
  obtain ⟨y, rfl⟩ : ∃ y, u = some (gm_vi y) := hu
  refine ⟨y, rfl, fun hc => (dt_w hdo).trans (by rw [hx hc]), ?_, (bg_Ms (by decide) _).trans h5⟩
  rw [bg_Ms (by decide), ← a2]
  exact dt_w ((hdm 226 (by decide) (by omega) (hK.trans a1.symm)).2.2 11 0 (by rw [hK]) (by decide +kernel) (by decide +kernel))
theorem w_r_u {oc : ck_Oc} {σ : Nat → Int} (hw : w_r true S = true) (hok : bc_ok O z g1 S = true) (hoc : oc ∈ S.2.2.2.2.2) (ho : ck_ho σ oc.1 (.inl u)) : mn_u true u := vr_s hw hok ⟨oc, hoc, σ, ho⟩

/-- it does not write k.j -/
def bc_keep (S : ck_Sum) (k : Nat) (j : Int) : Bool := S.2.2.2.2.1.1.all fun w => !decide (w.1 = k ∧ w.2.1 ≤ j ∧ j ≤ w.2.2)
theorem bc_keep_s {n0 n k : Nat} {j : Int} {K0 K' : gm_K} {R0 R' : gm_R} {M0 M' : gm_M} (h : bc_keep S k j = true) (hk : k ≤ n0) (hf : ck_fr S.2.2.2.2.1 n0 K0 R0 M0 n K' R' M') : M' k j = M0 k j := by
  refine hf.2.2.1 k j hk fun w hw hh => ?_
  have := List.all_eq_true.mp h w hw
  simp only [Bool.not_eq_true', decide_eq_false_iff_not] at this
  exact this hh

theorem wk0_f {k1 : Nat} {tt : Bool} (hb : bg g la K R M) (h3 : la 3 = 0) (hw : w_r true S = true) (hck : w_k q0_O 0 0 k1 tt S = true) (hR : REL la K M N none A im t w f) (hbc : 6 ≤ bc) (hbs : 600 ≤ bs) (k : mq_K X LX bc bs pc L st Q g (fun la2 K2 M2 => REL la2 K2 M2 N none A im t w f) (fun u M2 => cF c ov u M2)) : bc_KF X LX 280 (bc - 6) (bs - 600) 370 pc L st Q q0_O 0 0 g la K M S (CF c ov) := by
  have hz : bs_ok la 0 0 := Or.inl ⟨rfl, rfl, h3⟩
  simp only [w_k, Bool.and_eq_true, decide_eq_true_eq, List.isEmpty_iff] at hck
  obtain ⟨hok, -, hbd, hR2, hW⟩ := hck
  intro oc hoc σ u n' K' R' M' _ ho hf hF hfr hex hb2
  have eR : ∀ k j, k ≤ 245 + 4 * 0 → R' k j = bs_R 0 0 k j := fun k j hk => hfr.2.2.2 k j hk (by rw [hR2]; exact fun h => nomatch h)
  have e0 : ∀ k j, k ≤ 245 → bg_M g M M' k j = M' k j := fun k j hk => bg_Ms hk j
  have e : ∀ k j, k ≤ 245 → ((cK k j ∧ ¬ kpt k j) ∨ rK k j) → bg_M g M M' k j = M k j := fun k j hk h => by
    rw [bg_Ms hk, wk_e hW hfr (by omega) h, vM hk]
  obtain ⟨-, N2, hq⟩ := hF.2.2.2.2
  have eN : N2 = N := by
    rw [← hq.2.1.1, ← hR.2.2.1.1.1.2.1]
    exact cs_same fun x j h1 h2 => by
      rw [← e0 x j (by omega)]
      exact e x j (by omega) (Or.inl ⟨by unfold cK; omega, by unfold kpt; omega⟩)
  subst eN
  have h15 : bg_M g M M' 1 15 = 0 ∨ (bg_M g M M' 1 15 = 1 ∧ ENDS N2 (hts (N2 13)) (aphi none N2 (hts (N2 13))) (bg_M g M M')) := by
    rw [e0 1 15 (by decide)]
    exact hq.2.2.imp_right fun hh => ⟨hh.1, ends_x hh.2 (fun k j hk => e0 k j (by omega))⟩
  refine gm_Wp_wk (Nat.le_refl _) (by omega) (by omega) (k u _ _ _ _ (cF_of hex (by omega) (hF.1 245 (2, 1) (by decide +kernel)).2.2 (w_r_u hw hok hoc ho)) hb2 ⟨hR.1, lwl_e hR.2.1 hb.2.2.2 (fun s hs => ?_) (e 42 1 (by decide) (Or.inl ⟨by unfold cK; omega, by unfold kpt; omega⟩)) (fun k k1 k2 => bg_Ks k2) (fun k j k1 k2 => bg_oldM k1 k2), clv_k hR.2.2.1 (cstF hb2.2.1) (fun k j hk hn => e k j (by have := ck_le hk; omega) (Or.inl ⟨hk, hn⟩)) h15 (fun hn => absurd rfl hn), rfv_e hR.2.2.2 (fun k j hk => e k j (by have := rk_le hk; omega) (Or.inr hk))⟩)
  show bg_dc la g 0 (R' s 8) = la s
  rw [eR s 8 (by have := bg_ssl hs; omega)]
  exact bg_dcs hz hs

theorem wkL_f {k1 : Nat} {tt : Bool} (hb : bg g la K R M) (h3 : ¬ la 3 = 0) (hw : w_r true S = true) (hck : w_k qL_O 246 1 k1 tt S = true) (hR : REL la K M N (some ls) A im t w f) (hbc : 6 ≤ bc) (hbs : 600 ≤ bs) (k : mq_K X LX bc bs pc L st Q g (fun la2 K2 M2 => REL la2 K2 M2 N (some ls) A im t w f) (fun u M2 => cF c ov u M2)) : bc_KF X LX 280 (bc - 6) (bs - 600) 370 pc L st Q qL_O 246 1 g la K M S (CF c ov) := by
  have hz : bs_ok la 246 1 := Or.inr (Or.inr ⟨rfl, rfl, h3⟩)
  simp only [w_k, Bool.and_eq_true, decide_eq_true_eq, List.isEmpty_iff] at hck
  obtain ⟨hok, -, hbd, hR2, hW⟩ := hck
  intro oc hoc σ u n' K' R' M' _ ho hf hF hfr hex hb2
  have eR : ∀ k j, k ≤ 245 + 4 * 1 → R' k j = bs_R 246 1 k j := fun k j hk => hfr.2.2.2 k j hk (by rw [hR2]; exact fun h => nomatch h)
  have e0 : ∀ k j, k ≤ 245 → bg_M g M M' k j = M' k j := fun k j hk => bg_Ms hk j
  have e : ∀ k j, k ≤ 245 → ((cK k j ∧ ¬ kpt k j) ∨ rK k j) → bg_M g M M' k j = M k j := fun k j hk h => by
    rw [bg_Ms hk, wk_e hW hfr (by omega) h, vM hk]
  obtain ⟨-, N2, ls2, hq, hkk, -, hlr⟩ := hF.2.2.2.2
  have eN : N2 = N := by
    rw [← hq.2.1.1, ← hR.2.2.1.1.1.2.1]
    exact cs_same fun x j h1 h2 => by
      rw [← e0 x j (by omega)]
      exact e x j (by omega) (Or.inl ⟨by unfold cK; omega, by unfold kpt; omega⟩)
  subst eN
  have e7 : M' 227 = M 227 := funext fun j => by
    rw [← e0 227 j (by decide)]
    exact e 227 j (by decide) (Or.inr (by unfold rK; omega))
  rw [e7] at hlr
  have hl2 := hR.2.2.2.1.2.1
  have ea := aphx_u (N := N2) (h := hts (N2 13)) hlr hl2
  have eb := aphi_u (N := N2) (h := hts (N2 13)) hlr hl2
  have h15 : bg_M g M M' 1 15 = 0 ∨ (bg_M g M M' 1 15 = 1 ∧ ENDS N2 (hts (N2 13)) (aphi (some ls) N2 (hts (N2 13))) (bg_M g M M')) := by
    rw [e0 1 15 (by decide), ← eb]
    exact hq.2.2.imp_right fun hh => ⟨hh.1, ends_x hh.2 (fun k j hk => e0 k j (by omega))⟩
  have hk9 : KFL N2 (aphx (some ls) N2 (hts (N2 13))) (bg_M g M M') := by
    rw [← ea]
    exact kfl_e hkk (e0 200 6 (by decide)) (fun j => e0 205 j (by decide))
  refine gm_Wp_wk (Nat.le_refl _) (by omega) (by omega) (k u _ _ _ _ (cF_of hex (by omega) ((qL_p hF).1 245 (2, 1) (by decide +kernel)).2.2 (w_r_u hw hok hoc ho)) hb2 ⟨hR.1, lwl_e hR.2.1 hb.2.2.2 (fun s hs => ?_) (e 42 1 (by decide) (Or.inl ⟨by unfold cK; omega, by unfold kpt; omega⟩)) (fun k k1 k2 => bg_Ks k2) (fun k j k1 k2 => bg_oldM k1 k2), clv_k hR.2.2.1 (cstF hb2.2.1) (fun k j hk hn => e k j (by have := ck_le hk; omega) (Or.inl ⟨hk, hn⟩)) h15 (fun _ => hk9), rfv_e hR.2.2.2 (fun k j hk => e k j (by have := rk_le hk; omega) (Or.inr hk))⟩)
  show bg_dc la g 0 (R' s 8) = la s
  rw [eR s 8 (by have := bg_ssl hs; omega)]
  exact bg_dcs hz hs

theorem wkR_f (hb : bg g la K R M) (hw : w_r true S = true) (h5 : bc_keep S 245 0 = true) (hck : w_kR S = true) (hR : REL la K M N lw A im t w f) (hbc : 6 ≤ bc) (hbs : 600 ≤ bs) (k : mq_K X LX bc bs pc L st Q g (fun la2 K2 M2 => REL la2 K2 M2 N lw A im t w f) (fun u M2 => rF9 c v M u M2)) : bc_KF X LX 280 (bc - 6) (bs - 600) 370 pc L st Q qR_O 100003 0 g la K M S (RF c v) := by
  have hz : bs_ok la 100003 0 := Or.inr (Or.inl ⟨rfl, rfl⟩)
  simp only [w_kR, Bool.and_eq_true, decide_eq_true_eq, List.isEmpty_iff] at hck
  obtain ⟨hok, -, hbd, hR2, hW⟩ := hck
  intro oc hoc σ u n' K' R' M' _ ho hf hF hfr hex hb2
  have eR : ∀ k j, k ≤ 245 + 4 * 0 → R' k j = bs_R 100003 0 k j := fun k j hk => hfr.2.2.2 k j hk (by rw [hR2]; exact fun h => nomatch h)
  have e0 : ∀ k j, k ≤ 245 → bg_M g M M' k j = M' k j := fun k j hk => bg_Ms hk j
  have e : ∀ k j, k ≤ 245 → (cK k j ∨ rK k j) → ¬ k = 235 → ¬ (k = 226 ∧ j = 26) → bg_M g M M' k j = M k j := fun k j hk h n1 n2 => by
    rw [bg_Ms hk, hfr.2.2.1 k j (by omega) (fun w hw hh => ?_), vM hk]
    have := List.all_eq_true.mp hW w hw
    simp only [Bool.or_eq_true, Bool.and_eq_true, Bool.not_eq_true', decide_eq_true_eq] at this
    rcases this with h9 | h9
    · omega
    · rcases h with h | h
      · rw [cKb_s h hh] at h9; exact absurd h9.1 (by decide)
      · rw [rKb_s h hh] at h9; exact absurd h9.2 (by decide)
  obtain ⟨-, N2, lw2, hG2, hT2, hL2, hk2⟩ := hF.2.2.2.2
  have e7 : M' 227 = M 227 := funext fun j => by
    rw [← e0 227 j (by decide)]
    exact e 227 j (by decide) (Or.inr (by unfold rK; omega)) (by decide) (by omega)
  have eN : N2 = N := by rw [← hT2.1, e7]; exact hR.2.2.2.1.1.1
  subst eN
  rw [e7] at hL2
  rw [aphi_v (N := N2) (h := hts (N2 13)) hL2 hR.2.2.2.1.2.1] at hk2
  have hk9 : KFR N2 (aphi lw N2 (hts (N2 13))) (bg_M g M M') := kfr_e hk2 (e0 226 26 (by decide)) (fun j => e0 235 j (by decide))
  refine gm_Wp_wk (Nat.le_refl _) (by omega) (by omega) (k u _ _ _ _ (rF_of hex (by omega) (hF.1 226 (15, 0) (by decide +kernel)).2.2 (w_r_u hw hok hoc ho) ((bc_keep_s h5 (by omega) hfr).trans (vM (by decide)))) hb2 ⟨hR.1, lwl_e hR.2.1 hb.2.2.2 (fun s hs => ?_) (e 42 1 (by decide) (Or.inl (by unfold cK; omega)) (by decide) (by decide)) (fun k k1 k2 => bg_Ks k2) (fun k j k1 k2 => bg_oldM k1 k2), clv_e hR.2.2.1 (cstF hb2.2.1) (fun k j hk => e k j (by have := ck_le hk; omega) (Or.inl hk) (by have := ck_le hk; omega) (by have := ck_le hk; omega)), rfv_k hR.2.2.2 (fun k j hk n1 n2 => e k j (by have := rk_le hk; omega) (Or.inr hk) n1 n2) hk9⟩)
  show bg_dc la g 0 (R' s 8) = la s
  rw [eR s 8 (by have := bg_ssl hs; omega)]
  exact bg_dcs hz hs

theorem rf_x (hb : bg g la K R M) (hg : g < 10000) (hR : REL la K M N lw A im t w f) (h : gm_at 370 pc = some (.invokestatic ix)) (hc : gm_cal (gm_ow 370) ix = some (5, mj)) (hmx : gm_ow mj ≠ gm_mxi) (hhj : ¬ gm_hh mj = []) (hna : xs.length + 2 = gm_na mj) (hlen : xs.length + 2 ≤ gm_ml mj) (hst : (st.map gm_cat).sum ≤ 8) (s0 : ∀ S ∈ l0, ck_Ok q0_O X LX mj S) (s1 : ∀ S ∈ l1, ck_Ok qL_O X LX mj S) (c0 : l0.all (fun S => w_k q0_O 0 0 1 true S && w_r true S) = true) (c1 : l1.all (fun S => w_k qL_O 246 1 1 true S && w_r true S) = true) (v0 : bc_cov 60 ds (l0.map bc_box) = true) (v1 : bc_cov 60 ds (l1.map bc_box) = true) (hx : bc_in ds xs) (hi : ∀ x ∈ xs, gm_ir x) (hbc : 6 ≤ bc) (hbs : 600 ≤ bs) (hf : ∀ z g1, bs_ok la z g1 → ¬ z = 100003 → gm_Wp X LX 279 6 600 mj 0 (gm_ent mj (gm_vr 1 :: bc_as xs true)) [] (245 + 4 * g1) (bs_K la K) (bs_R z g1) (bs_M la M) (CF c ov)) (k : mq_K X LX bc bs (pc + 3) L st Q g (fun la2 K2 M2 => REL la2 K2 M2 N lw A im t w f) (fun u M2 => cF c ov u M2)) : gm_Wp X LX 280 bc bs 370 pc L (gm_vr 245 :: ((xs.map gm_vi).reverse ++ gm_vr 1 :: st)) (245 + 4 * g) K R M Q := by
  by_cases h3 : la 3 = 0
  · have hz : bs_ok la 0 0 := Or.inl ⟨rfl, rfl, h3⟩
    have el := lw_0 hR h3
    subst el
    obtain ⟨S, hS, hin⟩ := mw_in v0 hx
    have hck := List.all_eq_true.mp c0 S hS
    simp only [Bool.and_eq_true] at hck
    obtain ⟨hck, hw⟩ := hck
    have hck2 := hck
    simp only [w_k, Bool.and_eq_true, decide_eq_true_eq] at hck2
    exact bc_statF (d' := 279) (bc' := 6) (bs' := 600) (O := q0_O) (z := 0) (g1 := 0) hb hz hg q0_nmu (fun _ _ _ _ h => q0_p h) (bs_q0 hb hR) h hc hmx hhj hna hlen hst (s0 S hS) hck2.1 (by omega) (by omega) (by omega) (by decide) hbc hbs (fun σ => bc_gas2 hck2.2.1 hin hi) (hf 0 0 hz (by decide)) (wk0_f hb h3 hw hck hR hbc hbs k)
  · have hz : bs_ok la 246 1 := Or.inr (Or.inr ⟨rfl, rfl, h3⟩)
    obtain ⟨ls, rfl⟩ := lw_1 hR h3
    obtain ⟨S, hS, hin⟩ := mw_in v1 hx
    have hck := List.all_eq_true.mp c1 S hS
    simp only [Bool.and_eq_true] at hck
    obtain ⟨hck, hw⟩ := hck
    have hck2 := hck
    simp only [w_k, Bool.and_eq_true, decide_eq_true_eq] at hck2
    exact bc_statF (d' := 279) (bc' := 6) (bs' := 600) (O := qL_O) (z := 246) (g1 := 1) hb hz hg qL_nmu (fun _ _ _ _ h => pl_o (qL_p h)) (bs_qL hb h3 hR) h hc hmx hhj hna hlen hst (s1 S hS) hck2.1 (by omega) (by omega) (by omega) (by decide) hbc hbs (fun σ => bc_gas2 hck2.2.1 hin hi) (hf 246 1 hz (by decide)) (wkL_f hb h3 hw hck hR hbc hbs k)

theorem rf_d (hb : bg g la K R M) (hg : g < 10000) (hR : REL la K M N lw A im t w f) (h : gm_at 370 pc = some (.invokevirtual ix)) (hc : gm_cal (gm_ow 370) ix = some (0, mj)) (hmx : gm_ow mj ≠ gm_mxi) (hcn : gm_cn 0 = (gm_mn mj).cls) (hna : xs.length = gm_na mj) (hlen : xs.length + 1 ≤ gm_ml mj) (hst : (st.map gm_cat).sum ≤ 8) (s0 : ∀ S ∈ l0, ck_Ok q0_O X LX mj S) (s1 : ∀ S ∈ l1, ck_Ok qL_O X LX mj S) (c0 : l0.all (fun S => w_k q0_O 0 0 1 false S && w_r true S) = true) (c1 : l1.all (fun S => w_k qL_O 246 1 1 false S && w_r true S) = true) (v0 : bc_cov 60 ds (l0.map bc_box) = true) (v1 : bc_cov 60 ds (l1.map bc_box) = true) (hx : bc_in ds xs) (hi : ∀ x ∈ xs, gm_ir x) (hbc : 6 ≤ bc) (hbs : 600 ≤ bs) (hf : ∀ z g1, bs_ok la z g1 → ¬ z = 100003 → gm_Wp X LX 279 6 600 mj 0 (gm_ent mj (gm_vr 1 :: xs.map gm_vi)) [] (245 + 4 * g1) (bs_K la K) (bs_R z g1) (bs_M la M) (CF c ov)) (k : mq_K X LX bc bs (pc + 3) L st Q g (fun la2 K2 M2 => REL la2 K2 M2 N lw A im t w f) (fun u M2 => cF c ov u M2)) : gm_Wp X LX 280 bc bs 370 pc L ((xs.map gm_vi).reverse ++ gm_vr 1 :: st) (245 + 4 * g) K R M Q := by
  by_cases h3 : la 3 = 0
  · have hz : bs_ok la 0 0 := Or.inl ⟨rfl, rfl, h3⟩
    have el := lw_0 hR h3
    subst el
    obtain ⟨S, hS, hin⟩ := mw_in v0 hx
    have hck := List.all_eq_true.mp c0 S hS
    simp only [Bool.and_eq_true] at hck
    obtain ⟨hck, hw⟩ := hck
    have hck2 := hck
    simp only [w_k, Bool.and_eq_true, decide_eq_true_eq] at hck2
    exact bc_virtF (d' := 279) (bc' := 6) (bs' := 600) (O := q0_O) (z := 0) (g1 := 0) (k1 := 1) (ci := 0) hb hz hg q0_nmu (fun _ _ _ _ h => q0_p h) (bs_q0 hb hR) ⟨by decide, by decide⟩ (mw_k1 hb).1 h hc hmx (by decide) hcn hna hlen hst (s0 S hS) hck2.1 (by omega) (by omega) (by omega) (by decide) hbc hbs (rq_as hck2.2.1 hin hi) (hf 0 0 hz (by decide)) (wk0_f hb h3 hw hck hR hbc hbs k)
  · have hz : bs_ok la 246 1 := Or.inr (Or.inr ⟨rfl, rfl, h3⟩)
    obtain ⟨ls, rfl⟩ := lw_1 hR h3
    obtain ⟨S, hS, hin⟩ := mw_in v1 hx
    have hck := List.all_eq_true.mp c1 S hS
    simp only [Bool.and_eq_true] at hck
    obtain ⟨hck, hw⟩ := hck
    have hck2 := hck
    simp only [w_k, Bool.and_eq_true, decide_eq_true_eq] at hck2
    exact bc_virtF (d' := 279) (bc' := 6) (bs' := 600) (O := qL_O) (z := 246) (g1 := 1) (k1 := 1) (ci := 0) hb hz hg qL_nmu (fun _ _ _ _ h => pl_o (qL_p h)) (bs_qL hb h3 hR) ⟨by decide, by decide⟩ (mw_k1 hb).1 h hc hmx (by decide) hcn hna hlen hst (s1 S hS) hck2.1 (by omega) (by omega) (by omega) (by decide) hbc hbs (rq_as hck2.2.1 hin hi) (hf 246 1 hz (by decide)) (wkL_f hb h3 hw hck hR hbc hbs k)

theorem rf_m (hb : bg g la K R M) (hg : g < 10000) (hR : REL la K M N lw A im t w f) (h : gm_at 370 pc = some (.invokevirtual ix)) (hc : gm_cal (gm_ow 370) ix = some (0, mj)) (hmx : gm_ow mj ≠ gm_mxi) (hcn : gm_cn 11 = (gm_mn mj).cls) (hna : xs.length = gm_na mj) (hlen : xs.length + 1 ≤ gm_ml mj) (hst : (st.map gm_cat).sum ≤ 8) (s0 : ∀ S ∈ l, ck_Ok qR_O X LX mj S) (c0 : l.all (fun S => w_kR S && (w_r true S && bc_keep S 245 0)) = true) (v0 : bc_cov 60 ds (l.map bc_box) = true) (hx : bc_in ds xs) (hi : ∀ x ∈ xs, gm_ir x) (hbc : 6 ≤ bc) (hbs : 600 ≤ bs) (hf : gm_Wp X LX 279 6 600 mj 0 (gm_ent mj (gm_vr 226 :: xs.map gm_vi)) [] 245 (bs_K la K) (bs_R 100003 0) (bs_M la M) (RF c v)) (k : mq_K X LX bc bs (pc + 3) L st Q g (fun la2 K2 M2 => REL la2 K2 M2 N lw A im t w f) (fun u M2 => rF9 c v M u M2)) : gm_Wp X LX 280 bc bs 370 pc L ((xs.map gm_vi).reverse ++ gm_vr 226 :: st) (245 + 4 * g) K R M Q := by
  obtain ⟨S, hS, hin⟩ := mw_in v0 hx
  have hck := List.all_eq_true.mp c0 S hS
  simp only [Bool.and_eq_true] at hck
  obtain ⟨hck, hw, h5⟩ := hck
  have hck2 := hck
  simp only [w_kR, Bool.and_eq_true, decide_eq_true_eq] at hck2
  exact bc_virtF (d' := 279) (bc' := 6) (bs' := 600) (O := qR_O) (z := 100003) (g1 := 0) (k1 := 226) (ci := 11) hb (Or.inr (Or.inl ⟨rfl, rfl⟩)) hg qR_nmu (fun _ _ _ _ h => qR_p h) (bs_qR hb hR) ⟨by decide, by decide⟩ (mw_k1 hb).2 h hc hmx (by decide) hcn hna hlen hst (s0 S hS) hck2.1 (by omega) (by omega) (by omega) (by decide) hbc hbs (rq_as hck2.2.1 hin hi) hf (wkR_f hb hw h5 hck hR hbc hbs k)

theorem qf_cmp {y1 y2 m : Int} (hc : gm_ir c) (h1 : gm_w y1 = gm_w c) (hv : ∀ v2, oV c v = some v2 → Int64.ofInt m = Int64.ofInt (gm_w v2)) (hy : c = 0 → gm_w y2 = gm_w v) : gm_w y1 = gm_w 0 → gm_w6 m = gm_w6 (gm_w y2) := by
  intro h0
  have e : gm_w c = c := dw_i hc
  have hc0 : c = 0 := by rw [h1, e] at h0; exact h0.trans (by decide)
  rw [hy hc0]
  exact dt_w6 (hv v (if_pos hc0))
end FX45
end
/-! 7c46.cm -/
section
/-! HOW AN ANSWER IS TOLD; FAULT. -/
/-- how an answer is told -/
theorem cf_v {q : Int × Int} {v : Int} {o2 : gm_O} {n2 : Nat} {K2 : gm_K} {R2 : gm_R} {M2 : gm_M} (hK : K2 245 = (2, 1)) (e : q = (0, v)) (ho : o2 = .inl (some (gm_vi 0))) : CF q.1 (oV q.1 q.2) o2 n2 K2 R2 (gm_uM M2 245 0 (gm_w v)) := by
  subst e
  subst ho
  refine ⟨hK, rfl, fun v2 h => ?_⟩
  have h : some v = some v2 := (if_pos rfl : oV 0 v = some v).symm.trans h
  cases h
  exact uM_at
theorem cf_x {q : Int × Int} {c : Int} {n2 : Nat} {K2 : gm_K} {R2 : gm_R} {M2 : gm_M} (hK : K2 245 = (2, 1)) (e : q = (c, 0)) (hc : ¬ c = 0) : CF q.1 (oV q.1 q.2) (.inl (some (gm_vi c))) n2 K2 R2 M2 := by
  subst e
  refine ⟨hK, rfl, fun v2 h => ?_⟩
  have h : (none : Option Int) = some v2 := (if_neg hc : oV c 0 = none).symm.trans h
  cases h
theorem rf_e {q : Int × Int} {c v x : Int} {n2 : Nat} {K2 : gm_K} {R2 : gm_R} {M2 : gm_M} (hK : K2 226 = (15, 0)) (e : q = (c, v)) (hx : c = 0 → x = v) (h0 : M2 226 0 = c) : RF q.1 q.2 (.inl (some (gm_vi x))) n2 K2 R2 M2 := by
  subst e
  exact ⟨hK, ⟨x, rfl, hx⟩, h0⟩
theorem tif_ir {P : Prop} {u v : Int × Int} (hu : gm_ir u.1) (hv : gm_ir v.1) : gm_ir (tif P u v).1 := tif_i (C := fun q : Int × Int => gm_ir q.1) hu hv
theorem tif_0 {P : Prop} {u v : Int × Int} (hu : u.1 = 0) (hv : v.1 = 0) : (tif P u v).1 = 0 := tif_i (C := fun q : Int × Int => q.1 = 0) hu hv
theorem k226 {n : Nat} {K : gm_K} {R : gm_R} (hE : E0 n K R) : K 226 = (15, 0) := (hE.1 226 (15, 0) (by decide +kernel)).2
section CM46
variable {X : Int → Int} {LX d bc bs n g z g1 : Nat} {la : Nat → Nat} {K : gm_K} {R : gm_R} {M : gm_M} {N : Int → Int} {lw : Option (List lln)} {A : List (Int → Int)} {im : Option ((Int → Int) × Option (List lln))} {t w : Int} {f : Int → Int} {a b c e : Int} {NC : Nat} {C Ln G : Int → Int}
noncomputable def q_fault (w : Int) : Int × Int := (0, w)
theorem iq_fault : gm_ir (q_fault w).1 := by
  unfold q_fault
  exact (show (-2147483648 : Int) ≤ 0 ∧ (0 : Int) < 2147483648 from by decide)
theorem z_fault : (q_fault w).1 = 0 := by
  unfold q_fault
  exact rfl
theorem cq_fault (hd : 24 ≤ d) (hbc : 4 ≤ bc) (hbs : 24 ≤ bs) (hE : E0 n K R) (hK : K 245 = (2, 1)) (hG : GJ N) (hV : CLV N lw A im t w f M) : gm_Wp X LX d bc bs 22 0 (gm_ent 22 [gm_vr 1]) [] n K R M (CF (q_fault w).2 none) := by
  refine gm_sz (gm_p_load (pc := 0) (i := .aload_n 0) (sr := 2) (j := 0) (by decide +kernel) rfl rfl rfl) ?_
  refine gm_sz (fw_gi (pc := 1) (ix := 17) (ci := 0) (j := 2) (x := w) (by decide +kernel) (e0k hE (k := 1) (c := 0) (by decide +kernel)) (by decide +kernel) (by decide +kernel) hV.2.2.2.2.1.2) ?_
  exact gm_r_int (pc := 4) (by decide +kernel) (Or.inl (by decide +kernel)) ⟨hK, rfl, fun v e => nomatch e⟩
theorem rq_fault (hd : 24 ≤ d) (hE : E0 n K R) (hS6 : NSb 6 N) (hG : GJ N) (hV : RFV N lw A im t w f M) : gm_Wp X LX d bc bs 241 0 (gm_ent 241 [gm_vr 226]) [] n K R M (RF (q_fault w).1 (q_fault w).2) := by
  have k226 := k226 hE
  refine gm_sz (gm_p_load (pc := 0) (i := .aload_n 0) (sr := 2) (j := 0) (by decide +kernel) rfl rfl rfl) ?_
  refine gm_sz (gm_p_const (pc := 1) (i := .iconst 0) (v := gm_vi 0) (by decide +kernel) (by decide +kernel)) ?_
  refine gm_sz (fw_pi (pc := 2) (ix := 3) (ci := 11) (j := 0) (M' := gm_uM M 226 0 0) (by decide +kernel) (e0k hE (k := 226) (c := 11) (by decide +kernel)) (by decide +kernel) (by decide +kernel) (by decide +kernel) rfl) ?_
  refine gm_sz (gm_p_load (pc := 5) (i := .aload_n 0) (sr := 2) (j := 0) (by decide +kernel) rfl rfl rfl) ?_
  refine gm_sz (fw_gi (pc := 6) (ix := 30) (ci := 11) (j := 13) (x := w) (by decide +kernel) (e0k hE (k := 226) (c := 11) (by decide +kernel)) (by decide +kernel) (by decide +kernel) ((uM_ne (by omega)).trans hV.2.2.2.1.2)) ?_
  exact gm_r_int (pc := 9) (by decide +kernel) (Or.inl (by decide +kernel)) ⟨k226, ⟨_, rfl, fun _ => rfl⟩, uM_at⟩
theorem fw_fault (hb : bg g la K R M) (hR : REL la K M N lw A im t w f) : ∀ z g1, bs_ok la z g1 → ¬ z = 100003 → gm_Wp X LX 279 6 600 22 0 (gm_ent 22 (gm_vr 1 :: ([] : List Int).map gm_vi)) [] (245 + 4 * g1) (bs_K la K) (bs_R z g1) (bs_M la M) (CF (q_fault w).2 none) := by
  intro z g1 hz hz3
  have hE := e0_w hb hz
  exact cq_fault (by decide) (by decide) (by decide) hE (k245 hE).2 hR.1.1 (clv_w hb hR.2.2.1)
theorem fm_fault (hb : bg g la K R M) (hR : REL la K M N lw A im t w f) : gm_Wp X LX 279 6 600 241 0 (gm_ent 241 (gm_vr 226 :: ([] : List Int).map gm_vi)) [] 245 (bs_K la K) (bs_R 100003 0) (bs_M la M) (RF (q_fault w).1 (q_fault w).2) := rq_fault (by decide) (e0_w hb (Or.inr (Or.inl ⟨rfl, rfl⟩))) (ns6 (bs_F0 (z := 100003) hb) (rfv_w (la := la) hR.2.2.2).1.1.1 hR.1.1.1.1) hR.1.1 (rfv_w hR.2.2.2)
end CM46
end
/-! 7c49.hl -/
section
/-! THE LAW'S OWN METHODS, on. -/
section HL49
variable {X : Int → Int} {LX d bc bs n : Nat} {K : gm_K} {R : gm_R} {M : gm_M} {Q : gm_Q}
theorem hl_226_3 : gm_hit (gm_ow 226) 5 3 false (gm_hh 226) = some (some 13) := by decide +kernel
theorem hl_226_0 : gm_hit (gm_ow 226) 5 0 false (gm_hh 226) = some (some 17) := by decide +kernel
theorem hl_226 {x0 x1 : Int} (k1 : (1 ≤ 1 ∧ 1 ≤ n) ∧ (K 1).1 = 0 + 4) (h : gm_Wp X LX d bc bs 227 0 (gm_ent 227 [gm_vr 1, gm_vi x0, gm_vi x1]) [] n K R M (hQ [(3, 1), (0, 2)] Q)) : gm_Wp X LX (d + 1) bc bs 226 0 (gm_ent 226 [gm_vr 1, gm_vi x0, gm_vi x1, gm_vr 245]) [] n K R M Q := by
  refine gm_sz (gm_p_load (pc := 0) (i := .aload_n 3) (sr := 2) (j := 3) (by decide +kernel) rfl rfl rfl) ?_
  refine gm_sz (gm_p_const (pc := 1) (i := .iconst 0) (v := gm_vi 0) (by decide +kernel) (by decide +kernel)) ?_
  refine gm_sz (gm_p_load (pc := 2) (i := .aload_n 0) (sr := 2) (j := 0) (by decide +kernel) rfl rfl rfl) ?_
  refine gm_sz (gm_p_load (pc := 3) (i := .iload_n 1) (sr := 0) (j := 1) (by decide +kernel) rfl rfl rfl) ?_
  refine gm_sz (gm_p_load (pc := 4) (i := .iload_n 2) (sr := 0) (j := 2) (by decide +kernel) rfl rfl rfl) ?_
  refine gm_c_virtH (k := 1) (ci := 0) (mj := 227) (ix := 123) (pc := 5) (as := [gm_vi x0, gm_vi x1]) (st := [gm_vi 0, gm_vr 245]) (d' := d) (bc' := bc) (bs' := bs) (by decide +kernel) (by decide +kernel) (by decide +kernel) k1.1 k1.2 (by decide) (by decide +kernel) (show 2 = gm_na 227 by decide +kernel) (fun v hv => by simp only [List.mem_cons, List.not_mem_nil, or_false] at hv; rcases hv with rfl | rfl <;> simp [gm_sort]) (show 2 + 1 ≤ gm_ml 227 by decide +kernel) (Nat.le_of_ble_eq_true rfl) (Nat.le_refl _) (Nat.le_refl _) (Nat.le_refl _) ?_
  refine gm_Wp_mono (fun o n1 K1 R1 M1 hq => ?_) h
  obtain ⟨⟨hn, hK⟩, hq⟩ := hq
  rcases hq with ⟨v, rfl, hq⟩ | ⟨i, hi, rfl, hq⟩
  · show gm_Wp X LX (d + 1) _ _ 226 8 (gm_ent 226 [gm_vr 1, gm_vi x0, gm_vi x1, gm_vr 245]) [gm_vi v, gm_vi 0, gm_vr 245] n1 K1 R1 M1 Q
    refine gm_sz (gm_p_i2l (pc := 8) (by decide +kernel)) ?_
    refine gm_sz (gm_p_last (pc := 9) (k := 245) (by decide +kernel) ⟨by decide, hn⟩ (by rw [hK]) (by rw [hK]; decide)) ?_
    refine gm_sz (gm_p_goto (pc := 10) (off := 11) (by decide +kernel) (by decide)) ?_
    refine gm_sz (gm_p_const (pc := 21) (i := .iconst 0) (v := gm_vi 0) (by decide +kernel) (by decide +kernel)) ?_
    exact gm_r_int (pc := 22) (by decide +kernel) (Or.inl (by decide +kernel)) hq
  · simp only [List.mem_cons, List.not_mem_nil, or_false] at hi
    rcases hi with rfl | rfl
    · show (match gm_hit (gm_ow 226) 5 3 false (gm_hh 226) with
      | some (some h) => gm_Wp X LX (d + 1) _ _ 226 h (gm_ent 226 [gm_vr 1, gm_vi x0, gm_vi x1, gm_vr 245]) [gm_vo 4000] n1 K1 R1 M1 Q
      | some none => Q (.inr 3) n1 K1 R1 M1
      | none => False)
      rw [hl_226_3]
      show gm_Wp X LX (d + 1) _ _ 226 13 (gm_ent 226 [gm_vr 1, gm_vi x0, gm_vi x1, gm_vr 245]) [gm_vo 4000] n1 K1 R1 M1 Q
      refine gm_sz (gm_p_stor (pc := 13) (i := .astore 4) (sr := 2) (j := 4) (by decide +kernel) rfl (show 5 ≤ _ from Nat.le_of_ble_eq_true rfl) rfl) ?_
      refine gm_sz (gm_p_const (pc := 15) (i := .iconst 1) (v := gm_vi 1) (by decide +kernel) (by decide +kernel)) ?_
      exact gm_r_int (pc := 16) (by decide +kernel) (Or.inl (by decide +kernel)) hq
    · show (match gm_hit (gm_ow 226) 5 0 false (gm_hh 226) with
      | some (some h) => gm_Wp X LX (d + 1) _ _ 226 h (gm_ent 226 [gm_vr 1, gm_vi x0, gm_vi x1, gm_vr 245]) [gm_vo 4000] n1 K1 R1 M1 Q
      | some none => Q (.inr 0) n1 K1 R1 M1
      | none => False)
      rw [hl_226_0]
      show gm_Wp X LX (d + 1) _ _ 226 17 (gm_ent 226 [gm_vr 1, gm_vi x0, gm_vi x1, gm_vr 245]) [gm_vo 4000] n1 K1 R1 M1 Q
      refine gm_sz (gm_p_stor (pc := 17) (i := .astore 4) (sr := 2) (j := 4) (by decide +kernel) rfl (show 5 ≤ _ from Nat.le_of_ble_eq_true rfl) rfl) ?_
      refine gm_sz (gm_p_const (pc := 19) (i := .iconst 2) (v := gm_vi 2) (by decide +kernel) (by decide +kernel)) ?_
      exact gm_r_int (pc := 20) (by decide +kernel) (Or.inl (by decide +kernel)) hq
theorem hl_228_3 : gm_hit (gm_ow 228) 5 3 false (gm_hh 228) = some (some 13) := by decide +kernel
theorem hl_228_0 : gm_hit (gm_ow 228) 5 0 false (gm_hh 228) = some (some 17) := by decide +kernel
theorem hl_228 {x0 x1 : Int} (k1 : (1 ≤ 1 ∧ 1 ≤ n) ∧ (K 1).1 = 0 + 4) (h : gm_Wp X LX d bc bs 229 0 (gm_ent 229 [gm_vr 1, gm_vi x0, gm_vi x1]) [] n K R M (hQ [(3, 1), (0, 2)] Q)) : gm_Wp X LX (d + 1) bc bs 228 0 (gm_ent 228 [gm_vr 1, gm_vi x0, gm_vi x1, gm_vr 245]) [] n K R M Q := by
  refine gm_sz (gm_p_load (pc := 0) (i := .aload_n 3) (sr := 2) (j := 3) (by decide +kernel) rfl rfl rfl) ?_
  refine gm_sz (gm_p_const (pc := 1) (i := .iconst 0) (v := gm_vi 0) (by decide +kernel) (by decide +kernel)) ?_
  refine gm_sz (gm_p_load (pc := 2) (i := .aload_n 0) (sr := 2) (j := 0) (by decide +kernel) rfl rfl rfl) ?_
  refine gm_sz (gm_p_load (pc := 3) (i := .iload_n 1) (sr := 0) (j := 1) (by decide +kernel) rfl rfl rfl) ?_
  refine gm_sz (gm_p_load (pc := 4) (i := .iload_n 2) (sr := 0) (j := 2) (by decide +kernel) rfl rfl rfl) ?_
  refine gm_c_virtH (k := 1) (ci := 0) (mj := 229) (ix := 126) (pc := 5) (as := [gm_vi x0, gm_vi x1]) (st := [gm_vi 0, gm_vr 245]) (d' := d) (bc' := bc) (bs' := bs) (by decide +kernel) (by decide +kernel) (by decide +kernel) k1.1 k1.2 (by decide) (by decide +kernel) (show 2 = gm_na 229 by decide +kernel) (fun v hv => by simp only [List.mem_cons, List.not_mem_nil, or_false] at hv; rcases hv with rfl | rfl <;> simp [gm_sort]) (show 2 + 1 ≤ gm_ml 229 by decide +kernel) (Nat.le_of_ble_eq_true rfl) (Nat.le_refl _) (Nat.le_refl _) (Nat.le_refl _) ?_
  refine gm_Wp_mono (fun o n1 K1 R1 M1 hq => ?_) h
  obtain ⟨⟨hn, hK⟩, hq⟩ := hq
  rcases hq with ⟨v, rfl, hq⟩ | ⟨i, hi, rfl, hq⟩
  · show gm_Wp X LX (d + 1) _ _ 228 8 (gm_ent 228 [gm_vr 1, gm_vi x0, gm_vi x1, gm_vr 245]) [gm_vi v, gm_vi 0, gm_vr 245] n1 K1 R1 M1 Q
    refine gm_sz (gm_p_i2l (pc := 8) (by decide +kernel)) ?_
    refine gm_sz (gm_p_last (pc := 9) (k := 245) (by decide +kernel) ⟨by decide, hn⟩ (by rw [hK]) (by rw [hK]; decide)) ?_
    refine gm_sz (gm_p_goto (pc := 10) (off := 11) (by decide +kernel) (by decide)) ?_
    refine gm_sz (gm_p_const (pc := 21) (i := .iconst 0) (v := gm_vi 0) (by decide +kernel) (by decide +kernel)) ?_
    exact gm_r_int (pc := 22) (by decide +kernel) (Or.inl (by decide +kernel)) hq
  · simp only [List.mem_cons, List.not_mem_nil, or_false] at hi
    rcases hi with rfl | rfl
    · show (match gm_hit (gm_ow 228) 5 3 false (gm_hh 228) with
      | some (some h) => gm_Wp X LX (d + 1) _ _ 228 h (gm_ent 228 [gm_vr 1, gm_vi x0, gm_vi x1, gm_vr 245]) [gm_vo 4000] n1 K1 R1 M1 Q
      | some none => Q (.inr 3) n1 K1 R1 M1
      | none => False)
      rw [hl_228_3]
      show gm_Wp X LX (d + 1) _ _ 228 13 (gm_ent 228 [gm_vr 1, gm_vi x0, gm_vi x1, gm_vr 245]) [gm_vo 4000] n1 K1 R1 M1 Q
      refine gm_sz (gm_p_stor (pc := 13) (i := .astore 4) (sr := 2) (j := 4) (by decide +kernel) rfl (show 5 ≤ _ from Nat.le_of_ble_eq_true rfl) rfl) ?_
      refine gm_sz (gm_p_const (pc := 15) (i := .iconst 1) (v := gm_vi 1) (by decide +kernel) (by decide +kernel)) ?_
      exact gm_r_int (pc := 16) (by decide +kernel) (Or.inl (by decide +kernel)) hq
    · show (match gm_hit (gm_ow 228) 5 0 false (gm_hh 228) with
      | some (some h) => gm_Wp X LX (d + 1) _ _ 228 h (gm_ent 228 [gm_vr 1, gm_vi x0, gm_vi x1, gm_vr 245]) [gm_vo 4000] n1 K1 R1 M1 Q
      | some none => Q (.inr 0) n1 K1 R1 M1
      | none => False)
      rw [hl_228_0]
      show gm_Wp X LX (d + 1) _ _ 228 17 (gm_ent 228 [gm_vr 1, gm_vi x0, gm_vi x1, gm_vr 245]) [gm_vo 4000] n1 K1 R1 M1 Q
      refine gm_sz (gm_p_stor (pc := 17) (i := .astore 4) (sr := 2) (j := 4) (by decide +kernel) rfl (show 5 ≤ _ from Nat.le_of_ble_eq_true rfl) rfl) ?_
      refine gm_sz (gm_p_const (pc := 19) (i := .iconst 2) (v := gm_vi 2) (by decide +kernel) (by decide +kernel)) ?_
      exact gm_r_int (pc := 20) (by decide +kernel) (Or.inl (by decide +kernel)) hq
theorem hl_230_0 : gm_hit (gm_ow 230) 4 0 false (gm_hh 230) = some (some 12) := by decide +kernel
theorem hl_230 {x0 : Int} (k1 : (1 ≤ 1 ∧ 1 ≤ n) ∧ (K 1).1 = 0 + 4) (h : gm_Wp X LX d bc bs 231 0 (gm_ent 231 [gm_vr 1, gm_vi x0]) [] n K R M (hQ [(0, 1)] Q)) : gm_Wp X LX (d + 1) bc bs 230 0 (gm_ent 230 [gm_vr 1, gm_vi x0, gm_vr 245]) [] n K R M Q := by
  refine gm_sz (gm_p_load (pc := 0) (i := .aload_n 2) (sr := 2) (j := 2) (by decide +kernel) rfl rfl rfl) ?_
  refine gm_sz (gm_p_const (pc := 1) (i := .iconst 0) (v := gm_vi 0) (by decide +kernel) (by decide +kernel)) ?_
  refine gm_sz (gm_p_load (pc := 2) (i := .aload_n 0) (sr := 2) (j := 0) (by decide +kernel) rfl rfl rfl) ?_
  refine gm_sz (gm_p_load (pc := 3) (i := .iload_n 1) (sr := 0) (j := 1) (by decide +kernel) rfl rfl rfl) ?_
  refine gm_c_virtH (k := 1) (ci := 0) (mj := 231) (ix := 129) (pc := 4) (as := [gm_vi x0]) (st := [gm_vi 0, gm_vr 245]) (d' := d) (bc' := bc) (bs' := bs) (by decide +kernel) (by decide +kernel) (by decide +kernel) k1.1 k1.2 (by decide) (by decide +kernel) (show 1 = gm_na 231 by decide +kernel) (fw_c1 (by simp [gm_sort])) (show 1 + 1 ≤ gm_ml 231 by decide +kernel) (Nat.le_of_ble_eq_true rfl) (Nat.le_refl _) (Nat.le_refl _) (Nat.le_refl _) ?_
  refine gm_Wp_mono (fun o n1 K1 R1 M1 hq => ?_) h
  obtain ⟨⟨hn, hK⟩, hq⟩ := hq
  rcases hq with ⟨v, rfl, hq⟩ | ⟨i, hi, rfl, hq⟩
  · show gm_Wp X LX (d + 1) _ _ 230 7 (gm_ent 230 [gm_vr 1, gm_vi x0, gm_vr 245]) [gm_vi v, gm_vi 0, gm_vr 245] n1 K1 R1 M1 Q
    refine gm_sz (gm_p_i2l (pc := 7) (by decide +kernel)) ?_
    refine gm_sz (gm_p_last (pc := 8) (k := 245) (by decide +kernel) ⟨by decide, hn⟩ (by rw [hK]) (by rw [hK]; decide)) ?_
    refine gm_sz (gm_p_goto (pc := 9) (off := 6) (by decide +kernel) (by decide)) ?_
    refine gm_sz (gm_p_const (pc := 15) (i := .iconst 0) (v := gm_vi 0) (by decide +kernel) (by decide +kernel)) ?_
    exact gm_r_int (pc := 16) (by decide +kernel) (Or.inl (by decide +kernel)) hq
  · simp only [List.mem_cons, List.not_mem_nil, or_false] at hi
    rcases hi with rfl
    · show (match gm_hit (gm_ow 230) 4 0 false (gm_hh 230) with
      | some (some h) => gm_Wp X LX (d + 1) _ _ 230 h (gm_ent 230 [gm_vr 1, gm_vi x0, gm_vr 245]) [gm_vo 4000] n1 K1 R1 M1 Q
      | some none => Q (.inr 0) n1 K1 R1 M1
      | none => False)
      rw [hl_230_0]
      show gm_Wp X LX (d + 1) _ _ 230 12 (gm_ent 230 [gm_vr 1, gm_vi x0, gm_vr 245]) [gm_vo 4000] n1 K1 R1 M1 Q
      refine gm_sz (gm_p_stor (pc := 12) (i := .astore_n 3) (sr := 2) (j := 3) (by decide +kernel) rfl (show 4 ≤ _ from Nat.le_of_ble_eq_true rfl) rfl) ?_
      refine gm_sz (gm_p_const (pc := 13) (i := .iconst 1) (v := gm_vi 1) (by decide +kernel) (by decide +kernel)) ?_
      exact gm_r_int (pc := 14) (by decide +kernel) (Or.inl (by decide +kernel)) hq
theorem hl_232_4 : gm_hit (gm_ow 232) 5 4 false (gm_hh 232) = some (some 13) := by decide +kernel
theorem hl_232 {x0 x1 : Int} (k1 : (1 ≤ 1 ∧ 1 ≤ n) ∧ (K 1).1 = 0 + 4) (h : gm_Wp X LX d bc bs 233 0 (gm_ent 233 [gm_vr 1, gm_vi x0, gm_vi x1]) [] n K R M (hQ [(4, 1)] Q)) : gm_Wp X LX (d + 1) bc bs 232 0 (gm_ent 232 [gm_vr 1, gm_vi x0, gm_vi x1, gm_vr 245]) [] n K R M Q := by
  refine gm_sz (gm_p_load (pc := 0) (i := .aload_n 3) (sr := 2) (j := 3) (by decide +kernel) rfl rfl rfl) ?_
  refine gm_sz (gm_p_const (pc := 1) (i := .iconst 0) (v := gm_vi 0) (by decide +kernel) (by decide +kernel)) ?_
  refine gm_sz (gm_p_load (pc := 2) (i := .aload_n 0) (sr := 2) (j := 0) (by decide +kernel) rfl rfl rfl) ?_
  refine gm_sz (gm_p_load (pc := 3) (i := .iload_n 1) (sr := 0) (j := 1) (by decide +kernel) rfl rfl rfl) ?_
  refine gm_sz (gm_p_load (pc := 4) (i := .iload_n 2) (sr := 0) (j := 2) (by decide +kernel) rfl rfl rfl) ?_
  refine gm_c_virtH (k := 1) (ci := 0) (mj := 233) (ix := 132) (pc := 5) (as := [gm_vi x0, gm_vi x1]) (st := [gm_vi 0, gm_vr 245]) (d' := d) (bc' := bc) (bs' := bs) (by decide +kernel) (by decide +kernel) (by decide +kernel) k1.1 k1.2 (by decide) (by decide +kernel) (show 2 = gm_na 233 by decide +kernel) (fun v hv => by simp only [List.mem_cons, List.not_mem_nil, or_false] at hv; rcases hv with rfl | rfl <;> simp [gm_sort]) (show 2 + 1 ≤ gm_ml 233 by decide +kernel) (Nat.le_of_ble_eq_true rfl) (Nat.le_refl _) (Nat.le_refl _) (Nat.le_refl _) ?_
  refine gm_Wp_mono (fun o n1 K1 R1 M1 hq => ?_) h
  obtain ⟨⟨hn, hK⟩, hq⟩ := hq
  rcases hq with ⟨v, rfl, hq⟩ | ⟨i, hi, rfl, hq⟩
  · show gm_Wp X LX (d + 1) _ _ 232 8 (gm_ent 232 [gm_vr 1, gm_vi x0, gm_vi x1, gm_vr 245]) [gm_vi v, gm_vi 0, gm_vr 245] n1 K1 R1 M1 Q
    refine gm_sz (gm_p_i2l (pc := 8) (by decide +kernel)) ?_
    refine gm_sz (gm_p_last (pc := 9) (k := 245) (by decide +kernel) ⟨by decide, hn⟩ (by rw [hK]) (by rw [hK]; decide)) ?_
    refine gm_sz (gm_p_goto (pc := 10) (off := 7) (by decide +kernel) (by decide)) ?_
    refine gm_sz (gm_p_const (pc := 17) (i := .iconst 0) (v := gm_vi 0) (by decide +kernel) (by decide +kernel)) ?_
    exact gm_r_int (pc := 18) (by decide +kernel) (Or.inl (by decide +kernel)) hq
  · simp only [List.mem_cons, List.not_mem_nil, or_false] at hi
    rcases hi with rfl
    · show (match gm_hit (gm_ow 232) 5 4 false (gm_hh 232) with
      | some (some h) => gm_Wp X LX (d + 1) _ _ 232 h (gm_ent 232 [gm_vr 1, gm_vi x0, gm_vi x1, gm_vr 245]) [gm_vo 4000] n1 K1 R1 M1 Q
      | some none => Q (.inr 4) n1 K1 R1 M1
      | none => False)
      rw [hl_232_4]
      show gm_Wp X LX (d + 1) _ _ 232 13 (gm_ent 232 [gm_vr 1, gm_vi x0, gm_vi x1, gm_vr 245]) [gm_vo 4000] n1 K1 R1 M1 Q
      refine gm_sz (gm_p_stor (pc := 13) (i := .astore 4) (sr := 2) (j := 4) (by decide +kernel) rfl (show 5 ≤ _ from Nat.le_of_ble_eq_true rfl) rfl) ?_
      refine gm_sz (gm_p_const (pc := 15) (i := .iconst 1) (v := gm_vi 1) (by decide +kernel) (by decide +kernel)) ?_
      exact gm_r_int (pc := 16) (by decide +kernel) (Or.inl (by decide +kernel)) hq
/-- what is stored of a truth -/
theorem hl_194_1 : gm_hit (gm_ow 194) 7 3 false (gm_hh 194) = some (some 22) := by decide +kernel
theorem hl_194 {x0 x1 x2 : Int} (k1 : (1 ≤ 1 ∧ 1 ≤ n) ∧ (K 1).1 = 0 + 4) (hb : ∀ (v : Int) (n1 : Nat) (K1 : gm_K) (R1 : gm_R) (M1 : gm_M), Q (.inl (some (gm_vi 0))) n1 K1 R1 (gm_uM M1 245 0 (gm_w v)) → gm_w v = 0 ∨ gm_w v = 1) (h : gm_Wp X LX d bc bs 195 0 (gm_ent 195 [gm_vr 1, gm_vi x0, gm_vi x1, gm_vi x2]) [] n K R M (hQ [(3, 1)] Q)) : gm_Wp X LX (d + 1) bc bs 194 0 (gm_ent 194 [gm_vr 1, gm_vi x0, gm_vi x1, gm_vi x2, gm_vr 245]) [] n K R M Q := by
  refine gm_sz (gm_p_load (pc := 0) (i := .aload 4) (sr := 2) (j := 4) (by decide +kernel) rfl rfl rfl) ?_
  refine gm_sz (gm_p_const (pc := 2) (i := .iconst 0) (v := gm_vi 0) (by decide +kernel) (by decide +kernel)) ?_
  refine gm_sz (gm_p_load (pc := 3) (i := .aload_n 0) (sr := 2) (j := 0) (by decide +kernel) rfl rfl rfl) ?_
  refine gm_sz (gm_p_load (pc := 4) (i := .iload_n 1) (sr := 0) (j := 1) (by decide +kernel) rfl rfl rfl) ?_
  refine gm_sz (gm_p_load (pc := 5) (i := .iload_n 2) (sr := 0) (j := 2) (by decide +kernel) rfl rfl rfl) ?_
  refine gm_sz (gm_p_load (pc := 6) (i := .iload_n 3) (sr := 0) (j := 3) (by decide +kernel) rfl rfl rfl) ?_
  refine gm_c_virtH (k := 1) (ci := 0) (mj := 195) (ix := 90) (pc := 7) (as := [gm_vi x0, gm_vi x1, gm_vi x2]) (st := [gm_vi 0, gm_vr 245]) (d' := d) (bc' := bc) (bs' := bs) (by decide +kernel) (by decide +kernel) (by decide +kernel) k1.1 k1.2 (by decide) (by decide +kernel) (show 3 = gm_na 195 by decide +kernel) (fun v hv => by simp only [List.mem_cons, List.not_mem_nil, or_false] at hv; rcases hv with rfl | rfl | rfl <;> simp [gm_sort]) (show 3 + 1 ≤ gm_ml 195 by decide +kernel) (Nat.le_of_ble_eq_true rfl) (Nat.le_refl _) (Nat.le_refl _) (Nat.le_refl _) ?_
  refine gm_Wp_mono (fun o n1 K1 R1 M1 hq => ?_) h
  obtain ⟨⟨hn, hK⟩, hq⟩ := hq
  rcases hq with ⟨v, rfl, hq⟩ | ⟨i, hi, rfl, hq⟩
  · have hv := hb v n1 K1 R1 M1 hq
    show gm_Wp X LX (d + 1) _ _ 194 10 (gm_ent 194 [gm_vr 1, gm_vi x0, gm_vi x1, gm_vi x2, gm_vr 245]) [gm_vi v, gm_vi 0, gm_vr 245] n1 K1 R1 M1 Q
    refine gm_b_if (cc := .eq) (pc := 10) (off := 7) (by decide +kernel) (by decide) (fun h => ?_) (fun h => ?_)
    · have h : gm_w v = gm_w 0 := h
      have e : gm_w v = 0 := h.trans (by decide)
      rw [e] at hq
      refine gm_sz (gm_p_const (pc := 17) (i := .lconst 0) (v := gm_vl 0) (by decide +kernel) (by decide +kernel)) ?_
      refine gm_sz (gm_p_last (pc := 18) (k := 245) (by decide +kernel) ⟨by decide, hn⟩ (by rw [hK]) (by rw [hK]; decide)) ?_
      refine gm_sz (gm_p_goto (pc := 19) (off := 7) (by decide +kernel) (by decide)) ?_
      refine gm_sz (gm_p_const (pc := 26) (i := .iconst 0) (v := gm_vi 0) (by decide +kernel) (by decide +kernel)) ?_
      exact gm_r_int (pc := 27) (by decide +kernel) (Or.inl (by decide +kernel)) hq
    · have h : ¬ gm_w v = gm_w 0 := h
      have e : gm_w v = 1 := hv.resolve_left (fun h0 => h (h0.trans (by decide)))
      rw [e] at hq
      refine gm_sz (gm_p_const (pc := 13) (i := .lconst 1) (v := gm_vl 1) (by decide +kernel) (by decide +kernel)) ?_
      refine gm_sz (gm_p_goto (pc := 14) (off := 4) (by decide +kernel) (by decide)) ?_
      refine gm_sz (gm_p_last (pc := 18) (k := 245) (by decide +kernel) ⟨by decide, hn⟩ (by rw [hK]) (by rw [hK]; decide)) ?_
      refine gm_sz (gm_p_goto (pc := 19) (off := 7) (by decide +kernel) (by decide)) ?_
      refine gm_sz (gm_p_const (pc := 26) (i := .iconst 0) (v := gm_vi 0) (by decide +kernel) (by decide +kernel)) ?_
      exact gm_r_int (pc := 27) (by decide +kernel) (Or.inl (by decide +kernel)) hq
  · simp only [List.mem_cons, List.not_mem_nil, or_false] at hi
    subst hi
    show (match gm_hit (gm_ow 194) 7 3 false (gm_hh 194) with
      | some (some h) => gm_Wp X LX (d + 1) _ _ 194 h (gm_ent 194 [gm_vr 1, gm_vi x0, gm_vi x1, gm_vi x2, gm_vr 245]) [gm_vo 4000] n1 K1 R1 M1 Q
      | some none => Q (.inr 3) n1 K1 R1 M1
      | none => False)
    rw [hl_194_1]
    show gm_Wp X LX (d + 1) _ _ 194 22 (gm_ent 194 [gm_vr 1, gm_vi x0, gm_vi x1, gm_vi x2, gm_vr 245]) [gm_vo 4000] n1 K1 R1 M1 Q
    refine gm_sz (gm_p_stor (pc := 22) (i := .astore 5) (sr := 2) (j := 5) (by decide +kernel) rfl (show 6 ≤ _ from Nat.le_of_ble_eq_true rfl) rfl) ?_
    refine gm_sz (gm_p_const (pc := 24) (i := .iconst 1) (v := gm_vi 1) (by decide +kernel) (by decide +kernel)) ?_
    exact gm_r_int (pc := 25) (by decide +kernel) (Or.inl (by decide +kernel)) hq
end HL49
end
