/-! THE LAW'S CASES (laid by wip/pp/gen99v.py). -/
section MCC
variable {X : Int → Int} {LX g bc bs : Nat} {i : Int} {la : Nat → Nat} {K : gm_K} {R : gm_R} {M : gm_M} {Q : gm_Q} {L : gm_L}
theorem mc_39 (hb : bg g la K R M) (hg : g < 9990) (hM : rl M) (hL : mn_L i L) (hi : 0 ≤ i ∧ i + 6 ≤ (LX : Int)) (hLX : LX ≤ 3072) (hX : ∀ j, gm_ir (X j)) (hbc : 12 ≤ bc) (hbs : 1200 ≤ bs) (rest : mn_R X LX bc bs i g Q) : gm_Wp X LX 280 bc bs 370 1783 L [] (245 + 4 * g) K R M Q := by
  obtain ⟨hM, hMb⟩ := hM
  refine gm_sz (gm_p_load (pc := 1783) (i := .aload_n 1) (sr := 2) (j := 1) (by decide +kernel) rfl hL.2.2.1 rfl) ?_
  refine mn_arg (pc := 1784) (j := 1) (by decide +kernel) (by decide +kernel) (by decide +kernel) (by decide +kernel) (by decide +kernel) hL hi (by decide) hLX ?_
  refine mn_arg (pc := 1790) (j := 2) (by decide +kernel) (by decide +kernel) (by decide +kernel) (by decide +kernel) (by decide +kernel) hL hi (by decide) hLX ?_
  refine gm_sz (gm_p_load (pc := 1796) (i := .aload_n 3) (sr := 2) (j := 3) (by decide +kernel) rfl hL.2.2.2.2.1 rfl) ?_
  refine mn_x (pc := 1797) (ix := 278) (mj := 226) (xs := [X (i + 1), X (i + 2)]) (st := []) (ds := [(-2147483648, 2147483647), (-2147483648, 2147483647)]) (md := 0) hb (by omega) (by decide +kernel) (by decide +kernel) (by decide +kernel) (by decide +kernel) (show 4 = gm_na 226 by decide +kernel) (show 4 ≤ gm_ml 226 by decide +kernel) (Nat.le_of_ble_eq_true rfl) hx_range_s hl_range_s hx_range_c hl_range_c hx_range_v hl_range_v (bc_in1 (mn_w (hX _)) (bc_in1 (mn_w (hX _)) bc_in0)) (List.forall_mem_cons.mpr ⟨hX _, (List.forall_mem_cons.mpr ⟨hX _, (fun _ h => nomatch h)⟩)⟩) (by omega) (by omega) (fun g1 la1 K1 R1 M1 u1 hb1 hg1 ho1 hp1 hu1 hk1 => ?_)
  have hp1 : M1 1 1 = M 1 1 := hp1
  obtain ⟨y1, rfl⟩ : ∃ y, u1 = some (gm_vi y) := hu1
  show gm_Wp X LX 280 _ _ 370 1800 L [gm_vi y1] (245 + 4 * g1) K1 R1 M1 Q
  refine gm_sz (gm_p_stor (pc := 1800) (i := .istore 5) (sr := 0) (j := 5) (by decide +kernel) rfl (by show 5 + 0 < L.length; have := hL.1; omega) rfl) ?_
  have hL5 := mn_L_s (y := y1) hL (j := 5) (Or.inl rfl)
  generalize gm_lst L 5 (gm_vi y1) = L5 at hL5 ⊢
  refine gm_sz (gm_p_load (pc := 1802) (i := .aload_n 2) (sr := 2) (j := 2) (by decide +kernel) rfl hL5.2.2.2.1 rfl) ?_
  refine mn_arg (pc := 1803) (j := 1) (by decide +kernel) (by decide +kernel) (by decide +kernel) (by decide +kernel) (by decide +kernel) hL5 hi (by decide) hLX ?_
  refine mn_arg (pc := 1809) (j := 2) (by decide +kernel) (by decide +kernel) (by decide +kernel) (by decide +kernel) (by decide +kernel) hL5 hi (by decide) hLX ?_
  refine mn_m (pc := 1815) (ix := 280) (mj := 364) (xs := [X (i + 1), X (i + 2)]) (st := []) (ds := [(-2147483648, 2147483647), (-2147483648, 2147483647)]) (md := 0) (r := true) hb1 (by omega) (by decide +kernel) (by decide +kernel) (by decide +kernel) (by decide +kernel) (show 2 = gm_na 364 by decide +kernel) (show 3 ≤ gm_ml 364 by decide +kernel) (Nat.le_of_ble_eq_true rfl) hm_range_s hm_range_c hm_range_v (bc_in1 (mn_w (hX _)) (bc_in1 (mn_w (hX _)) bc_in0)) (List.forall_mem_cons.mpr ⟨hX _, (List.forall_mem_cons.mpr ⟨hX _, (fun _ h => nomatch h)⟩)⟩) (by omega) (by omega) (fun g2 la2 K2 R2 M2 u2 hb2 hg2 ho2 hp2 hu2 hk2 => ?_)
  have hp2 : M2 226 8 = M1 226 8 := hp2
  obtain ⟨y2, rfl⟩ : ∃ y, u2 = some (gm_vi y) := hu2
  show gm_Wp X LX 280 _ _ 370 1818 L5 [gm_vi y2] (245 + 4 * g2) K2 R2 M2 Q
  refine gm_sz (gm_p_stor (pc := 1818) (i := .istore 6) (sr := 0) (j := 6) (by decide +kernel) rfl (by show 6 + 0 < L5.length; have := hL5.1; omega) rfl) ?_
  have hL6 := mn_L_s (y := y2) hL5 (j := 6) (Or.inr rfl)
  generalize gm_lst L5 6 (gm_vi y2) = L6 at hL6 ⊢
  refine gm_sz (gm_p_goto (pc := 1820) (off := 173) (by decide +kernel) (by decide)) ?_
  exact gm_Wp_wk (Nat.le_refl _) (by omega) (by omega) (rest g2 la2 K2 R2 M2 L6 hb2 (by omega) ⟨by omega, fun j j1 j2 => by have a1 := hk1 j j1 j2; have a2 := hk2 j j1 j2; have a3 := hMb j j1 j2; omega⟩ hL6)
theorem mc_40 (hb : bg g la K R M) (hg : g < 9990) (hM : rl M) (hL : mn_L i L) (hi : 0 ≤ i ∧ i + 6 ≤ (LX : Int)) (hLX : LX ≤ 3072) (hX : ∀ j, gm_ir (X j)) (hbc : 12 ≤ bc) (hbs : 1200 ≤ bs) (rest : mn_R X LX bc bs i g Q) : gm_Wp X LX 280 bc bs 370 1823 L [] (245 + 4 * g) K R M Q := by
  obtain ⟨hM, hMb⟩ := hM
  refine gm_sz (gm_p_load (pc := 1823) (i := .aload_n 1) (sr := 2) (j := 1) (by decide +kernel) rfl hL.2.2.1 rfl) ?_
  refine mn_arg (pc := 1824) (j := 1) (by decide +kernel) (by decide +kernel) (by decide +kernel) (by decide +kernel) (by decide +kernel) hL hi (by decide) hLX ?_
  refine mn_arg (pc := 1830) (j := 2) (by decide +kernel) (by decide +kernel) (by decide +kernel) (by decide +kernel) (by decide +kernel) hL hi (by decide) hLX ?_
  refine gm_sz (gm_p_load (pc := 1836) (i := .aload_n 3) (sr := 2) (j := 3) (by decide +kernel) rfl hL.2.2.2.2.1 rfl) ?_
  refine mn_x (pc := 1837) (ix := 281) (mj := 228) (xs := [X (i + 1), X (i + 2)]) (st := []) (ds := [(-2147483648, 2147483647), (-2147483648, 2147483647)]) (md := 0) hb (by omega) (by decide +kernel) (by decide +kernel) (by decide +kernel) (by decide +kernel) (show 4 = gm_na 228 by decide +kernel) (show 4 ≤ gm_ml 228 by decide +kernel) (Nat.le_of_ble_eq_true rfl) hx_swiftest_s hl_swiftest_s hx_swiftest_c hl_swiftest_c hx_swiftest_v hl_swiftest_v (bc_in1 (mn_w (hX _)) (bc_in1 (mn_w (hX _)) bc_in0)) (List.forall_mem_cons.mpr ⟨hX _, (List.forall_mem_cons.mpr ⟨hX _, (fun _ h => nomatch h)⟩)⟩) (by omega) (by omega) (fun g1 la1 K1 R1 M1 u1 hb1 hg1 ho1 hp1 hu1 hk1 => ?_)
  have hp1 : M1 1 1 = M 1 1 := hp1
  obtain ⟨y1, rfl⟩ : ∃ y, u1 = some (gm_vi y) := hu1
  show gm_Wp X LX 280 _ _ 370 1840 L [gm_vi y1] (245 + 4 * g1) K1 R1 M1 Q
  refine gm_sz (gm_p_stor (pc := 1840) (i := .istore 5) (sr := 0) (j := 5) (by decide +kernel) rfl (by show 5 + 0 < L.length; have := hL.1; omega) rfl) ?_
  have hL5 := mn_L_s (y := y1) hL (j := 5) (Or.inl rfl)
  generalize gm_lst L 5 (gm_vi y1) = L5 at hL5 ⊢
  refine gm_sz (gm_p_load (pc := 1842) (i := .aload_n 2) (sr := 2) (j := 2) (by decide +kernel) rfl hL5.2.2.2.1 rfl) ?_
  refine mn_arg (pc := 1843) (j := 1) (by decide +kernel) (by decide +kernel) (by decide +kernel) (by decide +kernel) (by decide +kernel) hL5 hi (by decide) hLX ?_
  refine mn_arg (pc := 1849) (j := 2) (by decide +kernel) (by decide +kernel) (by decide +kernel) (by decide +kernel) (by decide +kernel) hL5 hi (by decide) hLX ?_
  refine mn_m (pc := 1855) (ix := 283) (mj := 365) (xs := [X (i + 1), X (i + 2)]) (st := []) (ds := [(-2147483648, 2147483647), (-2147483648, 2147483647)]) (md := 0) (r := true) hb1 (by omega) (by decide +kernel) (by decide +kernel) (by decide +kernel) (by decide +kernel) (show 2 = gm_na 365 by decide +kernel) (show 3 ≤ gm_ml 365 by decide +kernel) (Nat.le_of_ble_eq_true rfl) hm_swiftest_s hm_swiftest_c hm_swiftest_v (bc_in1 (mn_w (hX _)) (bc_in1 (mn_w (hX _)) bc_in0)) (List.forall_mem_cons.mpr ⟨hX _, (List.forall_mem_cons.mpr ⟨hX _, (fun _ h => nomatch h)⟩)⟩) (by omega) (by omega) (fun g2 la2 K2 R2 M2 u2 hb2 hg2 ho2 hp2 hu2 hk2 => ?_)
  have hp2 : M2 226 8 = M1 226 8 := hp2
  obtain ⟨y2, rfl⟩ : ∃ y, u2 = some (gm_vi y) := hu2
  show gm_Wp X LX 280 _ _ 370 1858 L5 [gm_vi y2] (245 + 4 * g2) K2 R2 M2 Q
  refine gm_sz (gm_p_stor (pc := 1858) (i := .istore 6) (sr := 0) (j := 6) (by decide +kernel) rfl (by show 6 + 0 < L5.length; have := hL5.1; omega) rfl) ?_
  have hL6 := mn_L_s (y := y2) hL5 (j := 6) (Or.inr rfl)
  generalize gm_lst L5 6 (gm_vi y2) = L6 at hL6 ⊢
  refine gm_sz (gm_p_goto (pc := 1860) (off := 133) (by decide +kernel) (by decide)) ?_
  exact gm_Wp_wk (Nat.le_refl _) (by omega) (by omega) (rest g2 la2 K2 R2 M2 L6 hb2 (by omega) ⟨by omega, fun j j1 j2 => by have a1 := hk1 j j1 j2; have a2 := hk2 j j1 j2; have a3 := hMb j j1 j2; omega⟩ hL6)
theorem mc_41 (hb : bg g la K R M) (hg : g < 9990) (hM : rl M) (hL : mn_L i L) (hi : 0 ≤ i ∧ i + 6 ≤ (LX : Int)) (hLX : LX ≤ 3072) (hX : ∀ j, gm_ir (X j)) (hbc : 12 ≤ bc) (hbs : 1200 ≤ bs) (rest : mn_R X LX bc bs i g Q) : gm_Wp X LX 280 bc bs 370 1863 L [] (245 + 4 * g) K R M Q := by
  obtain ⟨hM, hMb⟩ := hM
  refine gm_sz (gm_p_load (pc := 1863) (i := .aload_n 1) (sr := 2) (j := 1) (by decide +kernel) rfl hL.2.2.1 rfl) ?_
  refine mn_arg (pc := 1864) (j := 1) (by decide +kernel) (by decide +kernel) (by decide +kernel) (by decide +kernel) (by decide +kernel) hL hi (by decide) hLX ?_
  refine gm_sz (gm_p_load (pc := 1870) (i := .aload_n 3) (sr := 2) (j := 3) (by decide +kernel) rfl hL.2.2.2.2.1 rfl) ?_
  refine mn_x (pc := 1871) (ix := 284) (mj := 230) (xs := [X (i + 1)]) (st := []) (ds := [(-2147483648, 2147483647)]) (md := 0) hb (by omega) (by decide +kernel) (by decide +kernel) (by decide +kernel) (by decide +kernel) (show 3 = gm_na 230 by decide +kernel) (show 3 ≤ gm_ml 230 by decide +kernel) (Nat.le_of_ble_eq_true rfl) hx_bare_s hl_bare_s hx_bare_c hl_bare_c hx_bare_v hl_bare_v (bc_in1 (mn_w (hX _)) bc_in0) (List.forall_mem_cons.mpr ⟨hX _, (fun _ h => nomatch h)⟩) (by omega) (by omega) (fun g1 la1 K1 R1 M1 u1 hb1 hg1 ho1 hp1 hu1 hk1 => ?_)
  have hp1 : M1 1 1 = M 1 1 := hp1
  obtain ⟨y1, rfl⟩ : ∃ y, u1 = some (gm_vi y) := hu1
  show gm_Wp X LX 280 _ _ 370 1874 L [gm_vi y1] (245 + 4 * g1) K1 R1 M1 Q
  refine gm_sz (gm_p_stor (pc := 1874) (i := .istore 5) (sr := 0) (j := 5) (by decide +kernel) rfl (by show 5 + 0 < L.length; have := hL.1; omega) rfl) ?_
  have hL5 := mn_L_s (y := y1) hL (j := 5) (Or.inl rfl)
  generalize gm_lst L 5 (gm_vi y1) = L5 at hL5 ⊢
  refine gm_sz (gm_p_load (pc := 1876) (i := .aload_n 2) (sr := 2) (j := 2) (by decide +kernel) rfl hL5.2.2.2.1 rfl) ?_
  refine mn_arg (pc := 1877) (j := 1) (by decide +kernel) (by decide +kernel) (by decide +kernel) (by decide +kernel) (by decide +kernel) hL5 hi (by decide) hLX ?_
  refine mn_m (pc := 1883) (ix := 286) (mj := 366) (xs := [X (i + 1)]) (st := []) (ds := [(-2147483648, 2147483647)]) (md := 0) (r := true) hb1 (by omega) (by decide +kernel) (by decide +kernel) (by decide +kernel) (by decide +kernel) (show 1 = gm_na 366 by decide +kernel) (show 2 ≤ gm_ml 366 by decide +kernel) (Nat.le_of_ble_eq_true rfl) hm_bare_s hm_bare_c hm_bare_v (bc_in1 (mn_w (hX _)) bc_in0) (List.forall_mem_cons.mpr ⟨hX _, (fun _ h => nomatch h)⟩) (by omega) (by omega) (fun g2 la2 K2 R2 M2 u2 hb2 hg2 ho2 hp2 hu2 hk2 => ?_)
  have hp2 : M2 226 8 = M1 226 8 := hp2
  obtain ⟨y2, rfl⟩ : ∃ y, u2 = some (gm_vi y) := hu2
  show gm_Wp X LX 280 _ _ 370 1886 L5 [gm_vi y2] (245 + 4 * g2) K2 R2 M2 Q
  refine gm_sz (gm_p_stor (pc := 1886) (i := .istore 6) (sr := 0) (j := 6) (by decide +kernel) rfl (by show 6 + 0 < L5.length; have := hL5.1; omega) rfl) ?_
  have hL6 := mn_L_s (y := y2) hL5 (j := 6) (Or.inr rfl)
  generalize gm_lst L5 6 (gm_vi y2) = L6 at hL6 ⊢
  refine gm_sz (gm_p_goto (pc := 1888) (off := 105) (by decide +kernel) (by decide)) ?_
  exact gm_Wp_wk (Nat.le_refl _) (by omega) (by omega) (rest g2 la2 K2 R2 M2 L6 hb2 (by omega) ⟨by omega, fun j j1 j2 => by have a1 := hk1 j j1 j2; have a2 := hk2 j j1 j2; have a3 := hMb j j1 j2; omega⟩ hL6)
theorem mc_42 (hb : bg g la K R M) (hg : g < 9990) (hM : rl M) (hL : mn_L i L) (hi : 0 ≤ i ∧ i + 6 ≤ (LX : Int)) (hLX : LX ≤ 3072) (hX : ∀ j, gm_ir (X j)) (hbc : 12 ≤ bc) (hbs : 1200 ≤ bs) (rest : mn_R X LX bc bs i g Q) : gm_Wp X LX 280 bc bs 370 1891 L [] (245 + 4 * g) K R M Q := by
  obtain ⟨hM, hMb⟩ := hM
  refine gm_sz (gm_p_load (pc := 1891) (i := .aload_n 1) (sr := 2) (j := 1) (by decide +kernel) rfl hL.2.2.1 rfl) ?_
  refine mn_arg (pc := 1892) (j := 1) (by decide +kernel) (by decide +kernel) (by decide +kernel) (by decide +kernel) (by decide +kernel) hL hi (by decide) hLX ?_
  refine mn_arg (pc := 1898) (j := 2) (by decide +kernel) (by decide +kernel) (by decide +kernel) (by decide +kernel) (by decide +kernel) hL hi (by decide) hLX ?_
  refine gm_sz (gm_p_load (pc := 1904) (i := .aload_n 3) (sr := 2) (j := 3) (by decide +kernel) rfl hL.2.2.2.2.1 rfl) ?_
  refine mn_x (pc := 1905) (ix := 287) (mj := 232) (xs := [X (i + 1), X (i + 2)]) (st := []) (ds := [(-2147483648, 2147483647), (-2147483648, 2147483647)]) (md := 0) hb (by omega) (by decide +kernel) (by decide +kernel) (by decide +kernel) (by decide +kernel) (show 4 = gm_na 232 by decide +kernel) (show 4 ≤ gm_ml 232 by decide +kernel) (Nat.le_of_ble_eq_true rfl) hx_log_s hl_log_s hx_log_c hl_log_c hx_log_v hl_log_v (bc_in1 (mn_w (hX _)) (bc_in1 (mn_w (hX _)) bc_in0)) (List.forall_mem_cons.mpr ⟨hX _, (List.forall_mem_cons.mpr ⟨hX _, (fun _ h => nomatch h)⟩)⟩) (by omega) (by omega) (fun g1 la1 K1 R1 M1 u1 hb1 hg1 ho1 hp1 hu1 hk1 => ?_)
  have hp1 : M1 1 1 = M 1 1 := hp1
  obtain ⟨y1, rfl⟩ : ∃ y, u1 = some (gm_vi y) := hu1
  show gm_Wp X LX 280 _ _ 370 1908 L [gm_vi y1] (245 + 4 * g1) K1 R1 M1 Q
  refine gm_sz (gm_p_stor (pc := 1908) (i := .istore 5) (sr := 0) (j := 5) (by decide +kernel) rfl (by show 5 + 0 < L.length; have := hL.1; omega) rfl) ?_
  have hL5 := mn_L_s (y := y1) hL (j := 5) (Or.inl rfl)
  generalize gm_lst L 5 (gm_vi y1) = L5 at hL5 ⊢
  refine gm_sz (gm_p_load (pc := 1910) (i := .aload_n 2) (sr := 2) (j := 2) (by decide +kernel) rfl hL5.2.2.2.1 rfl) ?_
  refine mn_arg (pc := 1911) (j := 1) (by decide +kernel) (by decide +kernel) (by decide +kernel) (by decide +kernel) (by decide +kernel) hL5 hi (by decide) hLX ?_
  refine mn_arg (pc := 1917) (j := 2) (by decide +kernel) (by decide +kernel) (by decide +kernel) (by decide +kernel) (by decide +kernel) hL5 hi (by decide) hLX ?_
  refine mn_m (pc := 1923) (ix := 289) (mj := 367) (xs := [X (i + 1), X (i + 2)]) (st := []) (ds := [(-2147483648, 2147483647), (-2147483648, 2147483647)]) (md := 0) (r := true) hb1 (by omega) (by decide +kernel) (by decide +kernel) (by decide +kernel) (by decide +kernel) (show 2 = gm_na 367 by decide +kernel) (show 3 ≤ gm_ml 367 by decide +kernel) (Nat.le_of_ble_eq_true rfl) hm_log_s hm_log_c hm_log_v (bc_in1 (mn_w (hX _)) (bc_in1 (mn_w (hX _)) bc_in0)) (List.forall_mem_cons.mpr ⟨hX _, (List.forall_mem_cons.mpr ⟨hX _, (fun _ h => nomatch h)⟩)⟩) (by omega) (by omega) (fun g2 la2 K2 R2 M2 u2 hb2 hg2 ho2 hp2 hu2 hk2 => ?_)
  have hp2 : M2 226 8 = M1 226 8 := hp2
  obtain ⟨y2, rfl⟩ : ∃ y, u2 = some (gm_vi y) := hu2
  show gm_Wp X LX 280 _ _ 370 1926 L5 [gm_vi y2] (245 + 4 * g2) K2 R2 M2 Q
  refine gm_sz (gm_p_stor (pc := 1926) (i := .istore 6) (sr := 0) (j := 6) (by decide +kernel) rfl (by show 6 + 0 < L5.length; have := hL5.1; omega) rfl) ?_
  have hL6 := mn_L_s (y := y2) hL5 (j := 6) (Or.inr rfl)
  generalize gm_lst L5 6 (gm_vi y2) = L6 at hL6 ⊢
  refine gm_sz (gm_p_goto (pc := 1928) (off := 65) (by decide +kernel) (by decide)) ?_
  exact gm_Wp_wk (Nat.le_refl _) (by omega) (by omega) (rest g2 la2 K2 R2 M2 L6 hb2 (by omega) ⟨by omega, fun j j1 j2 => by have a1 := hk1 j j1 j2; have a2 := hk2 j j1 j2; have a3 := hMb j j1 j2; omega⟩ hL6)
theorem mc_43 (hb : bg g la K R M) (hg : g < 9990) (hM : rl M) (hL : mn_L i L) (hi : 0 ≤ i ∧ i + 6 ≤ (LX : Int)) (hLX : LX ≤ 3072) (hX : ∀ j, gm_ir (X j)) (hbc : 12 ≤ bc) (hbs : 1200 ≤ bs) (rest : mn_R X LX bc bs i g Q) : gm_Wp X LX 280 bc bs 370 1931 L [] (245 + 4 * g) K R M Q := by
  obtain ⟨hM, hMb⟩ := hM
  refine gm_sz (gm_p_load (pc := 1931) (i := .aload_n 1) (sr := 2) (j := 1) (by decide +kernel) rfl hL.2.2.1 rfl) ?_
  refine mn_d (pc := 1932) (ix := 290) (mj := 54) (xs := []) (st := []) (ds := []) (md := 0) (r := true) hb (by omega) (by decide +kernel) (by decide +kernel) (by decide +kernel) (by decide +kernel) (show 0 = gm_na 54 by decide +kernel) (show 1 ≤ gm_ml 54 by decide +kernel) (Nat.le_of_ble_eq_true rfl) hx_undo_s hl_undo_s hx_undo_c hl_undo_c hx_undo_v hl_undo_v bc_in0 (fun _ h => nomatch h) (by omega) (by omega) (fun g1 la1 K1 R1 M1 u1 hb1 hg1 ho1 hp1 hu1 hk1 => ?_)
  have hp1 : M1 1 1 = M 1 1 := hp1
  obtain ⟨y1, rfl⟩ : ∃ y, u1 = some (gm_vi y) := hu1
  show gm_Wp X LX 280 _ _ 370 1935 L [gm_vi y1] (245 + 4 * g1) K1 R1 M1 Q
  refine gm_sz (gm_p_pop (pc := 1935) (by decide +kernel) (by simp [gm_sort])) ?_
  refine gm_sz (gm_p_load (pc := 1936) (i := .aload_n 2) (sr := 2) (j := 2) (by decide +kernel) rfl hL.2.2.2.1 rfl) ?_
  refine mn_m (pc := 1937) (ix := 294) (mj := 238) (xs := []) (st := []) (ds := []) (md := 0) (r := true) hb1 (by omega) (by decide +kernel) (by decide +kernel) (by decide +kernel) (by decide +kernel) (show 0 = gm_na 238 by decide +kernel) (show 1 ≤ gm_ml 238 by decide +kernel) (Nat.le_of_ble_eq_true rfl) hm_undo_s hm_undo_c hm_undo_v bc_in0 (fun _ h => nomatch h) (by omega) (by omega) (fun g2 la2 K2 R2 M2 u2 hb2 hg2 ho2 hp2 hu2 hk2 => ?_)
  have hp2 : M2 226 8 = M1 226 8 := hp2
  obtain ⟨y2, rfl⟩ : ∃ y, u2 = some (gm_vi y) := hu2
  show gm_Wp X LX 280 _ _ 370 1940 L [gm_vi y2] (245 + 4 * g2) K2 R2 M2 Q
  refine gm_sz (gm_p_pop (pc := 1940) (by decide +kernel) (by simp [gm_sort])) ?_
  refine gm_sz (gm_p_goto (pc := 1941) (off := 52) (by decide +kernel) (by decide)) ?_
  exact gm_Wp_wk (Nat.le_refl _) (by omega) (by omega) (rest g2 la2 K2 R2 M2 L hb2 (by omega) ⟨by omega, fun j j1 j2 => by have a1 := hk1 j j1 j2; have a2 := hk2 j j1 j2; have a3 := hMb j j1 j2; omega⟩ hL)
theorem mc_44 (hb : bg g la K R M) (hg : g < 9990) (hM : rl M) (hL : mn_L i L) (hi : 0 ≤ i ∧ i + 6 ≤ (LX : Int)) (hLX : LX ≤ 3072) (hX : ∀ j, gm_ir (X j)) (hbc : 12 ≤ bc) (hbs : 1200 ≤ bs) (rest : mn_R X LX bc bs i g Q) : gm_Wp X LX 280 bc bs 370 1944 L [] (245 + 4 * g) K R M Q := by
  obtain ⟨hM, hMb⟩ := hM
  refine gm_sz (gm_p_load (pc := 1944) (i := .aload_n 1) (sr := 2) (j := 1) (by decide +kernel) rfl hL.2.2.1 rfl) ?_
  refine mn_d (pc := 1945) (ix := 295) (mj := 59) (xs := []) (st := []) (ds := []) (md := 0) (r := false) hb (by omega) (by decide +kernel) (by decide +kernel) (by decide +kernel) (by decide +kernel) (show 0 = gm_na 59 by decide +kernel) (show 1 ≤ gm_ml 59 by decide +kernel) (Nat.le_of_ble_eq_true rfl) hx_image_s hl_image_s hx_image_c hl_image_c hx_image_v hl_image_v bc_in0 (fun _ h => nomatch h) (by omega) (by omega) (fun g1 la1 K1 R1 M1 u1 hb1 hg1 ho1 hp1 hu1 hk1 => ?_)
  have hp1 : M1 1 1 = M 1 1 := hp1
  have hu1 : u1 = none := hu1
  subst hu1
  show gm_Wp X LX 280 _ _ 370 1948 L [] (245 + 4 * g1) K1 R1 M1 Q
  refine gm_sz (gm_p_load (pc := 1948) (i := .aload_n 2) (sr := 2) (j := 2) (by decide +kernel) rfl hL.2.2.2.1 rfl) ?_
  refine mn_m (pc := 1949) (ix := 298) (mj := 236) (xs := []) (st := []) (ds := []) (md := 0) (r := false) hb1 (by omega) (by decide +kernel) (by decide +kernel) (by decide +kernel) (by decide +kernel) (show 0 = gm_na 236 by decide +kernel) (show 1 ≤ gm_ml 236 by decide +kernel) (Nat.le_of_ble_eq_true rfl) hm_image_s hm_image_c hm_image_v bc_in0 (fun _ h => nomatch h) (by omega) (by omega) (fun g2 la2 K2 R2 M2 u2 hb2 hg2 ho2 hp2 hu2 hk2 => ?_)
  have hp2 : M2 226 8 = M1 226 8 := hp2
  have hu2 : u2 = none := hu2
  subst hu2
  show gm_Wp X LX 280 _ _ 370 1952 L [] (245 + 4 * g2) K2 R2 M2 Q
  refine gm_sz (gm_p_goto (pc := 1952) (off := 41) (by decide +kernel) (by decide)) ?_
  exact gm_Wp_wk (Nat.le_refl _) (by omega) (by omega) (rest g2 la2 K2 R2 M2 L hb2 (by omega) ⟨by omega, fun j j1 j2 => by have a1 := hk1 j j1 j2; have a2 := hk2 j j1 j2; have a3 := hMb j j1 j2; omega⟩ hL)
theorem mc_45 (hb : bg g la K R M) (hg : g < 9990) (hM : rl M) (hL : mn_L i L) (hi : 0 ≤ i ∧ i + 6 ≤ (LX : Int)) (hLX : LX ≤ 3072) (hX : ∀ j, gm_ir (X j)) (hbc : 12 ≤ bc) (hbs : 1200 ≤ bs) (rest : mn_R X LX bc bs i g Q) : gm_Wp X LX 280 bc bs 370 1955 L [] (245 + 4 * g) K R M Q := by
  obtain ⟨hM, hMb⟩ := hM
  refine gm_sz (gm_p_load (pc := 1955) (i := .aload_n 1) (sr := 2) (j := 1) (by decide +kernel) rfl hL.2.2.1 rfl) ?_
  refine mn_d (pc := 1956) (ix := 299) (mj := 60) (xs := []) (st := []) (ds := []) (md := 0) (r := true) hb (by omega) (by decide +kernel) (by decide +kernel) (by decide +kernel) (by decide +kernel) (show 0 = gm_na 60 by decide +kernel) (show 1 ≤ gm_ml 60 by decide +kernel) (Nat.le_of_ble_eq_true rfl) hx_back_s hl_back_s hx_back_c hl_back_c hx_back_v hl_back_v bc_in0 (fun _ h => nomatch h) (by omega) (by omega) (fun g1 la1 K1 R1 M1 u1 hb1 hg1 ho1 hp1 hu1 hk1 => ?_)
  have hp1 : M1 1 1 = M 1 1 := hp1
  obtain ⟨y1, rfl⟩ : ∃ y, u1 = some (gm_vi y) := hu1
  show gm_Wp X LX 280 _ _ 370 1959 L [gm_vi y1] (245 + 4 * g1) K1 R1 M1 Q
  refine gm_sz (gm_p_pop (pc := 1959) (by decide +kernel) (by simp [gm_sort])) ?_
  refine gm_sz (gm_p_load (pc := 1960) (i := .aload_n 2) (sr := 2) (j := 2) (by decide +kernel) rfl hL.2.2.2.1 rfl) ?_
  refine mn_m (pc := 1961) (ix := 302) (mj := 237) (xs := []) (st := []) (ds := []) (md := 0) (r := true) hb1 (by omega) (by decide +kernel) (by decide +kernel) (by decide +kernel) (by decide +kernel) (show 0 = gm_na 237 by decide +kernel) (show 1 ≤ gm_ml 237 by decide +kernel) (Nat.le_of_ble_eq_true rfl) hm_back_s hm_back_c hm_back_v bc_in0 (fun _ h => nomatch h) (by omega) (by omega) (fun g2 la2 K2 R2 M2 u2 hb2 hg2 ho2 hp2 hu2 hk2 => ?_)
  have hp2 : M2 226 8 = M1 226 8 := hp2
  obtain ⟨y2, rfl⟩ : ∃ y, u2 = some (gm_vi y) := hu2
  show gm_Wp X LX 280 _ _ 370 1964 L [gm_vi y2] (245 + 4 * g2) K2 R2 M2 Q
  refine gm_sz (gm_p_pop (pc := 1964) (by decide +kernel) (by simp [gm_sort])) ?_
  refine gm_sz (gm_p_goto (pc := 1965) (off := 28) (by decide +kernel) (by decide)) ?_
  exact gm_Wp_wk (Nat.le_refl _) (by omega) (by omega) (rest g2 la2 K2 R2 M2 L hb2 (by omega) ⟨by omega, fun j j1 j2 => by have a1 := hk1 j j1 j2; have a2 := hk2 j j1 j2; have a3 := hMb j j1 j2; omega⟩ hL)
theorem mc_46 (hb : bg g la K R M) (hg : g < 9990) (hM : rl M) (hL : mn_L i L) (hi : 0 ≤ i ∧ i + 6 ≤ (LX : Int)) (hLX : LX ≤ 3072) (hX : ∀ j, gm_ir (X j)) (hbc : 12 ≤ bc) (hbs : 1200 ≤ bs) (rest : mn_R X LX bc bs i g Q) : gm_Wp X LX 280 bc bs 370 1968 L [] (245 + 4 * g) K R M Q := by
  obtain ⟨hM, hMb⟩ := hM
  refine gm_sz (gm_p_load (pc := 1968) (i := .aload_n 1) (sr := 2) (j := 1) (by decide +kernel) rfl hL.2.2.1 rfl) ?_
  refine mn_arg (pc := 1969) (j := 1) (by decide +kernel) (by decide +kernel) (by decide +kernel) (by decide +kernel) (by decide +kernel) hL hi (by decide) hLX ?_
  refine mn_d (pc := 1975) (ix := 303) (mj := 63) (xs := [X (i + 1)]) (st := []) (ds := [(-2147483648, 2147483647)]) (md := 0) (r := true) hb (by omega) (by decide +kernel) (by decide +kernel) (by decide +kernel) (by decide +kernel) (show 1 = gm_na 63 by decide +kernel) (show 2 ≤ gm_ml 63 by decide +kernel) (Nat.le_of_ble_eq_true rfl) hx_count_s hl_count_s hx_count_c hl_count_c hx_count_v hl_count_v (bc_in1 (mn_w (hX _)) bc_in0) (List.forall_mem_cons.mpr ⟨hX _, (fun _ h => nomatch h)⟩) (by omega) (by omega) (fun g1 la1 K1 R1 M1 u1 hb1 hg1 ho1 hp1 hu1 hk1 => ?_)
  have hp1 : M1 1 1 = M 1 1 := hp1
  obtain ⟨y1, rfl⟩ : ∃ y, u1 = some (gm_vi y) := hu1
  show gm_Wp X LX 280 _ _ 370 1978 L [gm_vi y1] (245 + 4 * g1) K1 R1 M1 Q
  refine gm_sz (gm_p_pop (pc := 1978) (by decide +kernel) (by simp [gm_sort])) ?_
  refine gm_sz (gm_p_load (pc := 1979) (i := .aload_n 2) (sr := 2) (j := 2) (by decide +kernel) rfl hL.2.2.2.1 rfl) ?_
  refine mn_arg (pc := 1980) (j := 1) (by decide +kernel) (by decide +kernel) (by decide +kernel) (by decide +kernel) (by decide +kernel) hL hi (by decide) hLX ?_
  refine mn_m (pc := 1986) (ix := 306) (mj := 368) (xs := [X (i + 1)]) (st := []) (ds := [(-2147483648, 2147483647)]) (md := 0) (r := true) hb1 (by omega) (by decide +kernel) (by decide +kernel) (by decide +kernel) (by decide +kernel) (show 1 = gm_na 368 by decide +kernel) (show 2 ≤ gm_ml 368 by decide +kernel) (Nat.le_of_ble_eq_true rfl) hm_count_s hm_count_c hm_count_v (bc_in1 (mn_w (hX _)) bc_in0) (List.forall_mem_cons.mpr ⟨hX _, (fun _ h => nomatch h)⟩) (by omega) (by omega) (fun g2 la2 K2 R2 M2 u2 hb2 hg2 ho2 hp2 hu2 hk2 => ?_)
  have hp2 : M2 226 8 = M1 226 8 := hp2
  obtain ⟨y2, rfl⟩ : ∃ y, u2 = some (gm_vi y) := hu2
  show gm_Wp X LX 280 _ _ 370 1989 L [gm_vi y2] (245 + 4 * g2) K2 R2 M2 Q
  refine gm_sz (gm_p_pop (pc := 1989) (by decide +kernel) (by simp [gm_sort])) ?_
  refine gm_sz (gm_p_goto (pc := 1990) (off := 3) (by decide +kernel) (by decide)) ?_
  exact gm_Wp_wk (Nat.le_refl _) (by omega) (by omega) (rest g2 la2 K2 R2 M2 L hb2 (by omega) ⟨by omega, fun j j1 j2 => by have a1 := hk1 j j1 j2; have a2 := hk2 j j1 j2; have a3 := hMb j j1 j2; omega⟩ hL)
end MCC
