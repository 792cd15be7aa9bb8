/-! THE LAW'S CASES (laid by wip/pp/gen99v.py). -/
section MCC
variable {X : Int → Int} {LX g bc bs : Nat} {i : Int} {la : Nat → Nat} {K : gm_K} {R : gm_R} {M : gm_M} {Q : gm_Q} {L : gm_L}
theorem mc_25 (hb : bg g la K R M) (hg : g < 9990) (hM : M 1 6 = M 226 5) (hL : mn_L i L) (hi : 0 ≤ i ∧ i + 6 ≤ (LX : Int)) (hLX : LX ≤ 3072) (hX : ∀ j, gm_ir (X j)) (hbc : 12 ≤ bc) (hbs : 1200 ≤ bs) (rest : mn_R X LX bc bs i g Q) : gm_Wp X LX 280 bc bs 369 1149 L [] (245 + 4 * g) K R M Q := by
  refine gm_sz (gm_p_load (pc := 1149) (i := .aload_n 1) (sr := 2) (j := 1) (by decide +kernel) rfl hL.2.2.1 rfl) ?_
  refine mn_arg (pc := 1150) (j := 1) (by decide +kernel) (by decide +kernel) (by decide +kernel) (by decide +kernel) (by decide +kernel) hL hi (by decide) hLX ?_
  refine mn_arg (pc := 1156) (j := 2) (by decide +kernel) (by decide +kernel) (by decide +kernel) (by decide +kernel) (by decide +kernel) hL hi (by decide) hLX ?_
  refine mn_arg (pc := 1162) (j := 3) (by decide +kernel) (by decide +kernel) (by decide +kernel) (by decide +kernel) (by decide +kernel) hL hi (by decide) hLX ?_
  refine mn_arg (pc := 1168) (j := 4) (by decide +kernel) (by decide +kernel) (by decide +kernel) (by decide +kernel) (by decide +kernel) hL hi (by decide) hLX ?_
  refine gm_sz (gm_p_load (pc := 1174) (i := .aload_n 3) (sr := 2) (j := 3) (by decide +kernel) rfl hL.2.2.2.2.1 rfl) ?_
  refine mn_x (pc := 1175) (ix := 229) (mj := 189) (xs := [X (i + 1), X (i + 2), X (i + 3), X (i + 4)]) (st := []) (ds := [(-2147483648, 2147483647), (-2147483648, 2147483647), (-2147483648, 2147483647), (-2147483648, 2147483647)]) (md := 0) hb (by omega) (by decide +kernel) (by decide +kernel) (by decide +kernel) (by decide +kernel) (show 6 = gm_na 189 by decide +kernel) (show 6 ≤ gm_ml 189 by decide +kernel) (Nat.le_of_ble_eq_true rfl) hx_wrote_s hl_wrote_s hx_wrote_c hl_wrote_c hx_wrote_v hl_wrote_v (bc_in1 (mn_w (hX _)) (bc_in1 (mn_w (hX _)) (bc_in1 (mn_w (hX _)) (bc_in1 (mn_w (hX _)) bc_in0)))) (List.forall_mem_cons.mpr ⟨hX _, (List.forall_mem_cons.mpr ⟨hX _, (List.forall_mem_cons.mpr ⟨hX _, (List.forall_mem_cons.mpr ⟨hX _, (fun _ h => nomatch h)⟩)⟩)⟩)⟩) (by omega) (by omega) (fun g1 la1 K1 R1 M1 u1 hb1 hg1 ho1 hp1 hu1 => ?_)
  have hp1 : M1 1 6 = M 1 6 := hp1
  obtain ⟨y1, rfl⟩ : ∃ y, u1 = some (gm_vi y) := hu1
  show gm_Wp X LX 280 _ _ 369 1178 L [gm_vi y1] (245 + 4 * g1) K1 R1 M1 Q
  refine gm_sz (gm_p_stor (pc := 1178) (i := .istore 5) (sr := 0) (j := 5) (by decide +kernel) rfl (by show 5 + 0 < L.length; have := hL.1; omega) rfl) ?_
  have hL5 := mn_L_s (y := y1) hL (j := 5) (Or.inl rfl)
  generalize gm_lst L 5 (gm_vi y1) = L5 at hL5 ⊢
  refine gm_sz (gm_p_load (pc := 1180) (i := .aload_n 2) (sr := 2) (j := 2) (by decide +kernel) rfl hL5.2.2.2.1 rfl) ?_
  refine mn_arg (pc := 1181) (j := 1) (by decide +kernel) (by decide +kernel) (by decide +kernel) (by decide +kernel) (by decide +kernel) hL5 hi (by decide) hLX ?_
  refine mn_arg (pc := 1187) (j := 2) (by decide +kernel) (by decide +kernel) (by decide +kernel) (by decide +kernel) (by decide +kernel) hL5 hi (by decide) hLX ?_
  refine mn_arg (pc := 1193) (j := 3) (by decide +kernel) (by decide +kernel) (by decide +kernel) (by decide +kernel) (by decide +kernel) hL5 hi (by decide) hLX ?_
  refine mn_arg (pc := 1199) (j := 4) (by decide +kernel) (by decide +kernel) (by decide +kernel) (by decide +kernel) (by decide +kernel) hL5 hi (by decide) hLX ?_
  refine mn_m (pc := 1205) (ix := 231) (mj := 340) (xs := [X (i + 1), X (i + 2), X (i + 3), X (i + 4)]) (st := []) (ds := [(-2147483648, 2147483647), (-2147483648, 2147483647), (-2147483648, 2147483647), (-2147483648, 2147483647)]) (md := 0) (r := true) hb1 (by omega) (by decide +kernel) (by decide +kernel) (by decide +kernel) (by decide +kernel) (show 4 = gm_na 340 by decide +kernel) (show 5 ≤ gm_ml 340 by decide +kernel) (Nat.le_of_ble_eq_true rfl) hm_wrote_s hm_wrote_c hm_wrote_v (bc_in1 (mn_w (hX _)) (bc_in1 (mn_w (hX _)) (bc_in1 (mn_w (hX _)) (bc_in1 (mn_w (hX _)) bc_in0)))) (List.forall_mem_cons.mpr ⟨hX _, (List.forall_mem_cons.mpr ⟨hX _, (List.forall_mem_cons.mpr ⟨hX _, (List.forall_mem_cons.mpr ⟨hX _, (fun _ h => nomatch h)⟩)⟩)⟩)⟩) (by omega) (by omega) (fun g2 la2 K2 R2 M2 u2 hb2 hg2 ho2 hp2 hu2 => ?_)
  have hp2 : M2 226 5 = M1 226 5 := hp2
  obtain ⟨y2, rfl⟩ : ∃ y, u2 = some (gm_vi y) := hu2
  show gm_Wp X LX 280 _ _ 369 1208 L5 [gm_vi y2] (245 + 4 * g2) K2 R2 M2 Q
  refine gm_sz (gm_p_stor (pc := 1208) (i := .istore 6) (sr := 0) (j := 6) (by decide +kernel) rfl (by show 6 + 0 < L5.length; have := hL5.1; omega) rfl) ?_
  have hL6 := mn_L_s (y := y2) hL5 (j := 6) (Or.inr rfl)
  generalize gm_lst L5 6 (gm_vi y2) = L6 at hL6 ⊢
  refine gm_sz (gm_p_goto (pc := 1210) (off := 755) (by decide +kernel) (by decide)) ?_
  exact gm_Wp_wk (Nat.le_refl _) (by omega) (by omega) (rest g2 la2 K2 R2 M2 L6 hb2 (by omega) (by omega) hL6)
theorem mc_26 (hb : bg g la K R M) (hg : g < 9990) (hM : M 1 6 = M 226 5) (hL : mn_L i L) (hi : 0 ≤ i ∧ i + 6 ≤ (LX : Int)) (hLX : LX ≤ 3072) (hX : ∀ j, gm_ir (X j)) (hbc : 12 ≤ bc) (hbs : 1200 ≤ bs) (rest : mn_R X LX bc bs i g Q) : gm_Wp X LX 280 bc bs 369 1213 L [] (245 + 4 * g) K R M Q := by
  refine gm_sz (gm_p_load (pc := 1213) (i := .aload_n 1) (sr := 2) (j := 1) (by decide +kernel) rfl hL.2.2.1 rfl) ?_
  refine mn_arg (pc := 1214) (j := 1) (by decide +kernel) (by decide +kernel) (by decide +kernel) (by decide +kernel) (by decide +kernel) hL hi (by decide) hLX ?_
  refine mn_arg (pc := 1220) (j := 2) (by decide +kernel) (by decide +kernel) (by decide +kernel) (by decide +kernel) (by decide +kernel) hL hi (by decide) hLX ?_
  refine gm_sz (gm_p_load (pc := 1226) (i := .aload_n 3) (sr := 2) (j := 3) (by decide +kernel) rfl hL.2.2.2.2.1 rfl) ?_
  refine mn_x (pc := 1227) (ix := 232) (mj := 191) (xs := [X (i + 1), X (i + 2)]) (st := []) (ds := [(-2147483648, 2147483647), (-2147483648, 2147483647)]) (md := 0) hb (by omega) (by decide +kernel) (by decide +kernel) (by decide +kernel) (by decide +kernel) (show 4 = gm_na 191 by decide +kernel) (show 4 ≤ gm_ml 191 by decide +kernel) (Nat.le_of_ble_eq_true rfl) hx_table_s hl_table_s hx_table_c hl_table_c hx_table_v hl_table_v (bc_in1 (mn_w (hX _)) (bc_in1 (mn_w (hX _)) bc_in0)) (List.forall_mem_cons.mpr ⟨hX _, (List.forall_mem_cons.mpr ⟨hX _, (fun _ h => nomatch h)⟩)⟩) (by omega) (by omega) (fun g1 la1 K1 R1 M1 u1 hb1 hg1 ho1 hp1 hu1 => ?_)
  have hp1 : M1 1 6 = M 1 6 := hp1
  obtain ⟨y1, rfl⟩ : ∃ y, u1 = some (gm_vi y) := hu1
  show gm_Wp X LX 280 _ _ 369 1230 L [gm_vi y1] (245 + 4 * g1) K1 R1 M1 Q
  refine gm_sz (gm_p_stor (pc := 1230) (i := .istore 5) (sr := 0) (j := 5) (by decide +kernel) rfl (by show 5 + 0 < L.length; have := hL.1; omega) rfl) ?_
  have hL5 := mn_L_s (y := y1) hL (j := 5) (Or.inl rfl)
  generalize gm_lst L 5 (gm_vi y1) = L5 at hL5 ⊢
  refine gm_sz (gm_p_load (pc := 1232) (i := .aload_n 2) (sr := 2) (j := 2) (by decide +kernel) rfl hL5.2.2.2.1 rfl) ?_
  refine mn_arg (pc := 1233) (j := 1) (by decide +kernel) (by decide +kernel) (by decide +kernel) (by decide +kernel) (by decide +kernel) hL5 hi (by decide) hLX ?_
  refine mn_arg (pc := 1239) (j := 2) (by decide +kernel) (by decide +kernel) (by decide +kernel) (by decide +kernel) (by decide +kernel) hL5 hi (by decide) hLX ?_
  refine mn_m (pc := 1245) (ix := 234) (mj := 341) (xs := [X (i + 1), X (i + 2)]) (st := []) (ds := [(-2147483648, 2147483647), (-2147483648, 2147483647)]) (md := 0) (r := true) hb1 (by omega) (by decide +kernel) (by decide +kernel) (by decide +kernel) (by decide +kernel) (show 2 = gm_na 341 by decide +kernel) (show 3 ≤ gm_ml 341 by decide +kernel) (Nat.le_of_ble_eq_true rfl) hm_table_s hm_table_c hm_table_v (bc_in1 (mn_w (hX _)) (bc_in1 (mn_w (hX _)) bc_in0)) (List.forall_mem_cons.mpr ⟨hX _, (List.forall_mem_cons.mpr ⟨hX _, (fun _ h => nomatch h)⟩)⟩) (by omega) (by omega) (fun g2 la2 K2 R2 M2 u2 hb2 hg2 ho2 hp2 hu2 => ?_)
  have hp2 : M2 226 5 = M1 226 5 := hp2
  obtain ⟨y2, rfl⟩ : ∃ y, u2 = some (gm_vi y) := hu2
  show gm_Wp X LX 280 _ _ 369 1248 L5 [gm_vi y2] (245 + 4 * g2) K2 R2 M2 Q
  refine gm_sz (gm_p_stor (pc := 1248) (i := .istore 6) (sr := 0) (j := 6) (by decide +kernel) rfl (by show 6 + 0 < L5.length; have := hL5.1; omega) rfl) ?_
  have hL6 := mn_L_s (y := y2) hL5 (j := 6) (Or.inr rfl)
  generalize gm_lst L5 6 (gm_vi y2) = L6 at hL6 ⊢
  refine gm_sz (gm_p_goto (pc := 1250) (off := 715) (by decide +kernel) (by decide)) ?_
  exact gm_Wp_wk (Nat.le_refl _) (by omega) (by omega) (rest g2 la2 K2 R2 M2 L6 hb2 (by omega) (by omega) hL6)
theorem mc_27 (hb : bg g la K R M) (hg : g < 9990) (hM : M 1 6 = M 226 5) (hL : mn_L i L) (hi : 0 ≤ i ∧ i + 6 ≤ (LX : Int)) (hLX : LX ≤ 3072) (hX : ∀ j, gm_ir (X j)) (hbc : 12 ≤ bc) (hbs : 1200 ≤ bs) (rest : mn_R X LX bc bs i g Q) : gm_Wp X LX 280 bc bs 369 1253 L [] (245 + 4 * g) K R M Q := by
  refine gm_sz (gm_p_load (pc := 1253) (i := .aload_n 1) (sr := 2) (j := 1) (by decide +kernel) rfl hL.2.2.1 rfl) ?_
  refine mn_arg (pc := 1254) (j := 1) (by decide +kernel) (by decide +kernel) (by decide +kernel) (by decide +kernel) (by decide +kernel) hL hi (by decide) hLX ?_
  refine mn_arg (pc := 1260) (j := 2) (by decide +kernel) (by decide +kernel) (by decide +kernel) (by decide +kernel) (by decide +kernel) hL hi (by decide) hLX ?_
  refine mn_arg (pc := 1266) (j := 3) (by decide +kernel) (by decide +kernel) (by decide +kernel) (by decide +kernel) (by decide +kernel) hL hi (by decide) hLX ?_
  refine gm_sz (gm_p_load (pc := 1272) (i := .aload_n 3) (sr := 2) (j := 3) (by decide +kernel) rfl hL.2.2.2.2.1 rfl) ?_
  refine mn_x (pc := 1273) (ix := 235) (mj := 194) (xs := [X (i + 1), X (i + 2), X (i + 3)]) (st := []) (ds := [(-2147483648, 2147483647), (-2147483648, 2147483647), (-2147483648, 2147483647)]) (md := 0) hb (by omega) (by decide +kernel) (by decide +kernel) (by decide +kernel) (by decide +kernel) (show 5 = gm_na 194 by decide +kernel) (show 5 ≤ gm_ml 194 by decide +kernel) (Nat.le_of_ble_eq_true rfl) hx_apart_s hl_apart_s hx_apart_c hl_apart_c hx_apart_v hl_apart_v (bc_in1 (mn_w (hX _)) (bc_in1 (mn_w (hX _)) (bc_in1 (mn_w (hX _)) bc_in0))) (List.forall_mem_cons.mpr ⟨hX _, (List.forall_mem_cons.mpr ⟨hX _, (List.forall_mem_cons.mpr ⟨hX _, (fun _ h => nomatch h)⟩)⟩)⟩) (by omega) (by omega) (fun g1 la1 K1 R1 M1 u1 hb1 hg1 ho1 hp1 hu1 => ?_)
  have hp1 : M1 1 6 = M 1 6 := hp1
  obtain ⟨y1, rfl⟩ : ∃ y, u1 = some (gm_vi y) := hu1
  show gm_Wp X LX 280 _ _ 369 1276 L [gm_vi y1] (245 + 4 * g1) K1 R1 M1 Q
  refine gm_sz (gm_p_stor (pc := 1276) (i := .istore 5) (sr := 0) (j := 5) (by decide +kernel) rfl (by show 5 + 0 < L.length; have := hL.1; omega) rfl) ?_
  have hL5 := mn_L_s (y := y1) hL (j := 5) (Or.inl rfl)
  generalize gm_lst L 5 (gm_vi y1) = L5 at hL5 ⊢
  refine gm_sz (gm_p_load (pc := 1278) (i := .aload_n 2) (sr := 2) (j := 2) (by decide +kernel) rfl hL5.2.2.2.1 rfl) ?_
  refine mn_arg (pc := 1279) (j := 1) (by decide +kernel) (by decide +kernel) (by decide +kernel) (by decide +kernel) (by decide +kernel) hL5 hi (by decide) hLX ?_
  refine mn_arg (pc := 1285) (j := 2) (by decide +kernel) (by decide +kernel) (by decide +kernel) (by decide +kernel) (by decide +kernel) hL5 hi (by decide) hLX ?_
  refine mn_arg (pc := 1291) (j := 3) (by decide +kernel) (by decide +kernel) (by decide +kernel) (by decide +kernel) (by decide +kernel) hL5 hi (by decide) hLX ?_
  refine mn_m (pc := 1297) (ix := 237) (mj := 344) (xs := [X (i + 1), X (i + 2), X (i + 3)]) (st := []) (ds := [(-2147483648, 2147483647), (-2147483648, 2147483647), (-2147483648, 2147483647)]) (md := 0) (r := true) hb1 (by omega) (by decide +kernel) (by decide +kernel) (by decide +kernel) (by decide +kernel) (show 3 = gm_na 344 by decide +kernel) (show 4 ≤ gm_ml 344 by decide +kernel) (Nat.le_of_ble_eq_true rfl) hm_apart_s hm_apart_c hm_apart_v (bc_in1 (mn_w (hX _)) (bc_in1 (mn_w (hX _)) (bc_in1 (mn_w (hX _)) bc_in0))) (List.forall_mem_cons.mpr ⟨hX _, (List.forall_mem_cons.mpr ⟨hX _, (List.forall_mem_cons.mpr ⟨hX _, (fun _ h => nomatch h)⟩)⟩)⟩) (by omega) (by omega) (fun g2 la2 K2 R2 M2 u2 hb2 hg2 ho2 hp2 hu2 => ?_)
  have hp2 : M2 226 5 = M1 226 5 := hp2
  obtain ⟨y2, rfl⟩ : ∃ y, u2 = some (gm_vi y) := hu2
  show gm_Wp X LX 280 _ _ 369 1300 L5 [gm_vi y2] (245 + 4 * g2) K2 R2 M2 Q
  refine gm_sz (gm_p_stor (pc := 1300) (i := .istore 6) (sr := 0) (j := 6) (by decide +kernel) rfl (by show 6 + 0 < L5.length; have := hL5.1; omega) rfl) ?_
  have hL6 := mn_L_s (y := y2) hL5 (j := 6) (Or.inr rfl)
  generalize gm_lst L5 6 (gm_vi y2) = L6 at hL6 ⊢
  refine gm_sz (gm_p_goto (pc := 1302) (off := 663) (by decide +kernel) (by decide)) ?_
  exact gm_Wp_wk (Nat.le_refl _) (by omega) (by omega) (rest g2 la2 K2 R2 M2 L6 hb2 (by omega) (by omega) hL6)
theorem mc_28 (hb : bg g la K R M) (hg : g < 9990) (hM : M 1 6 = M 226 5) (hL : mn_L i L) (hi : 0 ≤ i ∧ i + 6 ≤ (LX : Int)) (hLX : LX ≤ 3072) (hX : ∀ j, gm_ir (X j)) (hbc : 12 ≤ bc) (hbs : 1200 ≤ bs) (rest : mn_R X LX bc bs i g Q) : gm_Wp X LX 280 bc bs 369 1305 L [] (245 + 4 * g) K R M Q := by
  refine gm_sz (gm_p_load (pc := 1305) (i := .aload_n 1) (sr := 2) (j := 1) (by decide +kernel) rfl hL.2.2.1 rfl) ?_
  refine mn_d (pc := 1306) (ix := 238) (mj := 48) (xs := []) (st := []) (ds := []) (md := 0) (r := true) hb (by omega) (by decide +kernel) (by decide +kernel) (by decide +kernel) (by decide +kernel) (show 0 = gm_na 48 by decide +kernel) (show 1 ≤ gm_ml 48 by decide +kernel) (Nat.le_of_ble_eq_true rfl) hx_poles_s hl_poles_s hx_poles_c hl_poles_c hx_poles_v hl_poles_v bc_in0 (fun _ h => nomatch h) (by omega) (by omega) (fun g1 la1 K1 R1 M1 u1 hb1 hg1 ho1 hp1 hu1 => ?_)
  have hp1 : M1 1 6 = M 1 6 := hp1
  obtain ⟨y1, rfl⟩ : ∃ y, u1 = some (gm_vi y) := hu1
  show gm_Wp X LX 280 _ _ 369 1309 L [gm_vi y1] (245 + 4 * g1) K1 R1 M1 Q
  refine gm_sz (gm_p_pop (pc := 1309) (by decide +kernel) (by simp [gm_sort])) ?_
  refine gm_sz (gm_p_load (pc := 1310) (i := .aload_n 2) (sr := 2) (j := 2) (by decide +kernel) rfl hL.2.2.2.1 rfl) ?_
  refine mn_m (pc := 1311) (ix := 241) (mj := 347) (xs := []) (st := []) (ds := []) (md := 0) (r := true) hb1 (by omega) (by decide +kernel) (by decide +kernel) (by decide +kernel) (by decide +kernel) (show 0 = gm_na 347 by decide +kernel) (show 1 ≤ gm_ml 347 by decide +kernel) (Nat.le_of_ble_eq_true rfl) hm_poles_s hm_poles_c hm_poles_v bc_in0 (fun _ h => nomatch h) (by omega) (by omega) (fun g2 la2 K2 R2 M2 u2 hb2 hg2 ho2 hp2 hu2 => ?_)
  have hp2 : M2 226 5 = M1 226 5 := hp2
  obtain ⟨y2, rfl⟩ : ∃ y, u2 = some (gm_vi y) := hu2
  show gm_Wp X LX 280 _ _ 369 1314 L [gm_vi y2] (245 + 4 * g2) K2 R2 M2 Q
  refine gm_sz (gm_p_pop (pc := 1314) (by decide +kernel) (by simp [gm_sort])) ?_
  refine gm_sz (gm_p_goto (pc := 1315) (off := 650) (by decide +kernel) (by decide)) ?_
  exact gm_Wp_wk (Nat.le_refl _) (by omega) (by omega) (rest g2 la2 K2 R2 M2 L hb2 (by omega) (by omega) hL)
theorem mc_29 (hb : bg g la K R M) (hg : g < 9990) (hM : M 1 6 = M 226 5) (hL : mn_L i L) (hi : 0 ≤ i ∧ i + 6 ≤ (LX : Int)) (hLX : LX ≤ 3072) (hX : ∀ j, gm_ir (X j)) (hbc : 12 ≤ bc) (hbs : 1200 ≤ bs) (rest : mn_R X LX bc bs i g Q) : gm_Wp X LX 280 bc bs 369 1318 L [] (245 + 4 * g) K R M Q := by
  refine gm_sz (gm_p_load (pc := 1318) (i := .aload_n 1) (sr := 2) (j := 1) (by decide +kernel) rfl hL.2.2.1 rfl) ?_
  refine gm_sz (gm_p_load (pc := 1319) (i := .aload_n 3) (sr := 2) (j := 3) (by decide +kernel) rfl hL.2.2.2.2.1 rfl) ?_
  refine mn_x (pc := 1320) (ix := 242) (mj := 196) (xs := []) (st := []) (ds := []) (md := 0) hb (by omega) (by decide +kernel) (by decide +kernel) (by decide +kernel) (by decide +kernel) (show 2 = gm_na 196 by decide +kernel) (show 2 ≤ gm_ml 196 by decide +kernel) (Nat.le_of_ble_eq_true rfl) hx_fit_s hl_fit_s hx_fit_c hl_fit_c hx_fit_v hl_fit_v bc_in0 (fun _ h => nomatch h) (by omega) (by omega) (fun g1 la1 K1 R1 M1 u1 hb1 hg1 ho1 hp1 hu1 => ?_)
  have hp1 : M1 1 6 = M 1 6 := hp1
  obtain ⟨y1, rfl⟩ : ∃ y, u1 = some (gm_vi y) := hu1
  show gm_Wp X LX 280 _ _ 369 1323 L [gm_vi y1] (245 + 4 * g1) K1 R1 M1 Q
  refine gm_sz (gm_p_stor (pc := 1323) (i := .istore 5) (sr := 0) (j := 5) (by decide +kernel) rfl (by show 5 + 0 < L.length; have := hL.1; omega) rfl) ?_
  have hL5 := mn_L_s (y := y1) hL (j := 5) (Or.inl rfl)
  generalize gm_lst L 5 (gm_vi y1) = L5 at hL5 ⊢
  refine gm_sz (gm_p_load (pc := 1325) (i := .aload_n 2) (sr := 2) (j := 2) (by decide +kernel) rfl hL5.2.2.2.1 rfl) ?_
  refine mn_m (pc := 1326) (ix := 244) (mj := 348) (xs := []) (st := []) (ds := []) (md := 0) (r := true) hb1 (by omega) (by decide +kernel) (by decide +kernel) (by decide +kernel) (by decide +kernel) (show 0 = gm_na 348 by decide +kernel) (show 1 ≤ gm_ml 348 by decide +kernel) (Nat.le_of_ble_eq_true rfl) hm_fit_s hm_fit_c hm_fit_v bc_in0 (fun _ h => nomatch h) (by omega) (by omega) (fun g2 la2 K2 R2 M2 u2 hb2 hg2 ho2 hp2 hu2 => ?_)
  have hp2 : M2 226 5 = M1 226 5 := hp2
  obtain ⟨y2, rfl⟩ : ∃ y, u2 = some (gm_vi y) := hu2
  show gm_Wp X LX 280 _ _ 369 1329 L5 [gm_vi y2] (245 + 4 * g2) K2 R2 M2 Q
  refine gm_sz (gm_p_stor (pc := 1329) (i := .istore 6) (sr := 0) (j := 6) (by decide +kernel) rfl (by show 6 + 0 < L5.length; have := hL5.1; omega) rfl) ?_
  have hL6 := mn_L_s (y := y2) hL5 (j := 6) (Or.inr rfl)
  generalize gm_lst L5 6 (gm_vi y2) = L6 at hL6 ⊢
  refine gm_sz (gm_p_goto (pc := 1331) (off := 634) (by decide +kernel) (by decide)) ?_
  exact gm_Wp_wk (Nat.le_refl _) (by omega) (by omega) (rest g2 la2 K2 R2 M2 L6 hb2 (by omega) (by omega) hL6)
theorem mc_30 (hb : bg g la K R M) (hg : g < 9990) (hM : M 1 6 = M 226 5) (hL : mn_L i L) (hi : 0 ≤ i ∧ i + 6 ≤ (LX : Int)) (hLX : LX ≤ 3072) (hX : ∀ j, gm_ir (X j)) (hbc : 12 ≤ bc) (hbs : 1200 ≤ bs) (rest : mn_R X LX bc bs i g Q) : gm_Wp X LX 280 bc bs 369 1334 L [] (245 + 4 * g) K R M Q := by
  refine gm_sz (gm_p_load (pc := 1334) (i := .aload_n 1) (sr := 2) (j := 1) (by decide +kernel) rfl hL.2.2.1 rfl) ?_
  refine mn_arg (pc := 1335) (j := 1) (by decide +kernel) (by decide +kernel) (by decide +kernel) (by decide +kernel) (by decide +kernel) hL hi (by decide) hLX ?_
  refine mn_arg (pc := 1341) (j := 2) (by decide +kernel) (by decide +kernel) (by decide +kernel) (by decide +kernel) (by decide +kernel) hL hi (by decide) hLX ?_
  refine mn_arg (pc := 1347) (j := 3) (by decide +kernel) (by decide +kernel) (by decide +kernel) (by decide +kernel) (by decide +kernel) hL hi (by decide) hLX ?_
  refine mn_bool (pc := 1353) (by decide +kernel) (by decide +kernel) (by decide +kernel) (by decide +kernel) (fun b1 p1 q1 => ?_)
  refine gm_sz (gm_p_load (pc := 1361) (i := .aload_n 3) (sr := 2) (j := 3) (by decide +kernel) rfl hL.2.2.2.2.1 rfl) ?_
  refine mn_x (pc := 1362) (ix := 245) (mj := 200) (xs := [X (i + 1), X (i + 2), b1]) (st := []) (ds := [(-2147483648, 2147483647), (-2147483648, 2147483647), (0, 1)]) (md := 0) hb (by omega) (by decide +kernel) (by decide +kernel) (by decide +kernel) (by decide +kernel) (show 5 = gm_na 200 by decide +kernel) (show 5 ≤ gm_ml 200 by decide +kernel) (Nat.le_of_ble_eq_true rfl) hx_soonest_s hl_soonest_s hx_soonest_c hl_soonest_c hx_soonest_v hl_soonest_v (bc_in1 (mn_w (hX _)) (bc_in1 (mn_w (hX _)) (bc_in1 ⟨p1, q1⟩ bc_in0))) (List.forall_mem_cons.mpr ⟨hX _, (List.forall_mem_cons.mpr ⟨hX _, (List.forall_mem_cons.mpr ⟨⟨by omega, by omega⟩, (fun _ h => nomatch h)⟩)⟩)⟩) (by omega) (by omega) (fun g1 la1 K1 R1 M1 u1 hb1 hg1 ho1 hp1 hu1 => ?_)
  have hp1 : M1 1 6 = M 1 6 := hp1
  obtain ⟨y1, rfl⟩ : ∃ y, u1 = some (gm_vi y) := hu1
  show gm_Wp X LX 280 _ _ 369 1365 L [gm_vi y1] (245 + 4 * g1) K1 R1 M1 Q
  refine gm_sz (gm_p_stor (pc := 1365) (i := .istore 5) (sr := 0) (j := 5) (by decide +kernel) rfl (by show 5 + 0 < L.length; have := hL.1; omega) rfl) ?_
  have hL5 := mn_L_s (y := y1) hL (j := 5) (Or.inl rfl)
  generalize gm_lst L 5 (gm_vi y1) = L5 at hL5 ⊢
  refine gm_sz (gm_p_load (pc := 1367) (i := .aload_n 2) (sr := 2) (j := 2) (by decide +kernel) rfl hL5.2.2.2.1 rfl) ?_
  refine mn_arg (pc := 1368) (j := 1) (by decide +kernel) (by decide +kernel) (by decide +kernel) (by decide +kernel) (by decide +kernel) hL5 hi (by decide) hLX ?_
  refine mn_arg (pc := 1374) (j := 2) (by decide +kernel) (by decide +kernel) (by decide +kernel) (by decide +kernel) (by decide +kernel) hL5 hi (by decide) hLX ?_
  refine mn_arg (pc := 1380) (j := 3) (by decide +kernel) (by decide +kernel) (by decide +kernel) (by decide +kernel) (by decide +kernel) hL5 hi (by decide) hLX ?_
  refine mn_bool (pc := 1386) (by decide +kernel) (by decide +kernel) (by decide +kernel) (by decide +kernel) (fun b2 p2 q2 => ?_)
  refine mn_m (pc := 1394) (ix := 248) (mj := 349) (xs := [X (i + 1), X (i + 2), b2]) (st := []) (ds := [(-2147483648, 2147483647), (-2147483648, 2147483647), (0, 1)]) (md := 0) (r := true) hb1 (by omega) (by decide +kernel) (by decide +kernel) (by decide +kernel) (by decide +kernel) (show 3 = gm_na 349 by decide +kernel) (show 4 ≤ gm_ml 349 by decide +kernel) (Nat.le_of_ble_eq_true rfl) hm_soonest_s hm_soonest_c hm_soonest_v (bc_in1 (mn_w (hX _)) (bc_in1 (mn_w (hX _)) (bc_in1 ⟨p2, q2⟩ bc_in0))) (List.forall_mem_cons.mpr ⟨hX _, (List.forall_mem_cons.mpr ⟨hX _, (List.forall_mem_cons.mpr ⟨⟨by omega, by omega⟩, (fun _ h => nomatch h)⟩)⟩)⟩) (by omega) (by omega) (fun g2 la2 K2 R2 M2 u2 hb2 hg2 ho2 hp2 hu2 => ?_)
  have hp2 : M2 226 5 = M1 226 5 := hp2
  obtain ⟨y2, rfl⟩ : ∃ y, u2 = some (gm_vi y) := hu2
  show gm_Wp X LX 280 _ _ 369 1397 L5 [gm_vi y2] (245 + 4 * g2) K2 R2 M2 Q
  refine gm_sz (gm_p_stor (pc := 1397) (i := .istore 6) (sr := 0) (j := 6) (by decide +kernel) rfl (by show 6 + 0 < L5.length; have := hL5.1; omega) rfl) ?_
  have hL6 := mn_L_s (y := y2) hL5 (j := 6) (Or.inr rfl)
  generalize gm_lst L5 6 (gm_vi y2) = L6 at hL6 ⊢
  refine gm_sz (gm_p_goto (pc := 1399) (off := 566) (by decide +kernel) (by decide)) ?_
  exact gm_Wp_wk (Nat.le_refl _) (by omega) (by omega) (rest g2 la2 K2 R2 M2 L6 hb2 (by omega) (by omega) hL6)
theorem mc_31 (hb : bg g la K R M) (hg : g < 9990) (hM : M 1 6 = M 226 5) (hL : mn_L i L) (hi : 0 ≤ i ∧ i + 6 ≤ (LX : Int)) (hLX : LX ≤ 3072) (hX : ∀ j, gm_ir (X j)) (hbc : 12 ≤ bc) (hbs : 1200 ≤ bs) (rest : mn_R X LX bc bs i g Q) : gm_Wp X LX 280 bc bs 369 1402 L [] (245 + 4 * g) K R M Q := by
  refine gm_sz (gm_p_load (pc := 1402) (i := .aload_n 1) (sr := 2) (j := 1) (by decide +kernel) rfl hL.2.2.1 rfl) ?_
  refine mn_arg (pc := 1403) (j := 1) (by decide +kernel) (by decide +kernel) (by decide +kernel) (by decide +kernel) (by decide +kernel) hL hi (by decide) hLX ?_
  refine mn_arg (pc := 1409) (j := 2) (by decide +kernel) (by decide +kernel) (by decide +kernel) (by decide +kernel) (by decide +kernel) hL hi (by decide) hLX ?_
  refine mn_arg (pc := 1415) (j := 3) (by decide +kernel) (by decide +kernel) (by decide +kernel) (by decide +kernel) (by decide +kernel) hL hi (by decide) hLX ?_
  refine gm_sz (gm_p_load (pc := 1421) (i := .aload_n 3) (sr := 2) (j := 3) (by decide +kernel) rfl hL.2.2.2.2.1 rfl) ?_
  refine mn_x (pc := 1422) (ix := 249) (mj := 206) (xs := [X (i + 1), X (i + 2), X (i + 3)]) (st := []) (ds := [(-2147483648, 2147483647), (-2147483648, 2147483647), (-2147483648, 2147483647)]) (md := 0) hb (by omega) (by decide +kernel) (by decide +kernel) (by decide +kernel) (by decide +kernel) (show 5 = gm_na 206 by decide +kernel) (show 5 ≤ gm_ml 206 by decide +kernel) (Nat.le_of_ble_eq_true rfl) hx_chain_s hl_chain_s hx_chain_c hl_chain_c hx_chain_v hl_chain_v (bc_in1 (mn_w (hX _)) (bc_in1 (mn_w (hX _)) (bc_in1 (mn_w (hX _)) bc_in0))) (List.forall_mem_cons.mpr ⟨hX _, (List.forall_mem_cons.mpr ⟨hX _, (List.forall_mem_cons.mpr ⟨hX _, (fun _ h => nomatch h)⟩)⟩)⟩) (by omega) (by omega) (fun g1 la1 K1 R1 M1 u1 hb1 hg1 ho1 hp1 hu1 => ?_)
  have hp1 : M1 1 6 = M 1 6 := hp1
  obtain ⟨y1, rfl⟩ : ∃ y, u1 = some (gm_vi y) := hu1
  show gm_Wp X LX 280 _ _ 369 1425 L [gm_vi y1] (245 + 4 * g1) K1 R1 M1 Q
  refine gm_sz (gm_p_stor (pc := 1425) (i := .istore 5) (sr := 0) (j := 5) (by decide +kernel) rfl (by show 5 + 0 < L.length; have := hL.1; omega) rfl) ?_
  have hL5 := mn_L_s (y := y1) hL (j := 5) (Or.inl rfl)
  generalize gm_lst L 5 (gm_vi y1) = L5 at hL5 ⊢
  refine gm_sz (gm_p_load (pc := 1427) (i := .aload_n 2) (sr := 2) (j := 2) (by decide +kernel) rfl hL5.2.2.2.1 rfl) ?_
  refine mn_arg (pc := 1428) (j := 1) (by decide +kernel) (by decide +kernel) (by decide +kernel) (by decide +kernel) (by decide +kernel) hL5 hi (by decide) hLX ?_
  refine mn_arg (pc := 1434) (j := 2) (by decide +kernel) (by decide +kernel) (by decide +kernel) (by decide +kernel) (by decide +kernel) hL5 hi (by decide) hLX ?_
  refine mn_arg (pc := 1440) (j := 3) (by decide +kernel) (by decide +kernel) (by decide +kernel) (by decide +kernel) (by decide +kernel) hL5 hi (by decide) hLX ?_
  refine mn_m (pc := 1446) (ix := 251) (mj := 354) (xs := [X (i + 1), X (i + 2), X (i + 3)]) (st := []) (ds := [(-2147483648, 2147483647), (-2147483648, 2147483647), (-2147483648, 2147483647)]) (md := 0) (r := true) hb1 (by omega) (by decide +kernel) (by decide +kernel) (by decide +kernel) (by decide +kernel) (show 3 = gm_na 354 by decide +kernel) (show 4 ≤ gm_ml 354 by decide +kernel) (Nat.le_of_ble_eq_true rfl) hm_chain_s hm_chain_c hm_chain_v (bc_in1 (mn_w (hX _)) (bc_in1 (mn_w (hX _)) (bc_in1 (mn_w (hX _)) bc_in0))) (List.forall_mem_cons.mpr ⟨hX _, (List.forall_mem_cons.mpr ⟨hX _, (List.forall_mem_cons.mpr ⟨hX _, (fun _ h => nomatch h)⟩)⟩)⟩) (by omega) (by omega) (fun g2 la2 K2 R2 M2 u2 hb2 hg2 ho2 hp2 hu2 => ?_)
  have hp2 : M2 226 5 = M1 226 5 := hp2
  obtain ⟨y2, rfl⟩ : ∃ y, u2 = some (gm_vi y) := hu2
  show gm_Wp X LX 280 _ _ 369 1449 L5 [gm_vi y2] (245 + 4 * g2) K2 R2 M2 Q
  refine gm_sz (gm_p_stor (pc := 1449) (i := .istore 6) (sr := 0) (j := 6) (by decide +kernel) rfl (by show 6 + 0 < L5.length; have := hL5.1; omega) rfl) ?_
  have hL6 := mn_L_s (y := y2) hL5 (j := 6) (Or.inr rfl)
  generalize gm_lst L5 6 (gm_vi y2) = L6 at hL6 ⊢
  refine gm_sz (gm_p_goto (pc := 1451) (off := 514) (by decide +kernel) (by decide)) ?_
  exact gm_Wp_wk (Nat.le_refl _) (by omega) (by omega) (rest g2 la2 K2 R2 M2 L6 hb2 (by omega) (by omega) hL6)
theorem mc_32 (hb : bg g la K R M) (hg : g < 9990) (hM : M 1 6 = M 226 5) (hL : mn_L i L) (hi : 0 ≤ i ∧ i + 6 ≤ (LX : Int)) (hLX : LX ≤ 3072) (hX : ∀ j, gm_ir (X j)) (hbc : 12 ≤ bc) (hbs : 1200 ≤ bs) (rest : mn_R X LX bc bs i g Q) : gm_Wp X LX 280 bc bs 369 1454 L [] (245 + 4 * g) K R M Q := by
  refine gm_sz (gm_p_load (pc := 1454) (i := .aload_n 1) (sr := 2) (j := 1) (by decide +kernel) rfl hL.2.2.1 rfl) ?_
  refine mn_arg (pc := 1455) (j := 1) (by decide +kernel) (by decide +kernel) (by decide +kernel) (by decide +kernel) (by decide +kernel) hL hi (by decide) hLX ?_
  refine mn_arg (pc := 1461) (j := 2) (by decide +kernel) (by decide +kernel) (by decide +kernel) (by decide +kernel) (by decide +kernel) hL hi (by decide) hLX ?_
  refine gm_sz (gm_p_load (pc := 1467) (i := .aload_n 3) (sr := 2) (j := 3) (by decide +kernel) rfl hL.2.2.2.2.1 rfl) ?_
  refine mn_x (pc := 1468) (ix := 252) (mj := 210) (xs := [X (i + 1), X (i + 2)]) (st := []) (ds := [(-2147483648, 2147483647), (-2147483648, 2147483647)]) (md := 0) hb (by omega) (by decide +kernel) (by decide +kernel) (by decide +kernel) (by decide +kernel) (show 4 = gm_na 210 by decide +kernel) (show 4 ≤ gm_ml 210 by decide +kernel) (Nat.le_of_ble_eq_true rfl) hx_reached_s hl_reached_s hx_reached_c hl_reached_c hx_reached_v hl_reached_v (bc_in1 (mn_w (hX _)) (bc_in1 (mn_w (hX _)) bc_in0)) (List.forall_mem_cons.mpr ⟨hX _, (List.forall_mem_cons.mpr ⟨hX _, (fun _ h => nomatch h)⟩)⟩) (by omega) (by omega) (fun g1 la1 K1 R1 M1 u1 hb1 hg1 ho1 hp1 hu1 => ?_)
  have hp1 : M1 1 6 = M 1 6 := hp1
  obtain ⟨y1, rfl⟩ : ∃ y, u1 = some (gm_vi y) := hu1
  show gm_Wp X LX 280 _ _ 369 1471 L [gm_vi y1] (245 + 4 * g1) K1 R1 M1 Q
  refine gm_sz (gm_p_stor (pc := 1471) (i := .istore 5) (sr := 0) (j := 5) (by decide +kernel) rfl (by show 5 + 0 < L.length; have := hL.1; omega) rfl) ?_
  have hL5 := mn_L_s (y := y1) hL (j := 5) (Or.inl rfl)
  generalize gm_lst L 5 (gm_vi y1) = L5 at hL5 ⊢
  refine gm_sz (gm_p_load (pc := 1473) (i := .aload_n 2) (sr := 2) (j := 2) (by decide +kernel) rfl hL5.2.2.2.1 rfl) ?_
  refine mn_arg (pc := 1474) (j := 1) (by decide +kernel) (by decide +kernel) (by decide +kernel) (by decide +kernel) (by decide +kernel) hL5 hi (by decide) hLX ?_
  refine mn_arg (pc := 1480) (j := 2) (by decide +kernel) (by decide +kernel) (by decide +kernel) (by decide +kernel) (by decide +kernel) hL5 hi (by decide) hLX ?_
  refine mn_m (pc := 1486) (ix := 254) (mj := 356) (xs := [X (i + 1), X (i + 2)]) (st := []) (ds := [(-2147483648, 2147483647), (-2147483648, 2147483647)]) (md := 0) (r := true) hb1 (by omega) (by decide +kernel) (by decide +kernel) (by decide +kernel) (by decide +kernel) (show 2 = gm_na 356 by decide +kernel) (show 3 ≤ gm_ml 356 by decide +kernel) (Nat.le_of_ble_eq_true rfl) hm_reached_s hm_reached_c hm_reached_v (bc_in1 (mn_w (hX _)) (bc_in1 (mn_w (hX _)) bc_in0)) (List.forall_mem_cons.mpr ⟨hX _, (List.forall_mem_cons.mpr ⟨hX _, (fun _ h => nomatch h)⟩)⟩) (by omega) (by omega) (fun g2 la2 K2 R2 M2 u2 hb2 hg2 ho2 hp2 hu2 => ?_)
  have hp2 : M2 226 5 = M1 226 5 := hp2
  obtain ⟨y2, rfl⟩ : ∃ y, u2 = some (gm_vi y) := hu2
  show gm_Wp X LX 280 _ _ 369 1489 L5 [gm_vi y2] (245 + 4 * g2) K2 R2 M2 Q
  refine gm_sz (gm_p_stor (pc := 1489) (i := .istore 6) (sr := 0) (j := 6) (by decide +kernel) rfl (by show 6 + 0 < L5.length; have := hL5.1; omega) rfl) ?_
  have hL6 := mn_L_s (y := y2) hL5 (j := 6) (Or.inr rfl)
  generalize gm_lst L5 6 (gm_vi y2) = L6 at hL6 ⊢
  refine gm_sz (gm_p_goto (pc := 1491) (off := 474) (by decide +kernel) (by decide)) ?_
  exact gm_Wp_wk (Nat.le_refl _) (by omega) (by omega) (rest g2 la2 K2 R2 M2 L6 hb2 (by omega) (by omega) hL6)
theorem mc_33 (hb : bg g la K R M) (hg : g < 9990) (hM : M 1 6 = M 226 5) (hL : mn_L i L) (hi : 0 ≤ i ∧ i + 6 ≤ (LX : Int)) (hLX : LX ≤ 3072) (hX : ∀ j, gm_ir (X j)) (hbc : 12 ≤ bc) (hbs : 1200 ≤ bs) (rest : mn_R X LX bc bs i g Q) : gm_Wp X LX 280 bc bs 369 1494 L [] (245 + 4 * g) K R M Q := by
  refine gm_sz (gm_p_load (pc := 1494) (i := .aload_n 1) (sr := 2) (j := 1) (by decide +kernel) rfl hL.2.2.1 rfl) ?_
  refine mn_arg (pc := 1495) (j := 1) (by decide +kernel) (by decide +kernel) (by decide +kernel) (by decide +kernel) (by decide +kernel) hL hi (by decide) hLX ?_
  refine mn_arg (pc := 1501) (j := 2) (by decide +kernel) (by decide +kernel) (by decide +kernel) (by decide +kernel) (by decide +kernel) hL hi (by decide) hLX ?_
  refine mn_bool (pc := 1507) (by decide +kernel) (by decide +kernel) (by decide +kernel) (by decide +kernel) (fun b1 p1 q1 => ?_)
  refine gm_sz (gm_p_load (pc := 1515) (i := .aload_n 3) (sr := 2) (j := 3) (by decide +kernel) rfl hL.2.2.2.2.1 rfl) ?_
  refine mn_x (pc := 1516) (ix := 255) (mj := 212) (xs := [X (i + 1), b1]) (st := []) (ds := [(-2147483648, 2147483647), (0, 1)]) (md := 0) hb (by omega) (by decide +kernel) (by decide +kernel) (by decide +kernel) (by decide +kernel) (show 4 = gm_na 212 by decide +kernel) (show 4 ≤ gm_ml 212 by decide +kernel) (Nat.le_of_ble_eq_true rfl) hx_thieves_s hl_thieves_s hx_thieves_c hl_thieves_c hx_thieves_v hl_thieves_v (bc_in1 (mn_w (hX _)) (bc_in1 ⟨p1, q1⟩ bc_in0)) (List.forall_mem_cons.mpr ⟨hX _, (List.forall_mem_cons.mpr ⟨⟨by omega, by omega⟩, (fun _ h => nomatch h)⟩)⟩) (by omega) (by omega) (fun g1 la1 K1 R1 M1 u1 hb1 hg1 ho1 hp1 hu1 => ?_)
  have hp1 : M1 1 6 = M 1 6 := hp1
  obtain ⟨y1, rfl⟩ : ∃ y, u1 = some (gm_vi y) := hu1
  show gm_Wp X LX 280 _ _ 369 1519 L [gm_vi y1] (245 + 4 * g1) K1 R1 M1 Q
  refine gm_sz (gm_p_stor (pc := 1519) (i := .istore 5) (sr := 0) (j := 5) (by decide +kernel) rfl (by show 5 + 0 < L.length; have := hL.1; omega) rfl) ?_
  have hL5 := mn_L_s (y := y1) hL (j := 5) (Or.inl rfl)
  generalize gm_lst L 5 (gm_vi y1) = L5 at hL5 ⊢
  refine gm_sz (gm_p_load (pc := 1521) (i := .aload_n 2) (sr := 2) (j := 2) (by decide +kernel) rfl hL5.2.2.2.1 rfl) ?_
  refine mn_arg (pc := 1522) (j := 1) (by decide +kernel) (by decide +kernel) (by decide +kernel) (by decide +kernel) (by decide +kernel) hL5 hi (by decide) hLX ?_
  refine mn_arg (pc := 1528) (j := 2) (by decide +kernel) (by decide +kernel) (by decide +kernel) (by decide +kernel) (by decide +kernel) hL5 hi (by decide) hLX ?_
  refine mn_bool (pc := 1534) (by decide +kernel) (by decide +kernel) (by decide +kernel) (by decide +kernel) (fun b2 p2 q2 => ?_)
  refine mn_m (pc := 1542) (ix := 258) (mj := 357) (xs := [X (i + 1), b2]) (st := []) (ds := [(-2147483648, 2147483647), (0, 1)]) (md := 0) (r := true) hb1 (by omega) (by decide +kernel) (by decide +kernel) (by decide +kernel) (by decide +kernel) (show 2 = gm_na 357 by decide +kernel) (show 3 ≤ gm_ml 357 by decide +kernel) (Nat.le_of_ble_eq_true rfl) hm_thieves_s hm_thieves_c hm_thieves_v (bc_in1 (mn_w (hX _)) (bc_in1 ⟨p2, q2⟩ bc_in0)) (List.forall_mem_cons.mpr ⟨hX _, (List.forall_mem_cons.mpr ⟨⟨by omega, by omega⟩, (fun _ h => nomatch h)⟩)⟩) (by omega) (by omega) (fun g2 la2 K2 R2 M2 u2 hb2 hg2 ho2 hp2 hu2 => ?_)
  have hp2 : M2 226 5 = M1 226 5 := hp2
  obtain ⟨y2, rfl⟩ : ∃ y, u2 = some (gm_vi y) := hu2
  show gm_Wp X LX 280 _ _ 369 1545 L5 [gm_vi y2] (245 + 4 * g2) K2 R2 M2 Q
  refine gm_sz (gm_p_stor (pc := 1545) (i := .istore 6) (sr := 0) (j := 6) (by decide +kernel) rfl (by show 6 + 0 < L5.length; have := hL5.1; omega) rfl) ?_
  have hL6 := mn_L_s (y := y2) hL5 (j := 6) (Or.inr rfl)
  generalize gm_lst L5 6 (gm_vi y2) = L6 at hL6 ⊢
  refine gm_sz (gm_p_goto (pc := 1547) (off := 418) (by decide +kernel) (by decide)) ?_
  exact gm_Wp_wk (Nat.le_refl _) (by omega) (by omega) (rest g2 la2 K2 R2 M2 L6 hb2 (by omega) (by omega) hL6)
theorem mc_34 (hb : bg g la K R M) (hg : g < 9990) (hM : M 1 6 = M 226 5) (hL : mn_L i L) (hi : 0 ≤ i ∧ i + 6 ≤ (LX : Int)) (hLX : LX ≤ 3072) (hX : ∀ j, gm_ir (X j)) (hbc : 12 ≤ bc) (hbs : 1200 ≤ bs) (rest : mn_R X LX bc bs i g Q) : gm_Wp X LX 280 bc bs 369 1550 L [] (245 + 4 * g) K R M Q := by
  refine gm_sz (gm_p_load (pc := 1550) (i := .aload_n 1) (sr := 2) (j := 1) (by decide +kernel) rfl hL.2.2.1 rfl) ?_
  refine mn_arg (pc := 1551) (j := 1) (by decide +kernel) (by decide +kernel) (by decide +kernel) (by decide +kernel) (by decide +kernel) hL hi (by decide) hLX ?_
  refine mn_arg (pc := 1557) (j := 2) (by decide +kernel) (by decide +kernel) (by decide +kernel) (by decide +kernel) (by decide +kernel) hL hi (by decide) hLX ?_
  refine mn_bool (pc := 1563) (by decide +kernel) (by decide +kernel) (by decide +kernel) (by decide +kernel) (fun b1 p1 q1 => ?_)
  refine gm_sz (gm_p_load (pc := 1571) (i := .aload_n 3) (sr := 2) (j := 3) (by decide +kernel) rfl hL.2.2.2.2.1 rfl) ?_
  refine mn_x (pc := 1572) (ix := 259) (mj := 217) (xs := [X (i + 1), b1]) (st := []) (ds := [(-2147483648, 2147483647), (0, 1)]) (md := 0) hb (by omega) (by decide +kernel) (by decide +kernel) (by decide +kernel) (by decide +kernel) (show 4 = gm_na 217 by decide +kernel) (show 4 ≤ gm_ml 217 by decide +kernel) (Nat.le_of_ble_eq_true rfl) hx_watchman_s hl_watchman_s hx_watchman_c hl_watchman_c hx_watchman_v hl_watchman_v (bc_in1 (mn_w (hX _)) (bc_in1 ⟨p1, q1⟩ bc_in0)) (List.forall_mem_cons.mpr ⟨hX _, (List.forall_mem_cons.mpr ⟨⟨by omega, by omega⟩, (fun _ h => nomatch h)⟩)⟩) (by omega) (by omega) (fun g1 la1 K1 R1 M1 u1 hb1 hg1 ho1 hp1 hu1 => ?_)
  have hp1 : M1 1 6 = M 1 6 := hp1
  obtain ⟨y1, rfl⟩ : ∃ y, u1 = some (gm_vi y) := hu1
  show gm_Wp X LX 280 _ _ 369 1575 L [gm_vi y1] (245 + 4 * g1) K1 R1 M1 Q
  refine gm_sz (gm_p_stor (pc := 1575) (i := .istore 5) (sr := 0) (j := 5) (by decide +kernel) rfl (by show 5 + 0 < L.length; have := hL.1; omega) rfl) ?_
  have hL5 := mn_L_s (y := y1) hL (j := 5) (Or.inl rfl)
  generalize gm_lst L 5 (gm_vi y1) = L5 at hL5 ⊢
  refine gm_sz (gm_p_load (pc := 1577) (i := .aload_n 2) (sr := 2) (j := 2) (by decide +kernel) rfl hL5.2.2.2.1 rfl) ?_
  refine mn_arg (pc := 1578) (j := 1) (by decide +kernel) (by decide +kernel) (by decide +kernel) (by decide +kernel) (by decide +kernel) hL5 hi (by decide) hLX ?_
  refine mn_arg (pc := 1584) (j := 2) (by decide +kernel) (by decide +kernel) (by decide +kernel) (by decide +kernel) (by decide +kernel) hL5 hi (by decide) hLX ?_
  refine mn_bool (pc := 1590) (by decide +kernel) (by decide +kernel) (by decide +kernel) (by decide +kernel) (fun b2 p2 q2 => ?_)
  refine mn_m (pc := 1598) (ix := 261) (mj := 359) (xs := [X (i + 1), b2]) (st := []) (ds := [(-2147483648, 2147483647), (0, 1)]) (md := 0) (r := true) hb1 (by omega) (by decide +kernel) (by decide +kernel) (by decide +kernel) (by decide +kernel) (show 2 = gm_na 359 by decide +kernel) (show 3 ≤ gm_ml 359 by decide +kernel) (Nat.le_of_ble_eq_true rfl) hm_watchman_s hm_watchman_c hm_watchman_v (bc_in1 (mn_w (hX _)) (bc_in1 ⟨p2, q2⟩ bc_in0)) (List.forall_mem_cons.mpr ⟨hX _, (List.forall_mem_cons.mpr ⟨⟨by omega, by omega⟩, (fun _ h => nomatch h)⟩)⟩) (by omega) (by omega) (fun g2 la2 K2 R2 M2 u2 hb2 hg2 ho2 hp2 hu2 => ?_)
  have hp2 : M2 226 5 = M1 226 5 := hp2
  obtain ⟨y2, rfl⟩ : ∃ y, u2 = some (gm_vi y) := hu2
  show gm_Wp X LX 280 _ _ 369 1601 L5 [gm_vi y2] (245 + 4 * g2) K2 R2 M2 Q
  refine gm_sz (gm_p_stor (pc := 1601) (i := .istore 6) (sr := 0) (j := 6) (by decide +kernel) rfl (by show 6 + 0 < L5.length; have := hL5.1; omega) rfl) ?_
  have hL6 := mn_L_s (y := y2) hL5 (j := 6) (Or.inr rfl)
  generalize gm_lst L5 6 (gm_vi y2) = L6 at hL6 ⊢
  refine gm_sz (gm_p_goto (pc := 1603) (off := 362) (by decide +kernel) (by decide)) ?_
  exact gm_Wp_wk (Nat.le_refl _) (by omega) (by omega) (rest g2 la2 K2 R2 M2 L6 hb2 (by omega) (by omega) hL6)
theorem mc_35 (hb : bg g la K R M) (hg : g < 9990) (hM : M 1 6 = M 226 5) (hL : mn_L i L) (hi : 0 ≤ i ∧ i + 6 ≤ (LX : Int)) (hLX : LX ≤ 3072) (hX : ∀ j, gm_ir (X j)) (hbc : 12 ≤ bc) (hbs : 1200 ≤ bs) (rest : mn_R X LX bc bs i g Q) : gm_Wp X LX 280 bc bs 369 1606 L [] (245 + 4 * g) K R M Q := by
  refine gm_sz (gm_p_load (pc := 1606) (i := .aload_n 1) (sr := 2) (j := 1) (by decide +kernel) rfl hL.2.2.1 rfl) ?_
  refine mn_arg (pc := 1607) (j := 1) (by decide +kernel) (by decide +kernel) (by decide +kernel) (by decide +kernel) (by decide +kernel) hL hi (by decide) hLX ?_
  refine mn_arg (pc := 1613) (j := 2) (by decide +kernel) (by decide +kernel) (by decide +kernel) (by decide +kernel) (by decide +kernel) hL hi (by decide) hLX ?_
  refine gm_sz (gm_p_load (pc := 1619) (i := .aload_n 3) (sr := 2) (j := 3) (by decide +kernel) rfl hL.2.2.2.2.1 rfl) ?_
  refine mn_x (pc := 1620) (ix := 262) (mj := 220) (xs := [X (i + 1), X (i + 2)]) (st := []) (ds := [(-2147483648, 2147483647), (-2147483648, 2147483647)]) (md := 0) hb (by omega) (by decide +kernel) (by decide +kernel) (by decide +kernel) (by decide +kernel) (show 4 = gm_na 220 by decide +kernel) (show 4 ≤ gm_ml 220 by decide +kernel) (Nat.le_of_ble_eq_true rfl) hx_meeting_s hl_meeting_s hx_meeting_c hl_meeting_c hx_meeting_v hl_meeting_v (bc_in1 (mn_w (hX _)) (bc_in1 (mn_w (hX _)) bc_in0)) (List.forall_mem_cons.mpr ⟨hX _, (List.forall_mem_cons.mpr ⟨hX _, (fun _ h => nomatch h)⟩)⟩) (by omega) (by omega) (fun g1 la1 K1 R1 M1 u1 hb1 hg1 ho1 hp1 hu1 => ?_)
  have hp1 : M1 1 6 = M 1 6 := hp1
  obtain ⟨y1, rfl⟩ : ∃ y, u1 = some (gm_vi y) := hu1
  show gm_Wp X LX 280 _ _ 369 1623 L [gm_vi y1] (245 + 4 * g1) K1 R1 M1 Q
  refine gm_sz (gm_p_stor (pc := 1623) (i := .istore 5) (sr := 0) (j := 5) (by decide +kernel) rfl (by show 5 + 0 < L.length; have := hL.1; omega) rfl) ?_
  have hL5 := mn_L_s (y := y1) hL (j := 5) (Or.inl rfl)
  generalize gm_lst L 5 (gm_vi y1) = L5 at hL5 ⊢
  refine gm_sz (gm_p_load (pc := 1625) (i := .aload_n 2) (sr := 2) (j := 2) (by decide +kernel) rfl hL5.2.2.2.1 rfl) ?_
  refine mn_arg (pc := 1626) (j := 1) (by decide +kernel) (by decide +kernel) (by decide +kernel) (by decide +kernel) (by decide +kernel) hL5 hi (by decide) hLX ?_
  refine mn_arg (pc := 1632) (j := 2) (by decide +kernel) (by decide +kernel) (by decide +kernel) (by decide +kernel) (by decide +kernel) hL5 hi (by decide) hLX ?_
  refine mn_m (pc := 1638) (ix := 264) (mj := 360) (xs := [X (i + 1), X (i + 2)]) (st := []) (ds := [(-2147483648, 2147483647), (-2147483648, 2147483647)]) (md := 0) (r := true) hb1 (by omega) (by decide +kernel) (by decide +kernel) (by decide +kernel) (by decide +kernel) (show 2 = gm_na 360 by decide +kernel) (show 3 ≤ gm_ml 360 by decide +kernel) (Nat.le_of_ble_eq_true rfl) hm_meeting_s hm_meeting_c hm_meeting_v (bc_in1 (mn_w (hX _)) (bc_in1 (mn_w (hX _)) bc_in0)) (List.forall_mem_cons.mpr ⟨hX _, (List.forall_mem_cons.mpr ⟨hX _, (fun _ h => nomatch h)⟩)⟩) (by omega) (by omega) (fun g2 la2 K2 R2 M2 u2 hb2 hg2 ho2 hp2 hu2 => ?_)
  have hp2 : M2 226 5 = M1 226 5 := hp2
  obtain ⟨y2, rfl⟩ : ∃ y, u2 = some (gm_vi y) := hu2
  show gm_Wp X LX 280 _ _ 369 1641 L5 [gm_vi y2] (245 + 4 * g2) K2 R2 M2 Q
  refine gm_sz (gm_p_stor (pc := 1641) (i := .istore 6) (sr := 0) (j := 6) (by decide +kernel) rfl (by show 6 + 0 < L5.length; have := hL5.1; omega) rfl) ?_
  have hL6 := mn_L_s (y := y2) hL5 (j := 6) (Or.inr rfl)
  generalize gm_lst L5 6 (gm_vi y2) = L6 at hL6 ⊢
  refine gm_sz (gm_p_goto (pc := 1643) (off := 322) (by decide +kernel) (by decide)) ?_
  exact gm_Wp_wk (Nat.le_refl _) (by omega) (by omega) (rest g2 la2 K2 R2 M2 L6 hb2 (by omega) (by omega) hL6)
theorem mc_36 (hb : bg g la K R M) (hg : g < 9990) (hM : M 1 6 = M 226 5) (hL : mn_L i L) (hi : 0 ≤ i ∧ i + 6 ≤ (LX : Int)) (hLX : LX ≤ 3072) (hX : ∀ j, gm_ir (X j)) (hbc : 12 ≤ bc) (hbs : 1200 ≤ bs) (rest : mn_R X LX bc bs i g Q) : gm_Wp X LX 280 bc bs 369 1646 L [] (245 + 4 * g) K R M Q := by
  refine gm_sz (gm_p_load (pc := 1646) (i := .aload_n 1) (sr := 2) (j := 1) (by decide +kernel) rfl hL.2.2.1 rfl) ?_
  refine mn_arg (pc := 1647) (j := 1) (by decide +kernel) (by decide +kernel) (by decide +kernel) (by decide +kernel) (by decide +kernel) hL hi (by decide) hLX ?_
  refine gm_sz (gm_p_load (pc := 1653) (i := .aload_n 3) (sr := 2) (j := 3) (by decide +kernel) rfl hL.2.2.2.2.1 rfl) ?_
  refine mn_x (pc := 1654) (ix := 265) (mj := 222) (xs := [X (i + 1)]) (st := []) (ds := [(-2147483648, 2147483647)]) (md := 0) hb (by omega) (by decide +kernel) (by decide +kernel) (by decide +kernel) (by decide +kernel) (show 3 = gm_na 222 by decide +kernel) (show 3 ≤ gm_ml 222 by decide +kernel) (Nat.le_of_ble_eq_true rfl) hx_outs_s hl_outs_s hx_outs_c hl_outs_c hx_outs_v hl_outs_v (bc_in1 (mn_w (hX _)) bc_in0) (List.forall_mem_cons.mpr ⟨hX _, (fun _ h => nomatch h)⟩) (by omega) (by omega) (fun g1 la1 K1 R1 M1 u1 hb1 hg1 ho1 hp1 hu1 => ?_)
  have hp1 : M1 1 6 = M 1 6 := hp1
  obtain ⟨y1, rfl⟩ : ∃ y, u1 = some (gm_vi y) := hu1
  show gm_Wp X LX 280 _ _ 369 1657 L [gm_vi y1] (245 + 4 * g1) K1 R1 M1 Q
  refine gm_sz (gm_p_stor (pc := 1657) (i := .istore 5) (sr := 0) (j := 5) (by decide +kernel) rfl (by show 5 + 0 < L.length; have := hL.1; omega) rfl) ?_
  have hL5 := mn_L_s (y := y1) hL (j := 5) (Or.inl rfl)
  generalize gm_lst L 5 (gm_vi y1) = L5 at hL5 ⊢
  refine gm_sz (gm_p_load (pc := 1659) (i := .aload_n 2) (sr := 2) (j := 2) (by decide +kernel) rfl hL5.2.2.2.1 rfl) ?_
  refine mn_arg (pc := 1660) (j := 1) (by decide +kernel) (by decide +kernel) (by decide +kernel) (by decide +kernel) (by decide +kernel) hL5 hi (by decide) hLX ?_
  refine mn_m (pc := 1666) (ix := 267) (mj := 361) (xs := [X (i + 1)]) (st := []) (ds := [(-2147483648, 2147483647)]) (md := 0) (r := true) hb1 (by omega) (by decide +kernel) (by decide +kernel) (by decide +kernel) (by decide +kernel) (show 1 = gm_na 361 by decide +kernel) (show 2 ≤ gm_ml 361 by decide +kernel) (Nat.le_of_ble_eq_true rfl) hm_outs_s hm_outs_c hm_outs_v (bc_in1 (mn_w (hX _)) bc_in0) (List.forall_mem_cons.mpr ⟨hX _, (fun _ h => nomatch h)⟩) (by omega) (by omega) (fun g2 la2 K2 R2 M2 u2 hb2 hg2 ho2 hp2 hu2 => ?_)
  have hp2 : M2 226 5 = M1 226 5 := hp2
  obtain ⟨y2, rfl⟩ : ∃ y, u2 = some (gm_vi y) := hu2
  show gm_Wp X LX 280 _ _ 369 1669 L5 [gm_vi y2] (245 + 4 * g2) K2 R2 M2 Q
  refine gm_sz (gm_p_stor (pc := 1669) (i := .istore 6) (sr := 0) (j := 6) (by decide +kernel) rfl (by show 6 + 0 < L5.length; have := hL5.1; omega) rfl) ?_
  have hL6 := mn_L_s (y := y2) hL5 (j := 6) (Or.inr rfl)
  generalize gm_lst L5 6 (gm_vi y2) = L6 at hL6 ⊢
  refine gm_sz (gm_p_goto (pc := 1671) (off := 294) (by decide +kernel) (by decide)) ?_
  exact gm_Wp_wk (Nat.le_refl _) (by omega) (by omega) (rest g2 la2 K2 R2 M2 L6 hb2 (by omega) (by omega) hL6)
end MCC
