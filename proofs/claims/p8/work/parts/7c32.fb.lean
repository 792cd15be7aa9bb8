/-! A LETTER'S FIRST BARE YEAR, A PASSING: rows under what is kept. -/
section FB32
variable {X : Int → Int} {LX d n2 : Nat} {K K0 K2 : gm_K} {R R0 R2 : gm_R} {M M0 M2 : gm_M} {Q : gm_Q} {i j l a b y v : Int}
noncomputable def q145_W : List (Nat × Int × Int) × List (Nat × Int) := ([(200, 6, 6), (204, 0, 9), (205, 0, 14849), (206, 2, 8)], [])
noncomputable def q145 : ck_Sum := ((16, 0, 0), 249, [.inr (.inr (.inl 1)), .inl (0, 23, [])], ([], [(3, 8, 246)], []), q145_W, [(.inr (some (.inl ((-1), 299, []))), 249, ([], [], []))])
theorem r8_g (h8 : R0 3 8 = 246) (h : ck_fr q145_W 249 K0 R0 M0 249 K R M) : R 3 8 = 246 := (h.2.2.2 3 8 (by decide) (fun h => nomatch h)).trans h8
theorem q145_l (h6 : s32_206 X LX) (hd : 16 ≤ d) (h80 : R0 3 8 = 246) (hq : ∀ v K2 R2 M2, -1 ≤ v → v ≤ 299 → gm_Fx qL_O 249 K2 R2 M2 → ck_fr q145_W 249 K0 R0 M0 249 K2 R2 M2 → Q (.inl (some (gm_vi v))) 249 K2 R2 M2) : ∀ (u : Nat) (i : Int) (K : gm_K) (R : gm_R) (M : gm_M), i + (u : Int) = 300 → 0 ≤ i → SPc 206 (i - 1) M → gm_Fx qL_O 249 K R M → ck_fr q145_W 249 K0 R0 M0 249 K R M → gm_Wp X LX d 0 0 145 18 [some (gm_vr 1), some (gm_vi l), some (gm_vi i)] [] 249 K R M Q := by
  intro u
  induction u with
  | zero =>
    intro i K R M hu hi hs hF hfr
    refine gm_sz (gm_p_load (pc := 18) (i := .iload_n 2) (sr := 0) (j := 2) (by decide +kernel) rfl rfl rfl) ?_
    refine gm_sz (gm_p_const (pc := 19) (i := .sipush 300) (v := gm_vi 300) (by decide +kernel) (by decide +kernel)) ?_
    refine fw_ict (cc := .ge) (pc := 22) (off := 40) (by decide +kernel) (by decide) ⟨by omega, by omega⟩ ⟨by decide, by decide⟩ (show 300 ≤ i by omega) ?_
    refine gm_sz (gm_p_const (pc := 62) (i := .iconst (-1)) (v := gm_vi (-1)) (by decide +kernel) (by decide +kernel)) ?_
    exact gm_r_int (pc := 63) (by decide +kernel) (Or.inl (by decide +kernel)) (hq (-1) _ _ _ (Int.le_refl _) (by decide) hF hfr)
  | succ u ih =>
    intro i K R M hu hi hs hF hfr
    refine gm_sz (gm_p_load (pc := 18) (i := .iload_n 2) (sr := 0) (j := 2) (by decide +kernel) rfl rfl rfl) ?_
    refine gm_sz (gm_p_const (pc := 19) (i := .sipush 300) (v := gm_vi 300) (by decide +kernel) (by decide +kernel)) ?_
    refine fw_icf (cc := .ge) (pc := 22) (off := 40) (by decide +kernel) (by decide) ⟨by omega, by omega⟩ ⟨by decide, by decide⟩ (show ¬ 300 ≤ i by omega) ?_
    refine gm_sz (gm_p_load (pc := 25) (i := .aload_n 0) (sr := 2) (j := 0) (by decide +kernel) rfl rfl rfl) ?_
    refine gm_sz (fw_gr (pc := 26) (ix := 58) (ci := 0) (j := 9) (r := 206) (by decide +kernel) (e0k (e0F (pl_o (qL_p hF))) (k := 1) (c := 0) (by decide +kernel)) (by decide +kernel) (by decide +kernel) (e0r (e0F (pl_o (qL_p hF))) (k := 1) (j := 9) (r := 206) (by decide +kernel))) ?_
    refine gm_c_virt (k := 206) (ci := 5) (mj := 32) (ix := 447) (pc := 29) (as := []) (st := []) (d' := 13) (bc' := 0) (bs' := 0) (by decide +kernel) (by decide +kernel) (by decide +kernel) (by decide +kernel) (e0k (e0F (pl_o (qL_p hF))) (k := 206) (c := 5) (by decide +kernel)).1 (e0k (e0F (pl_o (qL_p hF))) (k := 206) (c := 5) (by decide +kernel)).2 (by decide) (by decide +kernel) (show 0 = gm_na 32 by decide +kernel) fw_c0 (show 0 + 1 ≤ gm_ml 32 by decide +kernel) (Nat.le_of_ble_eq_true rfl) (by omega) (Nat.zero_le _) (Nat.zero_le _) ?_
    refine q32_206_c h6 (Nat.le_refl _) hF (r8_g h80 hfr) hs (by omega) (fun K2 R2 M2 hF2 hf2 hs2 => ?_)
    have hfr2 : ck_fr q145_W 249 K0 R0 M0 249 K2 R2 M2 := ck_fr_tr hfr hf2 (by decide) (by decide)
    show gm_Wp X LX d 0 0 145 32 [some (gm_vr 1), some (gm_vi l), some (gm_vi i)] [] 249 K2 R2 M2 Q
    refine gm_sz (gm_p_load (pc := 32) (i := .aload_n 0) (sr := 2) (j := 0) (by decide +kernel) rfl rfl rfl) ?_
    refine gm_sz (fw_gr (pc := 33) (ix := 58) (ci := 0) (j := 9) (r := 206) (by decide +kernel) (e0k (e0F (pl_o (qL_p hF2))) (k := 1) (c := 0) (by decide +kernel)) (by decide +kernel) (by decide +kernel) (e0r (e0F (pl_o (qL_p hF2))) (k := 1) (j := 9) (r := 206) (by decide +kernel))) ?_
    refine gm_c_virt (k := 206) (ci := 5) (mj := 31) (ix := 411) (pc := 36) (as := []) (st := []) (d' := 0) (bc' := 0) (bs' := 0) (by decide +kernel) (by decide +kernel) (by decide +kernel) (by decide +kernel) (e0k (e0F (pl_o (qL_p hF2))) (k := 206) (c := 5) (by decide +kernel)).1 (e0k (e0F (pl_o (qL_p hF2))) (k := 206) (c := 5) (by decide +kernel)).2 (by decide) (by decide +kernel) (show 0 = gm_na 31 by decide +kernel) fw_c0 (show 0 + 1 ≤ gm_ml 31 by decide +kernel) (Nat.le_of_ble_eq_true rfl) (by omega) (Nat.zero_le _) (Nat.zero_le _) ?_
    refine q31_206_c hF2 (spc_b hs2).1 (fun v K3 R3 M3 hv hF3 hf3 => ?_)
    have hfr3 : ck_fr q145_W 249 K0 R0 M0 249 K3 R3 M3 := ck_fr_tr hfr2 hf3 (by decide) (by decide)
    have hs3 : SPc 206 (i - 1 + 1) M3 := sp0_206 hf3 hs2
    show gm_Wp X LX d 0 0 145 39 [some (gm_vr 1), some (gm_vi l), some (gm_vi i)] [gm_vi v] 249 K3 R3 M3 Q
    refine fw_if (cc := .eq) (pc := 39) (off := 5) (by decide +kernel) (by decide) (by rcases hv with rfl | rfl <;> exact ⟨by decide, by decide⟩) (fun hp => ?_) (fun hp => ?_)
    · refine gm_sz (gm_p_load (pc := 44) (i := .aload_n 0) (sr := 2) (j := 0) (by decide +kernel) rfl rfl rfl) ?_
      refine gm_sz (fw_gr (pc := 45) (ix := 58) (ci := 0) (j := 9) (r := 206) (by decide +kernel) (e0k (e0F (pl_o (qL_p hF3))) (k := 1) (c := 0) (by decide +kernel)) (by decide +kernel) (by decide +kernel) (e0r (e0F (pl_o (qL_p hF3))) (k := 1) (j := 9) (r := 206) (by decide +kernel))) ?_
      refine gm_sz (fw_gi (pc := 48) (ix := 209) (ci := 5) (j := 6) (x := M3 206 6) (by decide +kernel) (e0k (e0F (pl_o (qL_p hF3))) (k := 206) (c := 5) (by decide +kernel)) (by decide +kernel) (by decide +kernel) rfl) ?_
      refine fw_if (cc := .ne) (pc := 51) (off := 5) (by decide +kernel) (by decide) ((gm_tyr_s (pl_o (qL_p hF3)) (show gm_tyr p2_O 206 6 6 = some (0, 99) by decide +kernel)).2 6 (Int.le_refl _) (Int.le_refl _)).1 (fun hp2 => ?_) (fun hp2 => ?_)
      · refine gm_sz (gm_p_iinc (pc := 56) (j := 2) (z := 1) (by decide +kernel) rfl) ?_
        refine gm_sz (gm_p_goto (pc := 59) (off := (-41)) (by decide +kernel) (by decide)) ?_
        exact ih (i + 1) K3 R3 M3 (by omega) (by omega) (by rw [show i + 1 - 1 = i - 1 + 1 by omega]; exact hs3) hF3 hfr3
      · refine gm_sz (gm_p_load (pc := 54) (i := .iload_n 2) (sr := 0) (j := 2) (by decide +kernel) rfl rfl rfl) ?_
        exact gm_r_int (pc := 55) (by decide +kernel) (Or.inl (by decide +kernel)) (hq i _ _ _ (by omega) (by omega) hF3 hfr3)
    · refine gm_sz (gm_p_const (pc := 42) (i := .iconst (-1)) (v := gm_vi (-1)) (by decide +kernel) (by decide +kernel)) ?_
      exact gm_r_int (pc := 43) (by decide +kernel) (Or.inl (by decide +kernel)) (hq (-1) _ _ _ (Int.le_refl _) (by decide) hF3 hfr3)
theorem q145_s (h6 : s32_206 X LX) (s6 : ck_Ok qL_O X LX 27 q27_206) : ck_Ok qL_O X LX 145 q145 := by
  intro d σ vs n K R M hd hn hvs hσ hF hf
  obtain ⟨v0, w0, rfl, g0, v1, w1, rfl, ⟨l, rfl, hl, l0, l1, -⟩, g4⟩ := hvs
  have g4 : w1 = [] := g4
  subst g4
  have g0 : v0 = gm_vr 1 := g0
  subst g0
  have l0 : (0 : Int) ≤ l := l0
  have l1 : l ≤ (23 : Int) := l1
  have hn : n = 249 := hn
  subst hn
  have hd : 16 ≤ d := hd
  have h8 : R 3 8 = 246 := (hf.2.1 (3, 8, 246) List.mem_cons_self).2
  refine gm_sz (gm_p_load (pc := 0) (i := .aload_n 0) (sr := 2) (j := 0) (by decide +kernel) rfl rfl rfl) ?_
  refine gm_sz (fw_gr (pc := 1) (ix := 58) (ci := 0) (j := 9) (r := 206) (by decide +kernel) (e0k (e0F (pl_o (qL_p hF))) (k := 1) (c := 0) (by decide +kernel)) (by decide +kernel) (by decide +kernel) (e0r (e0F (pl_o (qL_p hF))) (k := 1) (j := 9) (r := 206) (by decide +kernel))) ?_
  refine gm_sz (gm_p_load (pc := 4) (i := .iload_n 1) (sr := 0) (j := 1) (by decide +kernel) rfl rfl rfl) ?_
  refine gm_c_virt (k := 206) (ci := 5) (mj := 27) (ix := 217) (pc := 5) (as := [gm_vi l]) (st := []) (d' := 2) (bc' := 0) (bs' := 0) (by decide +kernel) (by decide +kernel) (by decide +kernel) (by decide +kernel) (e0k (e0F (pl_o (qL_p hF))) (k := 206) (c := 5) (by decide +kernel)).1 (e0k (e0F (pl_o (qL_p hF))) (k := 206) (c := 5) (by decide +kernel)).2 (by decide) (by decide +kernel) (show 1 = gm_na 27 by decide +kernel) (fw_c1 (by simp [gm_sort])) (show 1 + 1 ≤ gm_ml 27 by decide +kernel) (Nat.le_of_ble_eq_true rfl) (by omega) (Nat.zero_le _) (Nat.zero_le _) ?_
  refine q27_206_c s6 (Nat.le_refl _) hF ⟨l0, l1⟩ (fun i K2 R2 M2 hi hF2 hf2 hs2 => ?_)
  have hfr2 : ck_fr q145_W 249 K R M 249 K2 R2 M2 := ck_fr_tr ck_fr_0 hf2 (by decide) (by decide)
  have hb := spc_b hs2
  show gm_Wp X LX d 0 0 145 8 [some (gm_vr 1), some (gm_vi l), none] [] 249 K2 R2 M2 (ck_Q qL_O σ q145.2.2.2.2.1 249 K R M q145.2.2.2.2.2)
  refine gm_sz (gm_p_load (pc := 8) (i := .aload_n 0) (sr := 2) (j := 0) (by decide +kernel) rfl rfl rfl) ?_
  refine gm_sz (fw_gr (pc := 9) (ix := 58) (ci := 0) (j := 9) (r := 206) (by decide +kernel) (e0k (e0F (pl_o (qL_p hF2))) (k := 1) (c := 0) (by decide +kernel)) (by decide +kernel) (by decide +kernel) (e0r (e0F (pl_o (qL_p hF2))) (k := 1) (j := 9) (r := 206) (by decide +kernel))) ?_
  refine gm_sz (fw_gi (pc := 12) (ix := 444) (ci := 5) (j := 7) (x := i) (by decide +kernel) (e0k (e0F (pl_o (qL_p hF2))) (k := 206) (c := 5) (by decide +kernel)) (by decide +kernel) (by decide +kernel) hs2.2.2) ?_
  refine gm_sz (gm_p_const (pc := 15) (i := .iconst 1) (v := gm_vi 1) (by decide +kernel) (by decide +kernel)) ?_
  refine gm_sz (gm_p_bin (pc := 16) (i := .iadd) (f := fun x y => x + y) (by decide +kernel) rfl) ?_
  refine gm_sz (gm_p_stor (pc := 17) (i := .istore_n 2) (sr := 0) (j := 2) (by decide +kernel) rfl (show 3 ≤ _ from Nat.le_of_ble_eq_true rfl) rfl) ?_
  exact q145_l h6 hd h8 (fun v K3 R3 M3 v0 v1 hF3 hfr3 => ⟨hF3, hfr3, _, List.mem_cons_self, ⟨v, rfl, ⟨by omega, by omega⟩, v0, v1, (fun _ h => nomatch h)⟩, rfl, (fun _ h => nomatch h), (fun _ h => nomatch h), (fun _ h => nomatch h)⟩) (300 - (i + 1)).toNat (i + 1) K2 R2 M2 (by omega) (by omega) (by rw [show i + 1 - 1 = i by omega]; exact hs2) hF2 hfr2
noncomputable def q181 : ck_Sum := ((18, 0, 0), 249, [.inr (.inr (.inl 1)), .inl (0, 23, []), .inl (0, 23, [])], ([], [(3, 8, 246)], []), q31_W, [(.inr (some (.inl (0, 1, []))), 249, ([], [], []))])
theorem q181_l (h6 : s32_206 X LX) (h7 : s32_207 X LX) (hd : 18 ≤ d) (h80 : R0 3 8 = 246) (hq : ∀ v K2 R2 M2, 0 ≤ v → v ≤ 1 → gm_Fx qL_O 249 K2 R2 M2 → ck_fr q31_W 249 K0 R0 M0 249 K2 R2 M2 → Q (.inl (some (gm_vi v))) 249 K2 R2 M2) : ∀ (u : Nat) (i : Int) (K : gm_K) (R : gm_R) (M : gm_M), i + (u : Int) = 300 → 1 ≤ i → SPc 206 (i - 1) M → SPc 207 (i - 1) M → gm_Fx qL_O 249 K R M → ck_fr q31_W 249 K0 R0 M0 249 K R M → gm_Wp X LX d 0 0 181 39 [some (gm_vr 1), some (gm_vi a), some (gm_vi b), some (gm_vi v), some (gm_vi i)] [] 249 K R M Q := by
  intro u
  induction u with
  | zero =>
    intro i K R M hu hi hs hs7 hF hfr
    refine gm_sz (gm_p_load (pc := 39) (i := .iload 4) (sr := 0) (j := 4) (by decide +kernel) rfl rfl rfl) ?_
    refine gm_sz (gm_p_const (pc := 41) (i := .sipush 300) (v := gm_vi 300) (by decide +kernel) (by decide +kernel)) ?_
    refine fw_ict (cc := .ge) (pc := 44) (off := 41) (by decide +kernel) (by decide) ⟨by omega, by omega⟩ ⟨by decide, by decide⟩ (show 300 ≤ i by omega) ?_
    refine gm_sz (gm_p_const (pc := 85) (i := .iconst 0) (v := gm_vi 0) (by decide +kernel) (by decide +kernel)) ?_
    exact gm_r_int (pc := 86) (by decide +kernel) (Or.inr ⟨(by decide +kernel), Or.inl rfl⟩) (hq 0 _ _ _ (Int.le_refl _) (by decide) hF hfr)
  | succ u ih =>
    intro i K R M hu hi hs hs7 hF hfr
    refine gm_sz (gm_p_load (pc := 39) (i := .iload 4) (sr := 0) (j := 4) (by decide +kernel) rfl rfl rfl) ?_
    refine gm_sz (gm_p_const (pc := 41) (i := .sipush 300) (v := gm_vi 300) (by decide +kernel) (by decide +kernel)) ?_
    refine fw_icf (cc := .ge) (pc := 44) (off := 41) (by decide +kernel) (by decide) ⟨by omega, by omega⟩ ⟨by decide, by decide⟩ (show ¬ 300 ≤ i by omega) ?_
    refine gm_sz (gm_p_load (pc := 47) (i := .aload_n 0) (sr := 2) (j := 0) (by decide +kernel) rfl rfl rfl) ?_
    refine gm_c_virt (k := 1) (ci := 0) (mj := 184) (ix := 332) (pc := 48) (as := []) (st := []) (d' := 14) (bc' := 0) (bs' := 0) (by decide +kernel) (by decide +kernel) (by decide +kernel) (by decide +kernel) (e0k (e0F (pl_o (qL_p hF))) (k := 1) (c := 0) (by decide +kernel)).1 (e0k (e0F (pl_o (qL_p hF))) (k := 1) (c := 0) (by decide +kernel)).2 (by decide) (by decide +kernel) (show 0 = gm_na 184 by decide +kernel) fw_c0 (show 0 + 1 ≤ gm_ml 184 by decide +kernel) (Nat.le_of_ble_eq_true rfl) (by omega) (Nat.zero_le _) (Nat.zero_le _) ?_
    refine q184_c h6 h7 (Nat.le_refl _) hF (r8_f h80 hfr) hs hs7 (by omega) (by omega) (fun K2 R2 M2 hF2 hf2 hs62 hs72 => ?_)
    have hfr2 : ck_fr q31_W 249 K0 R0 M0 249 K2 R2 M2 := ck_fr_tr hfr hf2 (by decide) (by decide)
    show gm_Wp X LX d 0 0 181 51 [some (gm_vr 1), some (gm_vi a), some (gm_vi b), some (gm_vi v), some (gm_vi i)] [] 249 K2 R2 M2 Q
    refine gm_sz (gm_p_load (pc := 51) (i := .aload_n 0) (sr := 2) (j := 0) (by decide +kernel) rfl rfl rfl) ?_
    refine gm_c_virt (k := 1) (ci := 0) (mj := 183) (ix := 329) (pc := 52) (as := []) (st := []) (d' := 1) (bc' := 0) (bs' := 0) (by decide +kernel) (by decide +kernel) (by decide +kernel) (by decide +kernel) (e0k (e0F (pl_o (qL_p hF2))) (k := 1) (c := 0) (by decide +kernel)).1 (e0k (e0F (pl_o (qL_p hF2))) (k := 1) (c := 0) (by decide +kernel)).2 (by decide) (by decide +kernel) (show 0 = gm_na 183 by decide +kernel) fw_c0 (show 0 + 1 ≤ gm_ml 183 by decide +kernel) (Nat.le_of_ble_eq_true rfl) (by omega) (Nat.zero_le _) (Nat.zero_le _) ?_
    refine q183_c (Nat.le_refl _) hF2 hs62 hs72 (fun t K3 R3 M3 t0 t1 hF3 hf3 => ?_)
    have hfr3 : ck_fr q31_W 249 K0 R0 M0 249 K3 R3 M3 := ck_fr_tr hfr2 hf3 (by decide) (by decide)
    have hs63 : SPc 206 (i - 1 + 1) M3 := sp_e hf3 (by decide) (by decide) hs62
    have hs73 : SPc 207 (i - 1 + 1) M3 := sp_e hf3 (by decide) (by decide) hs72
    have b6 := (spc_b hs63).1
    have b7 := (spc_b hs73).1
    show gm_Wp X LX d 0 0 181 55 [some (gm_vr 1), some (gm_vi a), some (gm_vi b), some (gm_vi v), some (gm_vi i)] [gm_vi t] 249 K3 R3 M3 Q
    refine fw_if (cc := .ne) (pc := 55) (off := 5) (by decide +kernel) (by decide) ⟨by omega, by omega⟩ (fun hp => ?_) (fun hp => ?_)
    · refine gm_sz (gm_p_load (pc := 60) (i := .aload_n 0) (sr := 2) (j := 0) (by decide +kernel) rfl rfl rfl) ?_
      refine gm_sz (fw_gr (pc := 61) (ix := 58) (ci := 0) (j := 9) (r := 206) (by decide +kernel) (e0k (e0F (pl_o (qL_p hF3))) (k := 1) (c := 0) (by decide +kernel)) (by decide +kernel) (by decide +kernel) (e0r (e0F (pl_o (qL_p hF3))) (k := 1) (j := 9) (r := 206) (by decide +kernel))) ?_
      refine gm_sz (fw_gi (pc := 64) (ix := 223) (ci := 5) (j := 5) (x := M3 206 5) (by decide +kernel) (e0k (e0F (pl_o (qL_p hF3))) (k := 206) (c := 5) (by decide +kernel)) (by decide +kernel) (by decide +kernel) rfl) ?_
      refine gm_sz (gm_p_load (pc := 67) (i := .aload_n 0) (sr := 2) (j := 0) (by decide +kernel) rfl rfl rfl) ?_
      refine gm_sz (fw_gr (pc := 68) (ix := 62) (ci := 0) (j := 10) (r := 207) (by decide +kernel) (e0k (e0F (pl_o (qL_p hF3))) (k := 1) (c := 0) (by decide +kernel)) (by decide +kernel) (by decide +kernel) (e0r (e0F (pl_o (qL_p hF3))) (k := 1) (j := 10) (r := 207) (by decide +kernel))) ?_
      refine gm_sz (fw_gi (pc := 71) (ix := 223) (ci := 5) (j := 5) (x := M3 207 5) (by decide +kernel) (e0k (e0F (pl_o (qL_p hF3))) (k := 207) (c := 5) (by decide +kernel)) (by decide +kernel) (by decide +kernel) rfl) ?_
      refine fw_ic (cc := .le) (pc := 74) (off := 5) (by decide +kernel) (by decide) ⟨by omega, by omega⟩ ⟨by omega, by omega⟩ (fun hp2 => ?_) (fun hp2 => ?_)
      · refine gm_sz (gm_p_iinc (pc := 79) (j := 4) (z := 1) (by decide +kernel) rfl) ?_
        refine gm_sz (gm_p_goto (pc := 82) (off := (-43)) (by decide +kernel) (by decide)) ?_
        exact ih (i + 1) K3 R3 M3 (by omega) (by omega) (by rw [show i + 1 - 1 = i - 1 + 1 by omega]; exact hs63) (by rw [show i + 1 - 1 = i - 1 + 1 by omega]; exact hs73) hF3 hfr3
      · refine gm_sz (gm_p_const (pc := 77) (i := .iconst 1) (v := gm_vi 1) (by decide +kernel) (by decide +kernel)) ?_
        exact gm_r_int (pc := 78) (by decide +kernel) (Or.inr ⟨(by decide +kernel), Or.inr rfl⟩) (hq 1 _ _ _ (by decide) (Int.le_refl _) hF3 hfr3)
    · refine gm_sz (gm_p_const (pc := 58) (i := .iconst 0) (v := gm_vi 0) (by decide +kernel) (by decide +kernel)) ?_
      exact gm_r_int (pc := 59) (by decide +kernel) (Or.inr ⟨(by decide +kernel), Or.inl rfl⟩) (hq 0 _ _ _ (Int.le_refl _) (by decide) hF3 hfr3)
theorem q181_s (h6 : s32_206 X LX) (h7 : s32_207 X LX) (s6 : ck_Ok qL_O X LX 27 q27_206) (s7 : ck_Ok qL_O X LX 27 q27_207) : ck_Ok qL_O X LX 181 q181 := by
  intro d σ vs n K R M hd hn hvs hσ hF hf
  obtain ⟨v0, w0, rfl, g0, v1, w1, rfl, ⟨a, rfl, ha, a0, a1, -⟩, v2, w2, rfl, ⟨b, rfl, hb, b0, b1, -⟩, g4⟩ := hvs
  have g4 : w2 = [] := g4
  subst g4
  have g0 : v0 = gm_vr 1 := g0
  subst g0
  have a0 : (0 : Int) ≤ a := a0
  have a1 : a ≤ (23 : Int) := a1
  have b0 : (0 : Int) ≤ b := b0
  have b1 : b ≤ (23 : Int) := b1
  have hn : n = 249 := hn
  subst hn
  have hd : 18 ≤ d := hd
  have h8 : R 3 8 = 246 := (hf.2.1 (3, 8, 246) List.mem_cons_self).2
  have hq : ∀ v K2 R2 M2, 0 ≤ v → v ≤ 1 → gm_Fx qL_O 249 K2 R2 M2 → ck_fr q31_W 249 K R M 249 K2 R2 M2 → (ck_Q qL_O σ q181.2.2.2.2.1 249 K R M q181.2.2.2.2.2) (.inl (some (gm_vi v))) 249 K2 R2 M2 := (fun t K9 R9 M9 t0 t1 hF9 hfr9 => ⟨hF9, hfr9, _, List.mem_cons_self, ⟨t, rfl, ⟨by omega, by omega⟩, t0, t1, (fun _ h => nomatch h)⟩, rfl, (fun _ h => nomatch h), (fun _ h => nomatch h), (fun _ h => nomatch h)⟩)
  refine gm_sz (gm_p_load (pc := 0) (i := .aload_n 0) (sr := 2) (j := 0) (by decide +kernel) rfl rfl rfl) ?_
  refine gm_sz (gm_p_load (pc := 1) (i := .iload_n 1) (sr := 0) (j := 1) (by decide +kernel) rfl rfl rfl) ?_
  refine gm_sz (gm_p_load (pc := 2) (i := .iload_n 2) (sr := 0) (j := 2) (by decide +kernel) rfl rfl rfl) ?_
  refine gm_sz (gm_p_const (pc := 3) (i := .iconst 0) (v := gm_vi 0) (by decide +kernel) (by decide +kernel)) ?_
  refine gm_c_virt (k := 1) (ci := 0) (mj := 182) (ix := 326) (pc := 4) (as := [gm_vi a, gm_vi b, gm_vi 0]) (st := []) (d' := 15) (bc' := 0) (bs' := 0) (by decide +kernel) (by decide +kernel) (by decide +kernel) (by decide +kernel) (e0k (e0F (pl_o (qL_p hF))) (k := 1) (c := 0) (by decide +kernel)).1 (e0k (e0F (pl_o (qL_p hF))) (k := 1) (c := 0) (by decide +kernel)).2 (by decide) (by decide +kernel) (show 3 = gm_na 182 by decide +kernel) (fun v hv => by simp only [List.mem_cons, List.not_mem_nil, or_false] at hv; rcases hv with rfl | rfl | rfl <;> simp [gm_sort]) (show 3 + 1 ≤ gm_ml 182 by decide +kernel) (Nat.le_of_ble_eq_true rfl) (by omega) (Nat.zero_le _) (Nat.zero_le _) ?_
  refine q182_c h6 h7 s6 s7 (Nat.le_refl _) hF h8 ⟨a0, a1⟩ ⟨b0, b1⟩ ⟨by decide, by decide⟩ (fun v K2 R2 M2 v0 v1 hF2 hfr2 hs62 hs72 => ?_)
  show gm_Wp X LX d 0 0 181 7 [some (gm_vr 1), some (gm_vi a), some (gm_vi b), none, none] [gm_vi v] 249 K2 R2 M2 (ck_Q qL_O σ q181.2.2.2.2.1 249 K R M q181.2.2.2.2.2)
  refine gm_sz (gm_p_stor (pc := 7) (i := .istore_n 3) (sr := 0) (j := 3) (by decide +kernel) rfl (show 4 ≤ _ from Nat.le_of_ble_eq_true rfl) rfl) ?_
  refine gm_sz (gm_p_load (pc := 8) (i := .aload_n 0) (sr := 2) (j := 0) (by decide +kernel) rfl rfl rfl) ?_
  refine gm_c_virt (k := 1) (ci := 0) (mj := 183) (ix := 329) (pc := 9) (as := []) (st := []) (d' := 1) (bc' := 0) (bs' := 0) (by decide +kernel) (by decide +kernel) (by decide +kernel) (by decide +kernel) (e0k (e0F (pl_o (qL_p hF2))) (k := 1) (c := 0) (by decide +kernel)).1 (e0k (e0F (pl_o (qL_p hF2))) (k := 1) (c := 0) (by decide +kernel)).2 (by decide) (by decide +kernel) (show 0 = gm_na 183 by decide +kernel) fw_c0 (show 0 + 1 ≤ gm_ml 183 by decide +kernel) (Nat.le_of_ble_eq_true rfl) (by omega) (Nat.zero_le _) (Nat.zero_le _) ?_
  refine q183_c (Nat.le_refl _) hF2 hs62 hs72 (fun t K3 R3 M3 t0 t1 hF3 hf3 => ?_)
  have hfr3 : ck_fr q31_W 249 K R M 249 K3 R3 M3 := ck_fr_tr hfr2 hf3 (by decide) (by decide)
  have hs63 : SPc 206 v M3 := sp_e hf3 (by decide) (by decide) hs62
  have hs73 : SPc 207 v M3 := sp_e hf3 (by decide) (by decide) hs72
  have b6 := (spc_b hs63).1
  have b7 := (spc_b hs73).1
  show gm_Wp X LX d 0 0 181 12 [some (gm_vr 1), some (gm_vi a), some (gm_vi b), some (gm_vi v), none] [gm_vi t] 249 K3 R3 M3 (ck_Q qL_O σ q181.2.2.2.2.1 249 K R M q181.2.2.2.2.2)
  refine fw_if (cc := .eq) (pc := 12) (off := 20) (by decide +kernel) (by decide) ⟨by omega, by omega⟩ (fun hp => ?_) (fun hp => ?_)
  · refine gm_sz (gm_p_const (pc := 32) (i := .iconst 0) (v := gm_vi 0) (by decide +kernel) (by decide +kernel)) ?_
    exact gm_r_int (pc := 33) (by decide +kernel) (Or.inr ⟨(by decide +kernel), Or.inl rfl⟩) (hq 0 _ _ _ (Int.le_refl _) (by decide) hF3 hfr3)
  · refine gm_sz (gm_p_load (pc := 15) (i := .aload_n 0) (sr := 2) (j := 0) (by decide +kernel) rfl rfl rfl) ?_
    refine gm_sz (fw_gr (pc := 16) (ix := 58) (ci := 0) (j := 9) (r := 206) (by decide +kernel) (e0k (e0F (pl_o (qL_p hF3))) (k := 1) (c := 0) (by decide +kernel)) (by decide +kernel) (by decide +kernel) (e0r (e0F (pl_o (qL_p hF3))) (k := 1) (j := 9) (r := 206) (by decide +kernel))) ?_
    refine gm_sz (fw_gi (pc := 19) (ix := 223) (ci := 5) (j := 5) (x := M3 206 5) (by decide +kernel) (e0k (e0F (pl_o (qL_p hF3))) (k := 206) (c := 5) (by decide +kernel)) (by decide +kernel) (by decide +kernel) rfl) ?_
    refine gm_sz (gm_p_load (pc := 22) (i := .aload_n 0) (sr := 2) (j := 0) (by decide +kernel) rfl rfl rfl) ?_
    refine gm_sz (fw_gr (pc := 23) (ix := 62) (ci := 0) (j := 10) (r := 207) (by decide +kernel) (e0k (e0F (pl_o (qL_p hF3))) (k := 1) (c := 0) (by decide +kernel)) (by decide +kernel) (by decide +kernel) (e0r (e0F (pl_o (qL_p hF3))) (k := 1) (j := 10) (r := 207) (by decide +kernel))) ?_
    refine gm_sz (fw_gi (pc := 26) (ix := 223) (ci := 5) (j := 5) (x := M3 207 5) (by decide +kernel) (e0k (e0F (pl_o (qL_p hF3))) (k := 207) (c := 5) (by decide +kernel)) (by decide +kernel) (by decide +kernel) rfl) ?_
    refine fw_ic (cc := .lt) (pc := 29) (off := 5) (by decide +kernel) (by decide) ⟨by omega, by omega⟩ ⟨by omega, by omega⟩ (fun hp2 => ?_) (fun hp2 => ?_)
    · refine gm_sz (gm_p_load (pc := 34) (i := .iload_n 3) (sr := 0) (j := 3) (by decide +kernel) rfl rfl rfl) ?_
      refine gm_sz (gm_p_const (pc := 35) (i := .iconst 1) (v := gm_vi 1) (by decide +kernel) (by decide +kernel)) ?_
      refine gm_sz (gm_p_bin (pc := 36) (i := .iadd) (f := fun x y => x + y) (by decide +kernel) rfl) ?_
      refine gm_sz (gm_p_stor (pc := 37) (i := .istore 4) (sr := 0) (j := 4) (by decide +kernel) rfl (show 5 ≤ _ from Nat.le_of_ble_eq_true rfl) rfl) ?_
      exact q181_l h6 h7 hd h8 hq (300 - (v + 1)).toNat (v + 1) K3 R3 M3 (by omega) (by omega) (by rw [show v + 1 - 1 = v by omega]; exact hs63) (by rw [show v + 1 - 1 = v by omega]; exact hs73) hF3 hfr3
    · refine gm_sz (gm_p_const (pc := 32) (i := .iconst 0) (v := gm_vi 0) (by decide +kernel) (by decide +kernel)) ?_
      exact gm_r_int (pc := 33) (by decide +kernel) (Or.inr ⟨(by decide +kernel), Or.inl rfl⟩) (hq 0 _ _ _ (Int.le_refl _) (by decide) hF3 hfr3)
end FB32
