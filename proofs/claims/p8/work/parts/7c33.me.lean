/-! A MEETING: its row under what is kept. -/
section ME33
variable {X : Int → Int} {LX d n2 : Nat} {K K0 K2 : gm_K} {R R0 R2 : gm_R} {M M0 M2 : gm_M} {Q : gm_Q} {i j l a b y v : Int}
/-- a call that writes nothing and takes nothing for granted, by its row -/
noncomputable def pu_k (S : ck_Sum) : Bool := S.2.1 == 249 && (S.2.2.2.1.1.isEmpty && (S.2.2.2.1.2.1.isEmpty && (S.2.2.2.1.2.2.isEmpty && (S.2.2.2.2.1.1.isEmpty && (S.2.2.2.2.1.2.isEmpty && S.2.2.2.2.2.all fun oc => oc.2.1 == 249)))))
theorem pu_c {S : ck_Sum} {mj : Nat} {vs : List gm_V} (hS : ck_Ok qL_O X LX mj S) (hp : pu_k S = true) (hd : S.1.1 ≤ d) (hvs : ∀ σ, ck_gas σ S.2.2.1 vs) (hF : gm_Fx qL_O 249 K R M) (q : ∀ (σ : Nat → Int) o K2 R2 M2, (∃ oc ∈ S.2.2.2.2.2, ck_ho σ oc.1 o) → gm_Fx qL_O 249 K2 R2 M2 → ck_fr ([], []) 249 K R M 249 K2 R2 M2 → Q o 249 K2 R2 M2) : gm_Wp X LX d S.1.2.1 S.1.2.2 mj 0 (gm_ent mj vs) [] 249 K R M Q := by
  simp only [pu_k, Bool.and_eq_true, beq_iff_eq, List.isEmpty_iff] at hp
  obtain ⟨p1, p2, p3, p4, p5, p6, p7⟩ := hp
  have hσ := ck_sn_s (σ := fun _ => 0) (M := M) qL_nmu
  refine gm_Wp_mono (fun o n' K' R' M' hq => ?_) (hS d (ck_sn qL_O (fun _ => 0) M) vs 249 K R M hd p1.symm (hvs _) hσ hF ⟨(fun q hq => by rw [p2] at hq; exact absurd hq (fun h => nomatch h)), (fun q hq => by rw [p3] at hq; exact absurd hq (fun h => nomatch h)), (fun q hq => by rw [p4] at hq; exact absurd hq (fun h => nomatch h))⟩)
  obtain ⟨hF2, hfr, oc, hoc, ho, hn, -⟩ := hq
  have hn2 := List.all_eq_true.mp p7 oc hoc
  have hn : n' = 249 := hn.trans (beq_iff_eq.mp hn2)
  subst hn
  refine q _ _ _ _ _ ⟨oc, hoc, ho⟩ hF2 ⟨hfr.1, hfr.2.1, fun k j hk hw => hfr.2.2.1 k j hk (fun w hw9 => by rw [p5] at hw9; exact absurd hw9 (fun h => nomatch h)), fun k j hk hw => hfr.2.2.2 k j hk (by rw [p6]; exact fun h => nomatch h)⟩
noncomputable def q143 : ck_Sum := ((7, 1, 6), 249, [.inr (.inr (.inl 1)), .inl (0, 23, [])], ([], [], []), ([], []), [(.inl 3, 249, ([], [], [])), (.inr none, 249, ([], [], []))])
noncomputable def q153 : ck_Sum := ((6, 1, 6), 249, [.inr (.inr (.inl 1)), .inl (0, 23, []), .inl (0, 23, [])], ([], [], []), ([], []), [(.inr none, 249, ([], [], [])), (.inl 0, 249, ([], [], []))])
noncomputable def q180 : ck_Sum := ((1, 0, 0), 249, [.inr (.inr (.inl 1)), .inl (0, 23, []), .inl (0, 23, [])], ([], [], []), ([], []), [(.inr (some (.inl (ck_one 0))), 249, ([], [], [])), (.inr (some (.inl (ck_one 1))), 249, ([], [], []))])
theorem q143_c (hS : ck_Ok qL_O X LX 143 q143) (hd : 7 ≤ d) (hF : gm_Fx qL_O 249 K R M) (ha : 0 ≤ a ∧ a ≤ 23) (q : ∀ o K2 R2 M2, (o = .inr 3 ∨ o = .inl none) → gm_Fx qL_O 249 K2 R2 M2 → ck_fr ([], []) 249 K R M 249 K2 R2 M2 → Q o 249 K2 R2 M2) : gm_Wp X LX d 1 6 143 0 (gm_ent 143 [gm_vr 1, gm_vi a]) [] 249 K R M Q :=
  pu_c (S := q143) hS (by decide) hd (fun σ => ⟨_, _, rfl, rfl, _, _, rfl, ⟨a, rfl, ⟨by omega, by omega⟩, ha.1, ha.2, fun _ h => nomatch h⟩, rfl⟩) hF (fun σ o K2 R2 M2 ho hF2 hf2 => by
    obtain ⟨oc, hoc, ho⟩ := ho
    have hoc : oc ∈ [_, _] := hoc
    simp only [List.mem_cons, List.not_mem_nil, or_false] at hoc
    rcases hoc with rfl | rfl
    · rcases o with (_ | v) | x
      · exact absurd ho id
      · exact absurd ho id
      · have ho : 3 = x := ho
        subst ho
        exact q _ _ _ _ (Or.inl rfl) hF2 hf2
    · rcases o with (_ | v) | x
      · exact q _ _ _ _ (Or.inr rfl) hF2 hf2
      · exact absurd ho id
      · exact absurd ho id)
theorem q153_c (hS : ck_Ok qL_O X LX 153 q153) (hd : 6 ≤ d) (hF : gm_Fx qL_O 249 K R M) (ha : 0 ≤ a ∧ a ≤ 23) (hb : 0 ≤ b ∧ b ≤ 23) (q : ∀ o K2 R2 M2, (o = .inr 0 ∨ o = .inl none) → gm_Fx qL_O 249 K2 R2 M2 → ck_fr ([], []) 249 K R M 249 K2 R2 M2 → Q o 249 K2 R2 M2) : gm_Wp X LX d 1 6 153 0 (gm_ent 153 [gm_vr 1, gm_vi a, gm_vi b]) [] 249 K R M Q :=
  pu_c (S := q153) hS (by decide) hd (fun σ => ⟨_, _, rfl, rfl, _, _, rfl, ⟨a, rfl, ⟨by omega, by omega⟩, ha.1, ha.2, fun _ h => nomatch h⟩, _, _, rfl, ⟨b, rfl, ⟨by omega, by omega⟩, hb.1, hb.2, fun _ h => nomatch h⟩, rfl⟩) hF (fun σ o K2 R2 M2 ho hF2 hf2 => by
    obtain ⟨oc, hoc, ho⟩ := ho
    have hoc : oc ∈ [_, _] := hoc
    simp only [List.mem_cons, List.not_mem_nil, or_false] at hoc
    rcases hoc with rfl | rfl
    · rcases o with (_ | v) | x
      · exact q _ _ _ _ (Or.inr rfl) hF2 hf2
      · exact absurd ho id
      · exact absurd ho id
    · rcases o with (_ | v) | x
      · exact absurd ho id
      · exact absurd ho id
      · have ho : 0 = x := ho
        subst ho
        exact q _ _ _ _ (Or.inl rfl) hF2 hf2)
theorem q180_c (hS : ck_Ok qL_O X LX 180 q180) (hd : 1 ≤ d) (hF : gm_Fx qL_O 249 K R M) (ha : 0 ≤ a ∧ a ≤ 23) (hb : 0 ≤ b ∧ b ≤ 23) (q : ∀ v K2 R2 M2, 0 ≤ v → v ≤ 1 → gm_Fx qL_O 249 K2 R2 M2 → ck_fr ([], []) 249 K R M 249 K2 R2 M2 → Q (.inl (some (gm_vi v))) 249 K2 R2 M2) : gm_Wp X LX d 0 0 180 0 (gm_ent 180 [gm_vr 1, gm_vi a, gm_vi b]) [] 249 K R M Q :=
  pu_c (S := q180) hS (by decide) hd (fun σ => ⟨_, _, rfl, rfl, _, _, rfl, ⟨a, rfl, ⟨by omega, by omega⟩, ha.1, ha.2, fun _ h => nomatch h⟩, _, _, rfl, ⟨b, rfl, ⟨by omega, by omega⟩, hb.1, hb.2, fun _ h => nomatch h⟩, rfl⟩) hF (fun σ o K2 R2 M2 ho hF2 hf2 => by
    obtain ⟨oc, hoc, ho⟩ := ho
    have hoc : oc ∈ [_, _] := hoc
    simp only [List.mem_cons, List.not_mem_nil, or_false] at hoc
    rcases hoc with rfl | rfl
    · rcases o with (_ | v) | x
      · exact absurd ho id
      · obtain ⟨y, rfl, -, y0, y1, -⟩ := ho
        have y0 : (0 : Int) ≤ y := y0
        have y1 : y ≤ (0 : Int) := y1
        exact q y _ _ _ (by omega) (by omega) hF2 hf2
      · exact absurd ho id
    · rcases o with (_ | v) | x
      · exact absurd ho id
      · obtain ⟨y, rfl, -, y0, y1, -⟩ := ho
        have y0 : (1 : Int) ≤ y := y0
        have y1 : y ≤ (1 : Int) := y1
        exact q y _ _ _ (by omega) (by omega) hF2 hf2
      · exact absurd ho id)
noncomputable def q221 : ck_Sum := ((24, 3, 18), 249, [.inr (.inr (.inl 1)), .inl (0, 23, []), .inl (0, 23, [])], ([], [(3, 8, 246)], []), q31_W, [(.inl 3, 249, ([], [], [])), (.inl 0, 249, ([], [], [])), (.inr (some (.inl ((-1), 299, []))), 249, ([], [], []))])
theorem q221_l (h6 : s32_206 X LX) (h7 : s32_207 X LX) (hd : 18 ≤ d) (h80 : R0 3 8 = 246) (hq : ∀ v K2 R2 M2, -1 ≤ v → v ≤ 299 → gm_Fx qL_O 249 K2 R2 M2 → ck_fr q31_W 249 K0 R0 M0 249 K2 R2 M2 → Q (.inl (some (gm_vi v))) 249 K2 R2 M2) : ∀ (u : Nat) (i : Int) (K : gm_K) (R : gm_R) (M : gm_M), i + (u : Int) = 300 → 0 ≤ i → SPc 206 i M → SPc 207 i M → gm_Fx qL_O 249 K R M → ck_fr q31_W 249 K0 R0 M0 249 K R M → gm_Wp X LX d 0 0 221 44 [some (gm_vr 1), some (gm_vi a), some (gm_vi b), some (gm_vi v), some (gm_vi i)] [] 249 K R M Q := by
  intro u
  induction u with
  | zero =>
    intro i K R M hu hi hs hs7 hF hfr
    refine gm_sz (gm_p_load (pc := 44) (i := .iload 4) (sr := 0) (j := 4) (by decide +kernel) rfl rfl rfl) ?_
    refine gm_sz (gm_p_const (pc := 46) (i := .sipush 300) (v := gm_vi 300) (by decide +kernel) (by decide +kernel)) ?_
    refine fw_ict (cc := .ge) (pc := 49) (off := 42) (by decide +kernel) (by decide) ⟨by omega, by omega⟩ ⟨by decide, by decide⟩ (show 300 ≤ i by omega) ?_
    refine gm_sz (gm_p_const (pc := 91) (i := .iconst (-1)) (v := gm_vi (-1)) (by decide +kernel) (by decide +kernel)) ?_
    exact gm_r_int (pc := 92) (by decide +kernel) (Or.inl (by decide +kernel)) (hq (-1) _ _ _ (Int.le_refl _) (by decide) hF hfr)
  | succ u ih =>
    intro i K R M hu hi hs hs7 hF hfr
    refine gm_sz (gm_p_load (pc := 44) (i := .iload 4) (sr := 0) (j := 4) (by decide +kernel) rfl rfl rfl) ?_
    refine gm_sz (gm_p_const (pc := 46) (i := .sipush 300) (v := gm_vi 300) (by decide +kernel) (by decide +kernel)) ?_
    refine fw_icf (cc := .ge) (pc := 49) (off := 42) (by decide +kernel) (by decide) ⟨by omega, by omega⟩ ⟨by decide, by decide⟩ (show ¬ 300 ≤ i by omega) ?_
    refine gm_sz (gm_p_load (pc := 52) (i := .aload_n 0) (sr := 2) (j := 0) (by decide +kernel) rfl rfl rfl) ?_
    refine gm_c_virt (k := 1) (ci := 0) (mj := 183) (ix := 329) (pc := 53) (as := []) (st := []) (d' := 1) (bc' := 0) (bs' := 0) (by decide +kernel) (by decide +kernel) (by decide +kernel) (by decide +kernel) (e0k (e0F (pl_o (qL_p hF))) (k := 1) (c := 0) (by decide +kernel)).1 (e0k (e0F (pl_o (qL_p hF))) (k := 1) (c := 0) (by decide +kernel)).2 (by decide) (by decide +kernel) (show 0 = gm_na 183 by decide +kernel) fw_c0 (show 0 + 1 ≤ gm_ml 183 by decide +kernel) (Nat.le_of_ble_eq_true rfl) (by omega) (Nat.zero_le _) (Nat.zero_le _) ?_
    refine q183_c (Nat.le_refl _) hF hs hs7 (fun t K2 R2 M2 t0 t1 hF2 hf2 => ?_)
    have hfr2 : ck_fr q31_W 249 K0 R0 M0 249 K2 R2 M2 := ck_fr_tr hfr hf2 (by decide) (by decide)
    have hs62 : SPc 206 i M2 := sp_e hf2 (by decide) (by decide) hs
    have hs72 : SPc 207 i M2 := sp_e hf2 (by decide) (by decide) hs7
    have b6 := (spc_b hs62).1
    have b7 := (spc_b hs72).1
    show gm_Wp X LX d 0 0 221 56 [some (gm_vr 1), some (gm_vi a), some (gm_vi b), some (gm_vi v), some (gm_vi i)] [gm_vi t] 249 K2 R2 M2 Q
    refine fw_if (cc := .ne) (pc := 56) (off := 5) (by decide +kernel) (by decide) ⟨by omega, by omega⟩ (fun hp => ?_) (fun hp => ?_)
    · refine gm_sz (gm_p_load (pc := 61) (i := .aload_n 0) (sr := 2) (j := 0) (by decide +kernel) rfl rfl rfl) ?_
      refine gm_sz (fw_gr (pc := 62) (ix := 58) (ci := 0) (j := 9) (r := 206) (by decide +kernel) (e0k (e0F (pl_o (qL_p hF2))) (k := 1) (c := 0) (by decide +kernel)) (by decide +kernel) (by decide +kernel) (e0r (e0F (pl_o (qL_p hF2))) (k := 1) (j := 9) (r := 206) (by decide +kernel))) ?_
      refine gm_sz (fw_gi (pc := 65) (ix := 223) (ci := 5) (j := 5) (x := M2 206 5) (by decide +kernel) (e0k (e0F (pl_o (qL_p hF2))) (k := 206) (c := 5) (by decide +kernel)) (by decide +kernel) (by decide +kernel) rfl) ?_
      refine gm_sz (gm_p_load (pc := 68) (i := .aload_n 0) (sr := 2) (j := 0) (by decide +kernel) rfl rfl rfl) ?_
      refine gm_sz (fw_gr (pc := 69) (ix := 62) (ci := 0) (j := 10) (r := 207) (by decide +kernel) (e0k (e0F (pl_o (qL_p hF2))) (k := 1) (c := 0) (by decide +kernel)) (by decide +kernel) (by decide +kernel) (e0r (e0F (pl_o (qL_p hF2))) (k := 1) (j := 10) (r := 207) (by decide +kernel))) ?_
      refine gm_sz (fw_gi (pc := 72) (ix := 223) (ci := 5) (j := 5) (x := M2 207 5) (by decide +kernel) (e0k (e0F (pl_o (qL_p hF2))) (k := 207) (c := 5) (by decide +kernel)) (by decide +kernel) (by decide +kernel) rfl) ?_
      refine fw_ic (cc := .ne) (pc := 75) (off := 6) (by decide +kernel) (by decide) ⟨by omega, by omega⟩ ⟨by omega, by omega⟩ (fun hp2 => ?_) (fun hp2 => ?_)
      · refine gm_sz (gm_p_load (pc := 81) (i := .aload_n 0) (sr := 2) (j := 0) (by decide +kernel) rfl rfl rfl) ?_
        refine gm_c_virt (k := 1) (ci := 0) (mj := 184) (ix := 332) (pc := 82) (as := []) (st := []) (d' := 14) (bc' := 0) (bs' := 0) (by decide +kernel) (by decide +kernel) (by decide +kernel) (by decide +kernel) (e0k (e0F (pl_o (qL_p hF2))) (k := 1) (c := 0) (by decide +kernel)).1 (e0k (e0F (pl_o (qL_p hF2))) (k := 1) (c := 0) (by decide +kernel)).2 (by decide) (by decide +kernel) (show 0 = gm_na 184 by decide +kernel) fw_c0 (show 0 + 1 ≤ gm_ml 184 by decide +kernel) (Nat.le_of_ble_eq_true rfl) (by omega) (Nat.zero_le _) (Nat.zero_le _) ?_
        refine q184_c h6 h7 (Nat.le_refl _) hF2 (r8_f h80 hfr2) hs62 hs72 (by omega) (by omega) (fun K3 R3 M3 hF3 hf3 hs63 hs73 => ?_)
        have hfr3 : ck_fr q31_W 249 K0 R0 M0 249 K3 R3 M3 := ck_fr_tr hfr2 hf3 (by decide) (by decide)
        show gm_Wp X LX d 0 0 221 85 [some (gm_vr 1), some (gm_vi a), some (gm_vi b), some (gm_vi v), some (gm_vi i)] [] 249 K3 R3 M3 Q
        refine gm_sz (gm_p_iinc (pc := 85) (j := 4) (z := 1) (by decide +kernel) rfl) ?_
        refine gm_sz (gm_p_goto (pc := 88) (off := (-44)) (by decide +kernel) (by decide)) ?_
        exact ih (i + 1) K3 R3 M3 (by omega) (by omega) hs63 hs73 hF3 hfr3
      · refine gm_sz (gm_p_load (pc := 78) (i := .iload 4) (sr := 0) (j := 4) (by decide +kernel) rfl rfl rfl) ?_
        exact gm_r_int (pc := 80) (by decide +kernel) (Or.inl (by decide +kernel)) (hq i _ _ _ (by omega) (by omega) hF2 hfr2)
    · refine gm_sz (gm_p_const (pc := 59) (i := .iconst (-1)) (v := gm_vi (-1)) (by decide +kernel) (by decide +kernel)) ?_
      exact gm_r_int (pc := 60) (by decide +kernel) (Or.inl (by decide +kernel)) (hq (-1) _ _ _ (Int.le_refl _) (by decide) hF2 hfr2)
theorem q221_s (h6 : s32_206 X LX) (h7 : s32_207 X LX) (s6 : ck_Ok qL_O X LX 27 q27_206) (s7 : ck_Ok qL_O X LX 27 q27_207) (t143 : ck_Ok qL_O X LX 143 q143) (t153 : ck_Ok qL_O X LX 153 q153) (t180 : ck_Ok qL_O X LX 180 q180) : ck_Ok qL_O X LX 221 q221 := by
  intro d σ vs n K R M hd hn hvs hσ hF hf
  obtain ⟨v0, w0, rfl, g0, v1, w1, rfl, ⟨a, rfl, ha, a0, a1, -⟩, v2, w2, rfl, ⟨b, rfl, hb, b0, b1, -⟩, g4⟩ := hvs
  have g4 : w2 = [] := g4
  subst g4
  have g0 : v0 = gm_vr 1 := g0
  subst g0
  have a0 : (0 : Int) ≤ a := a0
  have a1 : a ≤ (23 : Int) := a1
  have b0 : (0 : Int) ≤ b := b0
  have b1 : b ≤ (23 : Int) := b1
  have hn : n = 249 := hn
  subst hn
  have hd : 24 ≤ d := hd
  have h8 : R 3 8 = 246 := (hf.2.1 (3, 8, 246) List.mem_cons_self).2
  have hq : ∀ v K2 R2 M2, -1 ≤ v → v ≤ 299 → gm_Fx qL_O 249 K2 R2 M2 → ck_fr q31_W 249 K R M 249 K2 R2 M2 → (ck_Q qL_O σ q221.2.2.2.2.1 249 K R M q221.2.2.2.2.2) (.inl (some (gm_vi v))) 249 K2 R2 M2 := fun t K9 R9 M9 t0 t1 hF9 hfr9 => ⟨hF9, hfr9, _, List.mem_cons_of_mem _ (List.mem_cons_of_mem _ List.mem_cons_self), ⟨t, rfl, ⟨by omega, by omega⟩, t0, t1, (fun _ h => nomatch h)⟩, rfl, (fun _ h => nomatch h), (fun _ h => nomatch h), (fun _ h => nomatch h)⟩
  have x3 : ∀ K2 R2 M2, gm_Fx qL_O 249 K2 R2 M2 → ck_fr q31_W 249 K R M 249 K2 R2 M2 → (ck_Q qL_O σ q221.2.2.2.2.1 249 K R M q221.2.2.2.2.2) (.inr 3) 249 K2 R2 M2 := fun K9 R9 M9 hF9 hfr9 => ⟨hF9, hfr9, _, List.mem_cons_self, rfl, rfl, (fun _ h => nomatch h), (fun _ h => nomatch h), (fun _ h => nomatch h)⟩
  have x0 : ∀ K2 R2 M2, gm_Fx qL_O 249 K2 R2 M2 → ck_fr q31_W 249 K R M 249 K2 R2 M2 → (ck_Q qL_O σ q221.2.2.2.2.1 249 K R M q221.2.2.2.2.2) (.inr 0) 249 K2 R2 M2 := fun K9 R9 M9 hF9 hfr9 => ⟨hF9, hfr9, _, List.mem_cons_of_mem _ List.mem_cons_self, rfl, rfl, (fun _ h => nomatch h), (fun _ h => nomatch h), (fun _ h => nomatch h)⟩
  refine gm_sz (gm_p_load (pc := 0) (i := .aload_n 0) (sr := 2) (j := 0) (by decide +kernel) rfl rfl rfl) ?_
  refine gm_sz (gm_p_load (pc := 1) (i := .iload_n 1) (sr := 0) (j := 1) (by decide +kernel) rfl rfl rfl) ?_
  refine gm_c_virt (k := 1) (ci := 0) (mj := 143) (ix := 200) (pc := 2) (as := [gm_vi a]) (st := []) (d' := 7) (bc' := 1) (bs' := 6) (by decide +kernel) (by decide +kernel) (by decide +kernel) (by decide +kernel) (e0k (e0F (pl_o (qL_p hF))) (k := 1) (c := 0) (by decide +kernel)).1 (e0k (e0F (pl_o (qL_p hF))) (k := 1) (c := 0) (by decide +kernel)).2 (by decide) (by decide +kernel) (show 1 = gm_na 143 by decide +kernel) (fw_c1 (by simp [gm_sort])) (show 1 + 1 ≤ gm_ml 143 by decide +kernel) (Nat.le_of_ble_eq_true rfl) (by omega) (by decide) (by decide) ?_
  refine q143_c t143 (Nat.le_refl _) hF ⟨a0, a1⟩ (fun o K2 R2 M2 ho hF2 hf2 => ?_)
  have hfr2 : ck_fr q31_W 249 K R M 249 K2 R2 M2 := ck_fr_tr ck_fr_0 hf2 (by decide) (by decide)
  rcases ho with rfl | rfl
  · exact x3 _ _ _ hF2 hfr2
  show gm_Wp X LX d 2 12 221 5 [some (gm_vr 1), some (gm_vi a), some (gm_vi b), none, none] [] 249 K2 R2 M2 (ck_Q qL_O σ q221.2.2.2.2.1 249 K R M q221.2.2.2.2.2)
  refine gm_sz (gm_p_load (pc := 5) (i := .aload_n 0) (sr := 2) (j := 0) (by decide +kernel) rfl rfl rfl) ?_
  refine gm_sz (gm_p_load (pc := 6) (i := .iload_n 2) (sr := 0) (j := 2) (by decide +kernel) rfl rfl rfl) ?_
  refine gm_c_virt (k := 1) (ci := 0) (mj := 143) (ix := 200) (pc := 7) (as := [gm_vi b]) (st := []) (d' := 7) (bc' := 1) (bs' := 6) (by decide +kernel) (by decide +kernel) (by decide +kernel) (by decide +kernel) (e0k (e0F (pl_o (qL_p hF2))) (k := 1) (c := 0) (by decide +kernel)).1 (e0k (e0F (pl_o (qL_p hF2))) (k := 1) (c := 0) (by decide +kernel)).2 (by decide) (by decide +kernel) (show 1 = gm_na 143 by decide +kernel) (fw_c1 (by simp [gm_sort])) (show 1 + 1 ≤ gm_ml 143 by decide +kernel) (Nat.le_of_ble_eq_true rfl) (by omega) (by decide) (by decide) ?_
  refine q143_c t143 (Nat.le_refl _) hF2 ⟨b0, b1⟩ (fun o K3 R3 M3 ho hF3 hf3 => ?_)
  have hfr3 : ck_fr q31_W 249 K R M 249 K3 R3 M3 := ck_fr_tr hfr2 hf3 (by decide) (by decide)
  rcases ho with rfl | rfl
  · exact x3 _ _ _ hF3 hfr3
  show gm_Wp X LX d 1 6 221 10 [some (gm_vr 1), some (gm_vi a), some (gm_vi b), none, none] [] 249 K3 R3 M3 (ck_Q qL_O σ q221.2.2.2.2.1 249 K R M q221.2.2.2.2.2)
  refine gm_sz (gm_p_load (pc := 10) (i := .aload_n 0) (sr := 2) (j := 0) (by decide +kernel) rfl rfl rfl) ?_
  refine gm_sz (gm_p_load (pc := 11) (i := .iload_n 1) (sr := 0) (j := 1) (by decide +kernel) rfl rfl rfl) ?_
  refine gm_sz (gm_p_load (pc := 12) (i := .iload_n 2) (sr := 0) (j := 2) (by decide +kernel) rfl rfl rfl) ?_
  refine gm_c_virt (k := 1) (ci := 0) (mj := 153) (ix := 234) (pc := 13) (as := [gm_vi a, gm_vi b]) (st := []) (d' := 6) (bc' := 1) (bs' := 6) (by decide +kernel) (by decide +kernel) (by decide +kernel) (by decide +kernel) (e0k (e0F (pl_o (qL_p hF3))) (k := 1) (c := 0) (by decide +kernel)).1 (e0k (e0F (pl_o (qL_p hF3))) (k := 1) (c := 0) (by decide +kernel)).2 (by decide) (by decide +kernel) (show 2 = gm_na 153 by decide +kernel) (fun v hv => by simp only [List.mem_cons, List.not_mem_nil, or_false] at hv; rcases hv with rfl | rfl <;> simp [gm_sort]) (show 2 + 1 ≤ gm_ml 153 by decide +kernel) (Nat.le_of_ble_eq_true rfl) (by omega) (by decide) (by decide) ?_
  refine q153_c t153 (Nat.le_refl _) hF3 ⟨a0, a1⟩ ⟨b0, b1⟩ (fun o K4 R4 M4 ho hF4 hf4 => ?_)
  have hfr4 : ck_fr q31_W 249 K R M 249 K4 R4 M4 := ck_fr_tr hfr3 hf4 (by decide) (by decide)
  rcases ho with rfl | rfl
  · exact x0 _ _ _ hF4 hfr4
  show gm_Wp X LX d 0 0 221 16 [some (gm_vr 1), some (gm_vi a), some (gm_vi b), none, none] [] 249 K4 R4 M4 (ck_Q qL_O σ q221.2.2.2.2.1 249 K R M q221.2.2.2.2.2)
  refine gm_sz (gm_p_load (pc := 16) (i := .aload_n 0) (sr := 2) (j := 0) (by decide +kernel) rfl rfl rfl) ?_
  refine gm_sz (gm_p_load (pc := 17) (i := .iload_n 1) (sr := 0) (j := 1) (by decide +kernel) rfl rfl rfl) ?_
  refine gm_sz (gm_p_load (pc := 18) (i := .iload_n 2) (sr := 0) (j := 2) (by decide +kernel) rfl rfl rfl) ?_
  refine gm_c_virt (k := 1) (ci := 0) (mj := 180) (ix := 319) (pc := 19) (as := [gm_vi a, gm_vi b]) (st := []) (d' := 1) (bc' := 0) (bs' := 0) (by decide +kernel) (by decide +kernel) (by decide +kernel) (by decide +kernel) (e0k (e0F (pl_o (qL_p hF4))) (k := 1) (c := 0) (by decide +kernel)).1 (e0k (e0F (pl_o (qL_p hF4))) (k := 1) (c := 0) (by decide +kernel)).2 (by decide) (by decide +kernel) (show 2 = gm_na 180 by decide +kernel) (fun v hv => by simp only [List.mem_cons, List.not_mem_nil, or_false] at hv; rcases hv with rfl | rfl <;> simp [gm_sort]) (show 2 + 1 ≤ gm_ml 180 by decide +kernel) (Nat.le_of_ble_eq_true rfl) (by omega) (Nat.zero_le _) (Nat.zero_le _) ?_
  refine q180_c t180 (Nat.le_refl _) hF4 ⟨a0, a1⟩ ⟨b0, b1⟩ (fun t K5 R5 M5 t0 t1 hF5 hf5 => ?_)
  have hfr5 : ck_fr q31_W 249 K R M 249 K5 R5 M5 := ck_fr_tr hfr4 hf5 (by decide) (by decide)
  show gm_Wp X LX d 0 0 221 22 [some (gm_vr 1), some (gm_vi a), some (gm_vi b), none, none] [gm_vi t] 249 K5 R5 M5 (ck_Q qL_O σ q221.2.2.2.2.1 249 K R M q221.2.2.2.2.2)
  refine fw_if (cc := .ne) (pc := 22) (off := 5) (by decide +kernel) (by decide) ⟨by omega, by omega⟩ (fun hp => ?_) (fun hp => ?_)
  · refine gm_sz (gm_p_load (pc := 27) (i := .aload_n 0) (sr := 2) (j := 0) (by decide +kernel) rfl rfl rfl) ?_
    refine gm_sz (gm_p_load (pc := 28) (i := .iload_n 1) (sr := 0) (j := 1) (by decide +kernel) rfl rfl rfl) ?_
    refine gm_sz (gm_p_load (pc := 29) (i := .iload_n 2) (sr := 0) (j := 2) (by decide +kernel) rfl rfl rfl) ?_
    refine gm_sz (gm_p_load (pc := 30) (i := .aload_n 0) (sr := 2) (j := 0) (by decide +kernel) rfl rfl rfl) ?_
    refine gm_sz (fw_gr (pc := 31) (ix := 23) (ci := 0) (j := 3) (r := 3) (by decide +kernel) (e0k (e0F (pl_o (qL_p hF5))) (k := 1) (c := 0) (by decide +kernel)) (by decide +kernel) (by decide +kernel) (e0r (e0F (pl_o (qL_p hF5))) (k := 1) (j := 3) (r := 3) (by decide +kernel))) ?_
    have hy := ((gm_tyr_s (pl_o (qL_p hF5)) (show gm_tyr p2_O 3 6 6 = some (0, 299) by decide +kernel)).2 6 (Int.le_refl _) (Int.le_refl _)).2
    refine gm_sz (fw_gi (pc := 34) (ix := 269) (ci := 1) (j := 6) (x := M5 3 6) (by decide +kernel) (e0k (e0F (pl_o (qL_p hF5))) (k := 3) (c := 1) (by decide +kernel)) (by decide +kernel) (by decide +kernel) rfl) ?_
    refine gm_c_virt (k := 1) (ci := 0) (mj := 182) (ix := 326) (pc := 37) (as := [gm_vi a, gm_vi b, gm_vi (M5 3 6)]) (st := []) (d' := 15) (bc' := 0) (bs' := 0) (by decide +kernel) (by decide +kernel) (by decide +kernel) (by decide +kernel) (e0k (e0F (pl_o (qL_p hF5))) (k := 1) (c := 0) (by decide +kernel)).1 (e0k (e0F (pl_o (qL_p hF5))) (k := 1) (c := 0) (by decide +kernel)).2 (by decide) (by decide +kernel) (show 3 = gm_na 182 by decide +kernel) (fun v hv => by simp only [List.mem_cons, List.not_mem_nil, or_false] at hv; rcases hv with rfl | rfl | rfl <;> simp [gm_sort]) (show 3 + 1 ≤ gm_ml 182 by decide +kernel) (Nat.le_of_ble_eq_true rfl) (by omega) (Nat.zero_le _) (Nat.zero_le _) ?_
    refine q182_c h6 h7 s6 s7 (Nat.le_refl _) hF5 (r8_f h8 hfr5) ⟨a0, a1⟩ ⟨b0, b1⟩ hy (fun v K6 R6 M6 v0 v1 hF6 hf6 hs6 hs7 => ?_)
    show gm_Wp X LX d 0 0 221 40 [some (gm_vr 1), some (gm_vi a), some (gm_vi b), none, none] [gm_vi v] 249 K6 R6 M6 (ck_Q qL_O σ q221.2.2.2.2.1 249 K R M q221.2.2.2.2.2)
    refine gm_sz (gm_p_stor (pc := 40) (i := .istore_n 3) (sr := 0) (j := 3) (by decide +kernel) rfl (show 4 ≤ _ from Nat.le_of_ble_eq_true rfl) rfl) ?_
    refine gm_sz (gm_p_load (pc := 41) (i := .iload_n 3) (sr := 0) (j := 3) (by decide +kernel) rfl rfl rfl) ?_
    refine gm_sz (gm_p_stor (pc := 42) (i := .istore 4) (sr := 0) (j := 4) (by decide +kernel) rfl (show 5 ≤ _ from Nat.le_of_ble_eq_true rfl) rfl) ?_
    exact q221_l h6 h7 (by omega) h8 hq (300 - v).toNat v K6 R6 M6 (by omega) v0 hs6 hs7 hF6 (ck_fr_tr hfr5 hf6 (by decide) (by decide))
  · refine gm_sz (gm_p_const (pc := 25) (i := .iconst (-1)) (v := gm_vi (-1)) (by decide +kernel) (by decide +kernel)) ?_
    exact gm_r_int (pc := 26) (by decide +kernel) (Or.inl (by decide +kernel)) (hq (-1) _ _ _ (Int.le_refl _) (by decide) hF5 hfr5)
end ME33
