/-! 7a03.c3ro -/
section
/-! A WAY: a step, to its end, on to a year; FLOW by what is said of it (laid by wip/core/c3.py). -/
/-- what neither the remembered flows nor the law stand in -/
def okF (W : List (Nat × Option Int)) : Bool := W.all fun w => decide (w.1 < 246) && (!(w.1 == 200) && !(w.1 == 205))
def FSt (FI : gm_M → Prop) : Prop := ∀ (W : List (Nat × Option Int)) (M M2 : gm_M), okF W = true → fr W M M2 → FI M → FI M2
/-- flowAt, by what it answers -/
def FLW (X : Int → Int) (LX n : Nat) (K : gm_K) (R : gm_R) (N h : Int → Int) (sp : Int → Int → Int) (FI : gm_M → Prop) (φ : Int → Int → Int → Int) : Prop := (∀ l r y, 0 ≤ φ l r y ∧ φ l r y ≤ 30) ∧ FSt FI ∧ ∀ (d bc bs : Nat) (M : gm_M) (Q : gm_Q) (lane row year : Int), 12 ≤ d → 0 ≤ lane ∧ lane < N 0 → 0 ≤ row ∧ row < N 1 → 0 ≤ year ∧ year < 300 → TI N h sp M → FI M → (∀ M2, fr [(200, some 6), (204, none), (205, none)] M M2 → FI M2 → Q (.inl (some (gm_vi (φ lane row year)))) n K R M2) → gm_Wp X LX d bc bs 35 0 (gm_ent 35 [gm_vr 200, gm_vi lane, gm_vi row, gm_vi year]) [] n K R M Q
/-- how deep a YEAR later -/
def ndp (N h : Int → Int) (rock y : Int) (q : Int × Int) : Int := if ¬ rock = 0 then 0 else if q.1 < N 10 then min 99 (q.2 + N 11) else max 0 (q.2 - h y)
/-- a YEAR more: row, deep -/
def nst (N h : Int → Int) (φ : Int → Int → Int → Int) (lane rock wo y : Int) (q : Int × Int) : Int × Int := if N 1 ≤ q.1 then q else (nfl N y wo (N 5).toNat (q.1 + φ lane q.1 y), ndp N h rock y q)
def nwy (N h : Int → Int) (φ : Int → Int → Int → Int) (lane rock wo y0 r0 : Int) : Nat → Int × Int
  | 0 => (r0, 0)
  | k + 1 => nst N h φ lane rock wo (y0 + (k : Int)) (nwy N h φ lane rock wo y0 r0 k)
section WY2
variable {X : Int → Int} {LX d bc bs n : Nat} {K : gm_K} {R : gm_R} {M : gm_M} {Q : gm_Q} {lane rock wo y0 r0 r dp y lim : Int} {N h : Int → Int} {sp : Int → Int → Int} {FI : gm_M → Prop} {φ : Int → Int → Int → Int}
theorem ndp_b (hN : NR N) (hh : 0 ≤ h y ∧ h y ≤ 9) {q : Int × Int} (h2 : 0 ≤ q.2 ∧ q.2 ≤ 99) : 0 ≤ ndp N h rock y q ∧ ndp N h rock y q ≤ 99 := by
  have a := hN.1.2.2.2.1
  unfold ndp
  split
  · exact ⟨Int.le_refl _, by decide⟩
  · split
    · exact ⟨by omega, by omega⟩
    · exact ⟨by omega, by omega⟩
theorem nst_b (hN : NR N) (hφ : ∀ l r y, 0 ≤ φ l r y ∧ φ l r y ≤ 30) (hh : 0 ≤ h y ∧ h y ≤ 9) {q : Int × Int} (h1 : 0 ≤ q.1 ∧ q.1 ≤ 300) (h2 : 0 ≤ q.2 ∧ q.2 ≤ 99) : (0 ≤ (nst N h φ lane rock wo y q).1 ∧ (nst N h φ lane rock wo y q).1 ≤ 300) ∧ (0 ≤ (nst N h φ lane rock wo y q).2 ∧ (nst N h φ lane rock wo y q).2 ≤ 99) := by
  have a1 := hN.1.2.1
  have a5 := hN.2.1.2.1
  have f := hφ lane q.1 y
  unfold nst
  by_cases hq : N 1 ≤ q.1
  · rw [if_pos hq]
    exact ⟨h1, h2⟩
  · rw [if_neg hq]
    have b := nfl_b (N := N) (y := y) (wo := wo) (r := q.1 + φ lane q.1 y) (fun f h1 h2 => (hN.2.2.1 f h1 h2).2.2) (N 5).toNat (by omega)
    refine ⟨⟨?_, ?_⟩, ndp_b hN hh h2⟩
    · show 0 ≤ nfl N y wo (N 5).toNat (q.1 + φ lane q.1 y)
      omega
    · show nfl N y wo (N 5).toNat (q.1 + φ lane q.1 y) ≤ 300
      omega
theorem nwy_b (hN : NR N) (hφ : ∀ l r y, 0 ≤ φ l r y ∧ φ l r y ≤ 30) (hh : ∀ y, 0 ≤ y → y < 300 → 0 ≤ h y ∧ h y ≤ 9) (hy : 0 ≤ y0) (hr : 0 ≤ r0 ∧ r0 ≤ 300) : ∀ k : Nat, y0 + (k : Int) ≤ 300 → (0 ≤ (nwy N h φ lane rock wo y0 r0 k).1 ∧ (nwy N h φ lane rock wo y0 r0 k).1 ≤ 300) ∧ (0 ≤ (nwy N h φ lane rock wo y0 r0 k).2 ∧ (nwy N h φ lane rock wo y0 r0 k).2 ≤ 99) := by
  intro k
  induction k with
  | zero => intro _; exact ⟨hr, Int.le_refl 0, show (0 : Int) ≤ 99 by decide⟩
  | succ k ih =>
    intro hk
    obtain ⟨i1, i2⟩ := ih (by omega)
    exact nst_b hN hφ (hh _ (by omega) (by omega)) i1 i2
theorem wy_dq206 (hd : 1 ≤ d) (hE : E0 n K R) (hT : TI N h sp M) (hN : NR N) (h3 : M 206 3 = rock) (h5 : M 206 5 = r) (h6 : M 206 6 = dp) (h7 : M 206 7 = y) (g3 : 0 ≤ rock ∧ rock ≤ 1) (g5 : 0 ≤ r ∧ r ≤ 10000) (g6 : 0 ≤ dp ∧ dp ≤ 99) (g7 : 0 ≤ y ∧ y < 300) (hq : Q (.inl (some (gm_vi (ndp N h rock y (r, dp))))) n K R M) : gm_Wp X LX d bc bs 33 0 (gm_ent 33 [gm_vr 206]) [] n K R M Q := by
  subst h3 h5 h6 h7
  unfold ndp at hq
  refine wy_dp206 hd hE hT hN g3 g6 g5 g7 (fun a b => ?_) (fun a b => ?_) (fun a => ?_)
  · rw [if_neg (fun h => h a), if_neg (show ¬ (M 206 5 : Int) < N 10 by omega)] at hq
    exact hq
  · rw [if_neg (fun h => h a), if_pos (show (M 206 5 : Int) < N 10 by omega)] at hq
    exact hq
  · rw [if_pos a] at hq
    exact hq
theorem wy_step206 (hd : 14 ≤ d) (hE : E0 n K R) (hT : TI N h sp M) (hN : NR N) (hfw : FLW X LX n K R N h sp FI φ) (hI : FI M) (g2 : M 206 2 = lane) (g3 : M 206 3 = rock) (g4 : M 206 4 = wo) (g5 : M 206 5 = r) (g6 : M 206 6 = dp) (g7 : M 206 7 = y) (b2 : 0 ≤ lane ∧ lane < N 0) (b3 : 0 ≤ rock ∧ rock ≤ 1) (hwo9 : gm_ir wo) (b5 : 0 ≤ r ∧ r ≤ 300) (b6 : 0 ≤ dp ∧ dp ≤ 99) (b7 : 0 ≤ y ∧ y < 300) (hq : ∀ M2, fr [(206, some 5), (206, some 6), (206, some 7), (206, some 8), (200, some 6), (204, none), (205, none)] M M2 → FI M2 → M2 206 5 = (nst N h φ lane rock wo y (r, dp)).1 → M2 206 6 = (nst N h φ lane rock wo y (r, dp)).2 → M2 206 7 = y + 1 → Q (.inl none) n K R M2) : gm_Wp X LX d bc bs 32 0 (gm_ent 32 [gm_vr 206]) [] n K R M Q := by
  have n1 := hN.1.2.1
  refine gm_sz (gm_p_load (pc := 0) (i := .aload_n 0) (sr := 2) (j := 0) (by decide +kernel) rfl rfl rfl) ?_
  refine gm_c_virt (k := 206) (ci := 5) (mj := 31) (ix := 68) (pc := 1) (as := []) (st := []) (d' := d - 1) (bc' := 0) (bs' := 0) (by decide +kernel) (by decide +kernel) (by decide +kernel) (by decide +kernel) (e0k hE (k := 206) (c := 5) (by decide +kernel)).1 (e0k hE (k := 206) (c := 5) (by decide +kernel)).2 (by decide) (by decide +kernel) (show 0 = gm_na 31 by decide +kernel) fw_c0 (show 1 ≤ gm_ml 31 by decide +kernel) (Nat.le_of_ble_eq_true rfl) (by omega) (Nat.zero_le _) (Nat.zero_le _) ?_
  refine wy_out206 hE hT hN (by rw [show M 206 5 = r from g5]; exact ⟨by omega, by omega⟩) (fun o1 => ?_) (fun o1 => ?_)
  · show gm_Wp X LX d _ _ 32 4 _ [gm_vi 0] n K _ _ Q
    rw [show M 206 5 = r from g5] at o1
    have o1 : ¬ N 1 ≤ r := by omega
    refine fw_iffd (cc := .ne) (pc := 4) (off := 45) (by decide +kernel) (by decide) ⟨by decide, by decide⟩ (by decide) ?_
    refine gm_sz (gm_p_load (pc := 7) (i := .aload_n 0) (sr := 2) (j := 0) (by decide +kernel) rfl rfl rfl) ?_
    refine gm_c_virt (k := 206) (ci := 5) (mj := 33) (ix := 72) (pc := 8) (as := []) (st := []) (d' := d - 1) (bc' := 0) (bs' := 0) (by decide +kernel) (by decide +kernel) (by decide +kernel) (by decide +kernel) (e0k hE (k := 206) (c := 5) (by decide +kernel)).1 (e0k hE (k := 206) (c := 5) (by decide +kernel)).2 (by decide) (by decide +kernel) (show 0 = gm_na 33 by decide +kernel) fw_c0 (show 1 ≤ gm_ml 33 by decide +kernel) (Nat.le_of_ble_eq_true rfl) (by omega) (Nat.zero_le _) (Nat.zero_le _) ?_
    refine wy_dq206 (rock := rock) (r := r) (dp := dp) (y := y) (by omega) hE hT hN g3 g5 g6 g7 ⟨by omega, by omega⟩ ⟨by omega, by omega⟩ ⟨by omega, by omega⟩ ⟨by omega, by omega⟩ ?_
    show gm_Wp X LX d _ _ 32 11 _ [gm_vi (ndp N h rock y (r, dp))] n K _ _ Q
    refine gm_sz (gm_p_stor (pc := 11) (i := .istore_n 1) (sr := 0) (j := 1) (by decide +kernel) rfl (show 2 ≤ _ from Nat.le_of_ble_eq_true rfl) rfl) ?_
    refine gm_sz (gm_p_load (pc := 12) (i := .aload_n 0) (sr := 2) (j := 0) (by decide +kernel) rfl rfl rfl) ?_
    refine gm_sz (gm_p_dup (pc := 13) (by decide +kernel) fw_sr) ?_
    refine gm_sz (fw_gi (pc := 14) (ix := 22) (ci := 5) (j := 5) (x := r) (by decide +kernel) (e0k hE (k := 206) (c := 5) (by decide +kernel)) (by decide +kernel) (by decide +kernel) g5) ?_
    refine gm_sz (gm_p_load (pc := 17) (i := .aload_n 0) (sr := 2) (j := 0) (by decide +kernel) rfl rfl rfl) ?_
    refine gm_sz (fw_gr (pc := 18) (ix := 38) (ci := 5) (j := 1) (r := 200) (by decide +kernel) (e0k hE (k := 206) (c := 5) (by decide +kernel)) (by decide +kernel) (by decide +kernel) (e0r hE (k := 206) (j := 1) (r := 200) (by decide +kernel))) ?_
    refine gm_sz (gm_p_load (pc := 21) (i := .aload_n 0) (sr := 2) (j := 0) (by decide +kernel) rfl rfl rfl) ?_
    refine gm_sz (fw_gi (pc := 22) (ix := 9) (ci := 5) (j := 2) (x := lane) (by decide +kernel) (e0k hE (k := 206) (c := 5) (by decide +kernel)) (by decide +kernel) (by decide +kernel) g2) ?_
    refine gm_sz (gm_p_load (pc := 25) (i := .aload_n 0) (sr := 2) (j := 0) (by decide +kernel) rfl rfl rfl) ?_
    refine gm_sz (fw_gi (pc := 26) (ix := 22) (ci := 5) (j := 5) (x := r) (by decide +kernel) (e0k hE (k := 206) (c := 5) (by decide +kernel)) (by decide +kernel) (by decide +kernel) g5) ?_
    refine gm_sz (gm_p_load (pc := 29) (i := .aload_n 0) (sr := 2) (j := 0) (by decide +kernel) rfl rfl rfl) ?_
    refine gm_sz (fw_gi (pc := 30) (ix := 28) (ci := 5) (j := 7) (x := y) (by decide +kernel) (e0k hE (k := 206) (c := 5) (by decide +kernel)) (by decide +kernel) (by decide +kernel) g7) ?_
    refine gm_c_virt (k := 200) (ci := 4) (mj := 35) (ix := 76) (pc := 33) (as := [gm_vi lane, gm_vi r, gm_vi y]) (st := [gm_vi r, gm_vr 206]) (d' := d - 1) (bc' := 0) (bs' := 0) (by decide +kernel) (by decide +kernel) (by decide +kernel) (by decide +kernel) (e0k hE (k := 200) (c := 4) (by decide +kernel)).1 (e0k hE (k := 200) (c := 4) (by decide +kernel)).2 (by decide) (by decide +kernel) (show 3 = gm_na 35 by decide +kernel) (fw_c3 fw_si fw_si fw_si) (show 4 ≤ gm_ml 35 by decide +kernel) (Nat.le_of_ble_eq_true rfl) (by omega) (Nat.zero_le _) (Nat.zero_le _) ?_
    refine hfw.2.2 _ _ _ _ _ _ _ _ (by omega) ⟨by omega, by omega⟩ ⟨by omega, by omega⟩ ⟨by omega, by omega⟩ hT hI (fun M19 hf19 hI19 => ?_)
    show gm_Wp X LX d _ _ 32 36 _ [gm_vi (φ lane r y), gm_vi r, gm_vr 206] n K _ _ Q
    have hφ9 := hfw.1 lane r y
    refine gm_sz (gm_p_bin (pc := 36) (i := .iadd) (f := fun x y => x + y) (by decide +kernel) rfl) ?_
    refine gm_sz (fw_pi (pc := 37) (ix := 22) (ci := 5) (j := 5) (M' := gm_uM M19 206 5 (r + (φ lane r y))) (by decide +kernel) (e0k hE (k := 206) (c := 5) (by decide +kernel)) (by decide +kernel) (by decide +kernel) (by decide +kernel) rfl) ?_
    refine gm_sz (gm_p_load (pc := 40) (i := .aload_n 0) (sr := 2) (j := 0) (by decide +kernel) rfl rfl rfl) ?_
    refine gm_c_virt (k := 206) (ci := 5) (mj := 43) (ix := 82) (pc := 41) (as := []) (st := []) (d' := d - 1) (bc' := 0) (bs' := 0) (by decide +kernel) (by decide +kernel) (by decide +kernel) (by decide +kernel) (e0k hE (k := 206) (c := 5) (by decide +kernel)).1 (e0k hE (k := 206) (c := 5) (by decide +kernel)).2 (by decide) (by decide +kernel) (show 0 = gm_na 43 by decide +kernel) fw_c0 (show 1 ≤ gm_ml 43 by decide +kernel) (Nat.le_of_ble_eq_true rfl) (by omega) (Nat.zero_le _) (Nat.zero_le _) ?_
    refine wy_c43_206 (wo := wo) (r0 := r + (φ lane r y)) (y := y) (by omega) hE (ti_fr (W := [(200, some 6), (204, none), (205, none), (206, some 5)]) hT (fr_p (fr_t fr_0 hf19 (by decide)) (Or.inr (by decide))) (by decide) (by decide +kernel)) hN ((uM_ne (by omega)).trans ((fr_c hf19 (by decide)).trans g4)) uM_at ((uM_ne (by omega)).trans ((fr_c hf19 (by decide)).trans g7)) ⟨by omega, by omega⟩ hwo9 ⟨by omega, by omega⟩ (fun M28 hf28 e528 => ?_)
    show gm_Wp X LX d _ _ 32 44 _ [] n K _ _ Q
    refine gm_sz (gm_p_load (pc := 44) (i := .aload_n 0) (sr := 2) (j := 0) (by decide +kernel) rfl rfl rfl) ?_
    refine gm_sz (gm_p_load (pc := 45) (i := .iload_n 1) (sr := 0) (j := 1) (by decide +kernel) rfl rfl rfl) ?_
    refine gm_sz (fw_pi (pc := 46) (ix := 25) (ci := 5) (j := 6) (M' := gm_uM M28 206 6 (ndp N h rock y (r, dp))) (by decide +kernel) (e0k hE (k := 206) (c := 5) (by decide +kernel)) (by decide +kernel) (by decide +kernel) (by decide +kernel) rfl) ?_
    refine gm_sz (gm_p_load (pc := 49) (i := .aload_n 0) (sr := 2) (j := 0) (by decide +kernel) rfl rfl rfl) ?_
    refine gm_sz (gm_p_dup (pc := 50) (by decide +kernel) fw_sr) ?_
    refine gm_sz (fw_gi (pc := 51) (ix := 28) (ci := 5) (j := 7) (x := y) (by decide +kernel) (e0k hE (k := 206) (c := 5) (by decide +kernel)) (by decide +kernel) (by decide +kernel) ((uM_ne (by omega)).trans ((fr_j hf28 (by decide)).trans ((uM_ne (by omega)).trans ((fr_c hf19 (by decide)).trans g7))))) ?_
    refine gm_sz (gm_p_const (pc := 54) (i := .iconst 1) (v := gm_vi 1) (by decide +kernel) (by decide +kernel)) ?_
    refine gm_sz (gm_p_bin (pc := 55) (i := .iadd) (f := fun x y => x + y) (by decide +kernel) rfl) ?_
    refine gm_sz (fw_pi (pc := 56) (ix := 28) (ci := 5) (j := 7) (M' := gm_uM (gm_uM M28 206 6 (ndp N h rock y (r, dp))) 206 7 (y + 1)) (by decide +kernel) (e0k hE (k := 206) (c := 5) (by decide +kernel)) (by decide +kernel) (by decide +kernel) (by decide +kernel) rfl) ?_
    have e9 : nst N h φ lane rock wo y (r, dp) = (nfl N y wo (N 5).toNat (r + φ lane r y), ndp N h rock y (r, dp)) := if_neg o1
    rw [e9] at hq
    exact gm_r_void (pc := 59) (by decide +kernel) (by decide +kernel) (hq _ (fr_p (fr_p (fr_t (fr_p (fr_t fr_0 hf19 (by decide)) (Or.inr (by decide))) hf28 (by decide)) (Or.inr (by decide))) (Or.inr (by decide))) (hfw.2.1 [(206, some 5), (206, some 8), (206, some 6), (206, some 7)] _ _ (by decide) (fr_p (fr_p (fr_t (fr_p fr_0 (Or.inr (by decide))) hf28 (by decide)) (Or.inr (by decide))) (Or.inr (by decide))) hI19) ((uM_ne (by omega)).trans ((uM_ne (by omega)).trans e528)) ((uM_ne (by omega)).trans uM_at) uM_at)
  · show gm_Wp X LX d _ _ 32 4 _ [gm_vi 1] n K _ _ Q
    rw [show M 206 5 = r from g5] at o1
    have o1 : N 1 ≤ r := by omega
    refine fw_iftd (cc := .ne) (pc := 4) (off := 45) (by decide +kernel) (by decide) ⟨by decide, by decide⟩ (by decide) ?_
    refine gm_sz (gm_p_load (pc := 49) (i := .aload_n 0) (sr := 2) (j := 0) (by decide +kernel) rfl rfl rfl) ?_
    refine gm_sz (gm_p_dup (pc := 50) (by decide +kernel) fw_sr) ?_
    refine gm_sz (fw_gi (pc := 51) (ix := 28) (ci := 5) (j := 7) (x := y) (by decide +kernel) (e0k hE (k := 206) (c := 5) (by decide +kernel)) (by decide +kernel) (by decide +kernel) g7) ?_
    refine gm_sz (gm_p_const (pc := 54) (i := .iconst 1) (v := gm_vi 1) (by decide +kernel) (by decide +kernel)) ?_
    refine gm_sz (gm_p_bin (pc := 55) (i := .iadd) (f := fun x y => x + y) (by decide +kernel) rfl) ?_
    refine gm_sz (fw_pi (pc := 56) (ix := 28) (ci := 5) (j := 7) (M' := gm_uM M 206 7 (y + 1)) (by decide +kernel) (e0k hE (k := 206) (c := 5) (by decide +kernel)) (by decide +kernel) (by decide +kernel) (by decide +kernel) rfl) ?_
    have e9 : nst N h φ lane rock wo y (r, dp) = (r, dp) := if_pos o1
    rw [e9] at hq
    exact gm_r_void (pc := 59) (by decide +kernel) (by decide +kernel) (hq _ (fr_p fr_0 (Or.inr (by decide))) (hfw.2.1 [(206, some 7)] _ _ (by decide) (fr_p fr_0 (Or.inr (by decide))) hI) ((uM_ne (by omega)).trans g5) ((uM_ne (by omega)).trans g6) uM_at)
theorem wy_ro206 (hd : 15 ≤ d) (hE : E0 n K R) (hT : TI N h sp M) (hN : NR N) (hfw : FLW X LX n K R N h sp FI φ) (g2 : M 206 2 = lane) (g3 : M 206 3 = rock) (g4 : M 206 4 = wo) (y9 : 0 ≤ y0) (b2 : 0 ≤ lane ∧ lane < N 0) (b3 : 0 ≤ rock ∧ rock ≤ 1) (hwo9 : gm_ir wo) (b5 : 0 ≤ r0 ∧ r0 ≤ 300) (hl : lim ≤ 299) (q1 : ∀ (j : Nat) M2, fr [(206, some 5), (206, some 6), (206, some 7), (206, some 8), (200, some 6), (204, none), (205, none)] M M2 → FI M2 → y0 + (j : Int) ≤ lim → N 1 ≤ (nwy N h φ lane rock wo y0 r0 j).1 → (∀ i, i < j → (nwy N h φ lane rock wo y0 r0 i).1 < N 1) → M2 206 5 = (nwy N h φ lane rock wo y0 r0 j).1 → M2 206 6 = (nwy N h φ lane rock wo y0 r0 j).2 → Q (.inl (some (gm_vi (y0 + (j : Int))))) n K R M2) (q0 : ∀ M2, fr [(206, some 5), (206, some 6), (206, some 7), (206, some 8), (200, some 6), (204, none), (205, none)] M M2 → FI M2 → (∀ j : Nat, y0 + (j : Int) ≤ lim → (nwy N h φ lane rock wo y0 r0 j).1 < N 1) → Q (.inl (some (gm_vi (-1)))) n K R M2) : ∀ (u k : Nat) (M1 : gm_M), (k : Int) + (u : Int) = lim + 1 - y0 → fr [(206, some 5), (206, some 6), (206, some 7), (206, some 8), (200, some 6), (204, none), (205, none)] M M1 → FI M1 → M1 206 5 = (nwy N h φ lane rock wo y0 r0 k).1 → M1 206 6 = (nwy N h φ lane rock wo y0 r0 k).2 → M1 206 7 = y0 + (k : Int) → (∀ i, i < k → (nwy N h φ lane rock wo y0 r0 i).1 < N 1) → gm_Wp X LX d bc bs 30 5 [some (gm_vr 206), some (gm_vi lim), some (gm_vi (y0 + (k : Int)))] [] n K R M1 Q := by
  have hh : ∀ y, 0 ≤ y → y < 300 → 0 ≤ h y ∧ h y ≤ 9 := fun y y1 y2 => (hT.2.2.1 y y1 y2).2.1
  have n1 := hN.1.2.1
  intro u
  induction u with
  | zero =>
    intro k M1 hk hf hI1 h5 h6 h7 hb
    refine gm_sz (gm_p_load (pc := 5) (i := .iload_n 2) (sr := 0) (j := 2) (by decide +kernel) rfl rfl rfl) ?_
    refine gm_sz (gm_p_load (pc := 6) (i := .iload_n 1) (sr := 0) (j := 1) (by decide +kernel) rfl rfl rfl) ?_
    refine fw_ict (cc := .gt) (pc := 7) (off := 22) (by decide +kernel) (by decide) ⟨by omega, by omega⟩ ⟨by omega, by omega⟩ (show lim < (y0 + (k : Int)) by omega) ?_
    refine gm_sz (gm_p_const (pc := 29) (i := .iconst (-1)) (v := gm_vi (-1)) (by decide +kernel) (by decide +kernel)) ?_
    exact gm_r_int (pc := 30) (by decide +kernel) (Or.inl (by decide +kernel)) (q0 M1 hf hI1 (fun j hj => hb j (by omega)))
  | succ u ih =>
    intro k M1 hk hf hI1 h5 h6 h7 hb
    obtain ⟨⟨w1, w2⟩, w3, w4⟩ := nwy_b (lane := lane) (rock := rock) (wo := wo) hN hfw.1 hh y9 b5 k (by omega)
    refine gm_sz (gm_p_load (pc := 5) (i := .iload_n 2) (sr := 0) (j := 2) (by decide +kernel) rfl rfl rfl) ?_
    refine gm_sz (gm_p_load (pc := 6) (i := .iload_n 1) (sr := 0) (j := 1) (by decide +kernel) rfl rfl rfl) ?_
    refine fw_icf (cc := .gt) (pc := 7) (off := 22) (by decide +kernel) (by decide) ⟨by omega, by omega⟩ ⟨by omega, by omega⟩ (show ¬ lim < (y0 + (k : Int)) by omega) ?_
    refine gm_sz (gm_p_load (pc := 10) (i := .aload_n 0) (sr := 2) (j := 0) (by decide +kernel) rfl rfl rfl) ?_
    refine gm_c_virt (k := 206) (ci := 5) (mj := 31) (ix := 68) (pc := 11) (as := []) (st := []) (d' := d - 1) (bc' := 0) (bs' := 0) (by decide +kernel) (by decide +kernel) (by decide +kernel) (by decide +kernel) (e0k hE (k := 206) (c := 5) (by decide +kernel)).1 (e0k hE (k := 206) (c := 5) (by decide +kernel)).2 (by decide) (by decide +kernel) (show 0 = gm_na 31 by decide +kernel) fw_c0 (show 1 ≤ gm_ml 31 by decide +kernel) (Nat.le_of_ble_eq_true rfl) (by omega) (Nat.zero_le _) (Nat.zero_le _) ?_
    refine wy_out206 hE (ti_fr (W := [(206, some 5), (206, some 6), (206, some 7), (206, some 8), (200, some 6), (204, none), (205, none)]) hT (fr_t fr_0 hf (by decide)) (by decide) (by decide +kernel)) hN (by rw [show M1 206 5 = (nwy N h φ lane rock wo y0 r0 k).1 from h5]; exact ⟨by omega, by omega⟩) (fun o11 => ?_) (fun o11 => ?_)
    · show gm_Wp X LX d _ _ 30 14 _ [gm_vi 0] n K _ _ Q
      rw [show M1 206 5 = (nwy N h φ lane rock wo y0 r0 k).1 from h5] at o11
      have o11 : ¬ N 1 ≤ (nwy N h φ lane rock wo y0 r0 k).1 := by omega
      refine fw_iftd (cc := .eq) (pc := 14) (off := 5) (by decide +kernel) (by decide) ⟨by decide, by decide⟩ (by decide) ?_
      refine gm_sz (gm_p_load (pc := 19) (i := .aload_n 0) (sr := 2) (j := 0) (by decide +kernel) rfl rfl rfl) ?_
      refine gm_c_virt (k := 206) (ci := 5) (mj := 32) (ix := 112) (pc := 20) (as := []) (st := []) (d' := d - 1) (bc' := 0) (bs' := 0) (by decide +kernel) (by decide +kernel) (by decide +kernel) (by decide +kernel) (e0k hE (k := 206) (c := 5) (by decide +kernel)).1 (e0k hE (k := 206) (c := 5) (by decide +kernel)).2 (by decide) (by decide +kernel) (show 0 = gm_na 32 by decide +kernel) fw_c0 (show 1 ≤ gm_ml 32 by decide +kernel) (Nat.le_of_ble_eq_true rfl) (by omega) (Nat.zero_le _) (Nat.zero_le _) ?_
      refine wy_step206 (lane := lane) (rock := rock) (wo := wo) (r := (nwy N h φ lane rock wo y0 r0 k).1) (dp := (nwy N h φ lane rock wo y0 r0 k).2) (y := y0 + (k : Int)) (by omega) hE (ti_fr (W := [(206, some 5), (206, some 6), (206, some 7), (206, some 8), (200, some 6), (204, none), (205, none)]) hT (fr_t fr_0 hf (by decide)) (by decide) (by decide +kernel)) hN hfw hI1 ((fr_j hf (by decide)).trans g2) ((fr_j hf (by decide)).trans g3) ((fr_j hf (by decide)).trans g4) h5 h6 h7 b2 b3 hwo9 ⟨by omega, by omega⟩ ⟨by omega, by omega⟩ ⟨by omega, by omega⟩ (fun M17 hf17 hI2 s5 s6 s7 => ?_)
      show gm_Wp X LX d _ _ 30 23 _ [] n K _ _ Q
      refine gm_sz (gm_p_iinc (pc := 23) (j := 2) (z := 1) (by decide +kernel) rfl) ?_
      refine gm_sz (gm_p_goto (pc := 26) (off := (-21)) (by decide +kernel) (by decide)) ?_
      rw [show y0 + (k : Int) + 1 = y0 + ((k + 1 : Nat) : Int) by omega]
      exact ih (k + 1) _ (by omega) (fr_t (fr_t fr_0 hf (by decide)) hf17 (by decide)) hI2 s5 s6 (by rw [s7]; omega) (fun i hi => by
        by_cases e : i = k
        · subst e; omega
        · exact hb i (by omega))
    · show gm_Wp X LX d _ _ 30 14 _ [gm_vi 1] n K _ _ Q
      rw [show M1 206 5 = (nwy N h φ lane rock wo y0 r0 k).1 from h5] at o11
      have o11 : N 1 ≤ (nwy N h φ lane rock wo y0 r0 k).1 := by omega
      refine fw_iffd (cc := .eq) (pc := 14) (off := 5) (by decide +kernel) (by decide) ⟨by decide, by decide⟩ (by decide) ?_
      refine gm_sz (gm_p_load (pc := 17) (i := .iload_n 2) (sr := 0) (j := 2) (by decide +kernel) rfl rfl rfl) ?_
      exact gm_r_int (pc := 18) (by decide +kernel) (Or.inl (by decide +kernel)) (q1 k M1 hf hI1 (by omega) o11 hb h5 h6)
theorem wy_c30_206 (hd : 15 ≤ d) (hE : E0 n K R) (hT : TI N h sp M) (hN : NR N) (hfw : FLW X LX n K R N h sp FI φ) (hI : FI M) (g2 : M 206 2 = lane) (g3 : M 206 3 = rock) (g4 : M 206 4 = wo) (g5 : M 206 5 = r0) (g6 : M 206 6 = 0) (g7 : M 206 7 = y0) (y9 : 0 ≤ y0) (b2 : 0 ≤ lane ∧ lane < N 0) (b3 : 0 ≤ rock ∧ rock ≤ 1) (hwo9 : gm_ir wo) (b5 : 0 ≤ r0 ∧ r0 ≤ 300) (hy : y0 ≤ 299) (hl : lim ≤ 299) (hl0 : -1 ≤ lim) (q1 : ∀ (j : Nat) M2, fr [(206, some 5), (206, some 6), (206, some 7), (206, some 8), (200, some 6), (204, none), (205, none)] M M2 → FI M2 → y0 + (j : Int) ≤ lim → N 1 ≤ (nwy N h φ lane rock wo y0 r0 j).1 → (∀ i, i < j → (nwy N h φ lane rock wo y0 r0 i).1 < N 1) → M2 206 5 = (nwy N h φ lane rock wo y0 r0 j).1 → M2 206 6 = (nwy N h φ lane rock wo y0 r0 j).2 → Q (.inl (some (gm_vi (y0 + (j : Int))))) n K R M2) (q0 : ∀ M2, fr [(206, some 5), (206, some 6), (206, some 7), (206, some 8), (200, some 6), (204, none), (205, none)] M M2 → FI M2 → (∀ j : Nat, y0 + (j : Int) ≤ lim → (nwy N h φ lane rock wo y0 r0 j).1 < N 1) → Q (.inl (some (gm_vi (-1)))) n K R M2) : gm_Wp X LX d bc bs 30 0 (gm_ent 30 [gm_vr 206, gm_vi lim]) [] n K R M Q := by
  by_cases hle : y0 ≤ lim + 1
  · refine gm_sz (gm_p_load (pc := 0) (i := .aload_n 0) (sr := 2) (j := 0) (by decide +kernel) rfl rfl rfl) ?_
    refine gm_sz (fw_gi (pc := 1) (ix := 28) (ci := 5) (j := 7) (x := y0) (by decide +kernel) (e0k hE (k := 206) (c := 5) (by decide +kernel)) (by decide +kernel) (by decide +kernel) g7) ?_
    refine gm_sz (gm_p_stor (pc := 4) (i := .istore_n 2) (sr := 0) (j := 2) (by decide +kernel) rfl (show 3 ≤ _ from Nat.le_of_ble_eq_true rfl) rfl) ?_
    have q := wy_ro206 (bc := bc) (bs := bs) hd hE hT hN hfw g2 g3 g4 y9 b2 b3 hwo9 b5 hl q1 q0 (lim + 1 - y0).toNat 0 M (by omega) fr_0 hI g5 g6 (by rw [g7]; omega) (fun i hi => by omega)
    rw [show y0 + ((0 : Nat) : Int) = y0 by omega] at q
    exact q
  · refine gm_sz (gm_p_load (pc := 0) (i := .aload_n 0) (sr := 2) (j := 0) (by decide +kernel) rfl rfl rfl) ?_
    refine gm_sz (fw_gi (pc := 1) (ix := 28) (ci := 5) (j := 7) (x := y0) (by decide +kernel) (e0k hE (k := 206) (c := 5) (by decide +kernel)) (by decide +kernel) (by decide +kernel) g7) ?_
    refine gm_sz (gm_p_stor (pc := 4) (i := .istore_n 2) (sr := 0) (j := 2) (by decide +kernel) rfl (show 3 ≤ _ from Nat.le_of_ble_eq_true rfl) rfl) ?_
    refine gm_sz (gm_p_load (pc := 5) (i := .iload_n 2) (sr := 0) (j := 2) (by decide +kernel) rfl rfl rfl) ?_
    refine gm_sz (gm_p_load (pc := 6) (i := .iload_n 1) (sr := 0) (j := 1) (by decide +kernel) rfl rfl rfl) ?_
    refine fw_ict (cc := .gt) (pc := 7) (off := 22) (by decide +kernel) (by decide) ⟨by omega, by omega⟩ ⟨by omega, by omega⟩ (show lim < y0 by omega) ?_
    refine gm_sz (gm_p_const (pc := 29) (i := .iconst (-1)) (v := gm_vi (-1)) (by decide +kernel) (by decide +kernel)) ?_
    exact gm_r_int (pc := 30) (by decide +kernel) (Or.inl (by decide +kernel)) (q0 M fr_0 hI (fun j hj => by omega))
theorem wy_go206 (hd : 15 ≤ d) (hE : E0 n K R) (hT : TI N h sp M) (hN : NR N) (hfw : FLW X LX n K R N h sp FI φ) (g2 : M 206 2 = lane) (g3 : M 206 3 = rock) (g4 : M 206 4 = wo) (y9 : 0 ≤ y0) (b2 : 0 ≤ lane ∧ lane < N 0) (b3 : 0 ≤ rock ∧ rock ≤ 1) (hwo9 : gm_ir wo) (b5 : 0 ≤ r0 ∧ r0 ≤ 300) (hl : lim ≤ 300) (hq : ∀ M2, fr [(206, some 5), (206, some 6), (206, some 7), (206, some 8), (200, some 6), (204, none), (205, none)] M M2 → FI M2 → M2 206 5 = (nwy N h φ lane rock wo y0 r0 (lim - y0).toNat).1 → M2 206 6 = (nwy N h φ lane rock wo y0 r0 (lim - y0).toNat).2 → M2 206 7 = lim → Q (.inl none) n K R M2) : ∀ (u k : Nat) (M1 : gm_M), (k : Int) + (u : Int) = lim - y0 → fr [(206, some 5), (206, some 6), (206, some 7), (206, some 8), (200, some 6), (204, none), (205, none)] M M1 → FI M1 → M1 206 5 = (nwy N h φ lane rock wo y0 r0 k).1 → M1 206 6 = (nwy N h φ lane rock wo y0 r0 k).2 → M1 206 7 = y0 + (k : Int) → gm_Wp X LX d bc bs 148 5 [some (gm_vr 206), some (gm_vi lim), some (gm_vi (y0 + (k : Int)))] [] n K R M1 Q := by
  have hh : ∀ y, 0 ≤ y → y < 300 → 0 ≤ h y ∧ h y ≤ 9 := fun y y1 y2 => (hT.2.2.1 y y1 y2).2.1
  have n1 := hN.1.2.1
  intro u
  induction u with
  | zero =>
    intro k M1 hk hf hI1 h5 h6 h7
    have ek : (lim - y0).toNat = k := by omega
    rw [ek] at hq
    refine gm_sz (gm_p_load (pc := 5) (i := .iload_n 2) (sr := 0) (j := 2) (by decide +kernel) rfl rfl rfl) ?_
    refine gm_sz (gm_p_load (pc := 6) (i := .iload_n 1) (sr := 0) (j := 1) (by decide +kernel) rfl rfl rfl) ?_
    refine fw_ict (cc := .ge) (pc := 7) (off := 13) (by decide +kernel) (by decide) ⟨by omega, by omega⟩ ⟨by omega, by omega⟩ (show lim ≤ (y0 + (k : Int)) by omega) ?_
    exact gm_r_void (pc := 20) (by decide +kernel) (by decide +kernel) (hq M1 hf hI1 h5 h6 (by rw [h7]; omega))
  | succ u ih =>
    intro k M1 hk hf hI1 h5 h6 h7
    obtain ⟨⟨w1, w2⟩, w3, w4⟩ := nwy_b (lane := lane) (rock := rock) (wo := wo) hN hfw.1 hh y9 b5 k (by omega)
    refine gm_sz (gm_p_load (pc := 5) (i := .iload_n 2) (sr := 0) (j := 2) (by decide +kernel) rfl rfl rfl) ?_
    refine gm_sz (gm_p_load (pc := 6) (i := .iload_n 1) (sr := 0) (j := 1) (by decide +kernel) rfl rfl rfl) ?_
    refine fw_icf (cc := .ge) (pc := 7) (off := 13) (by decide +kernel) (by decide) ⟨by omega, by omega⟩ ⟨by omega, by omega⟩ (show ¬ lim ≤ (y0 + (k : Int)) by omega) ?_
    refine gm_sz (gm_p_load (pc := 10) (i := .aload_n 0) (sr := 2) (j := 0) (by decide +kernel) rfl rfl rfl) ?_
    refine gm_c_virt (k := 206) (ci := 5) (mj := 32) (ix := 112) (pc := 11) (as := []) (st := []) (d' := d - 1) (bc' := 0) (bs' := 0) (by decide +kernel) (by decide +kernel) (by decide +kernel) (by decide +kernel) (e0k hE (k := 206) (c := 5) (by decide +kernel)).1 (e0k hE (k := 206) (c := 5) (by decide +kernel)).2 (by decide) (by decide +kernel) (show 0 = gm_na 32 by decide +kernel) fw_c0 (show 1 ≤ gm_ml 32 by decide +kernel) (Nat.le_of_ble_eq_true rfl) (by omega) (Nat.zero_le _) (Nat.zero_le _) ?_
    refine wy_step206 (lane := lane) (rock := rock) (wo := wo) (r := (nwy N h φ lane rock wo y0 r0 k).1) (dp := (nwy N h φ lane rock wo y0 r0 k).2) (y := y0 + (k : Int)) (by omega) hE (ti_fr (W := [(206, some 5), (206, some 6), (206, some 7), (206, some 8), (200, some 6), (204, none), (205, none)]) hT (fr_t fr_0 hf (by decide)) (by decide) (by decide +kernel)) hN hfw hI1 ((fr_j hf (by decide)).trans g2) ((fr_j hf (by decide)).trans g3) ((fr_j hf (by decide)).trans g4) h5 h6 h7 b2 b3 hwo9 ⟨by omega, by omega⟩ ⟨by omega, by omega⟩ ⟨by omega, by omega⟩ (fun M17 hf17 hI2 s5 s6 s7 => ?_)
    show gm_Wp X LX d _ _ 148 14 _ [] n K _ _ Q
    refine gm_sz (gm_p_iinc (pc := 14) (j := 2) (z := 1) (by decide +kernel) rfl) ?_
    refine gm_sz (gm_p_goto (pc := 17) (off := (-12)) (by decide +kernel) (by decide)) ?_
    rw [show y0 + (k : Int) + 1 = y0 + ((k + 1 : Nat) : Int) by omega]
    exact ih (k + 1) _ (by omega) (fr_t (fr_t fr_0 hf (by decide)) hf17 (by decide)) hI2 s5 s6 (by rw [s7]; omega)
theorem wy_c148_206 (hd : 15 ≤ d) (hE : E0 n K R) (hT : TI N h sp M) (hN : NR N) (hfw : FLW X LX n K R N h sp FI φ) (hI : FI M) (g2 : M 206 2 = lane) (g3 : M 206 3 = rock) (g4 : M 206 4 = wo) (g5 : M 206 5 = r0) (g6 : M 206 6 = 0) (g7 : M 206 7 = y0) (y9 : 0 ≤ y0) (b2 : 0 ≤ lane ∧ lane < N 0) (b3 : 0 ≤ rock ∧ rock ≤ 1) (hwo9 : gm_ir wo) (b5 : 0 ≤ r0 ∧ r0 ≤ 300) (hy : y0 ≤ lim) (hl : lim ≤ 300) (hq : ∀ M2, fr [(206, some 5), (206, some 6), (206, some 7), (206, some 8), (200, some 6), (204, none), (205, none)] M M2 → FI M2 → M2 206 5 = (nwy N h φ lane rock wo y0 r0 (lim - y0).toNat).1 → M2 206 6 = (nwy N h φ lane rock wo y0 r0 (lim - y0).toNat).2 → M2 206 7 = lim → Q (.inl none) n K R M2) : gm_Wp X LX d bc bs 148 0 (gm_ent 148 [gm_vr 206, gm_vi lim]) [] n K R M Q := by
  refine gm_sz (gm_p_load (pc := 0) (i := .aload_n 0) (sr := 2) (j := 0) (by decide +kernel) rfl rfl rfl) ?_
  refine gm_sz (fw_gi (pc := 1) (ix := 28) (ci := 5) (j := 7) (x := y0) (by decide +kernel) (e0k hE (k := 206) (c := 5) (by decide +kernel)) (by decide +kernel) (by decide +kernel) g7) ?_
  refine gm_sz (gm_p_stor (pc := 4) (i := .istore_n 2) (sr := 0) (j := 2) (by decide +kernel) rfl (show 3 ≤ _ from Nat.le_of_ble_eq_true rfl) rfl) ?_
  have q := wy_go206 (bc := bc) (bs := bs) hd hE hT hN hfw g2 g3 g4 y9 b2 b3 hwo9 b5 hl hq (lim - y0).toNat 0 M (by omega) fr_0 hI g5 g6 (by rw [g7]; omega)
  rw [show y0 + ((0 : Nat) : Int) = y0 by omega] at q
  exact q
theorem wy_dq207 (hd : 1 ≤ d) (hE : E0 n K R) (hT : TI N h sp M) (hN : NR N) (h3 : M 207 3 = rock) (h5 : M 207 5 = r) (h6 : M 207 6 = dp) (h7 : M 207 7 = y) (g3 : 0 ≤ rock ∧ rock ≤ 1) (g5 : 0 ≤ r ∧ r ≤ 10000) (g6 : 0 ≤ dp ∧ dp ≤ 99) (g7 : 0 ≤ y ∧ y < 300) (hq : Q (.inl (some (gm_vi (ndp N h rock y (r, dp))))) n K R M) : gm_Wp X LX d bc bs 33 0 (gm_ent 33 [gm_vr 207]) [] n K R M Q := by
  subst h3 h5 h6 h7
  unfold ndp at hq
  refine wy_dp207 hd hE hT hN g3 g6 g5 g7 (fun a b => ?_) (fun a b => ?_) (fun a => ?_)
  · rw [if_neg (fun h => h a), if_neg (show ¬ (M 207 5 : Int) < N 10 by omega)] at hq
    exact hq
  · rw [if_neg (fun h => h a), if_pos (show (M 207 5 : Int) < N 10 by omega)] at hq
    exact hq
  · rw [if_pos a] at hq
    exact hq
theorem wy_step207 (hd : 14 ≤ d) (hE : E0 n K R) (hT : TI N h sp M) (hN : NR N) (hfw : FLW X LX n K R N h sp FI φ) (hI : FI M) (g2 : M 207 2 = lane) (g3 : M 207 3 = rock) (g4 : M 207 4 = wo) (g5 : M 207 5 = r) (g6 : M 207 6 = dp) (g7 : M 207 7 = y) (b2 : 0 ≤ lane ∧ lane < N 0) (b3 : 0 ≤ rock ∧ rock ≤ 1) (hwo9 : gm_ir wo) (b5 : 0 ≤ r ∧ r ≤ 300) (b6 : 0 ≤ dp ∧ dp ≤ 99) (b7 : 0 ≤ y ∧ y < 300) (hq : ∀ M2, fr [(207, some 5), (207, some 6), (207, some 7), (207, some 8), (200, some 6), (204, none), (205, none)] M M2 → FI M2 → M2 207 5 = (nst N h φ lane rock wo y (r, dp)).1 → M2 207 6 = (nst N h φ lane rock wo y (r, dp)).2 → M2 207 7 = y + 1 → Q (.inl none) n K R M2) : gm_Wp X LX d bc bs 32 0 (gm_ent 32 [gm_vr 207]) [] n K R M Q := by
  have n1 := hN.1.2.1
  refine gm_sz (gm_p_load (pc := 0) (i := .aload_n 0) (sr := 2) (j := 0) (by decide +kernel) rfl rfl rfl) ?_
  refine gm_c_virt (k := 207) (ci := 5) (mj := 31) (ix := 68) (pc := 1) (as := []) (st := []) (d' := d - 1) (bc' := 0) (bs' := 0) (by decide +kernel) (by decide +kernel) (by decide +kernel) (by decide +kernel) (e0k hE (k := 207) (c := 5) (by decide +kernel)).1 (e0k hE (k := 207) (c := 5) (by decide +kernel)).2 (by decide) (by decide +kernel) (show 0 = gm_na 31 by decide +kernel) fw_c0 (show 1 ≤ gm_ml 31 by decide +kernel) (Nat.le_of_ble_eq_true rfl) (by omega) (Nat.zero_le _) (Nat.zero_le _) ?_
  refine wy_out207 hE hT hN (by rw [show M 207 5 = r from g5]; exact ⟨by omega, by omega⟩) (fun o1 => ?_) (fun o1 => ?_)
  · show gm_Wp X LX d _ _ 32 4 _ [gm_vi 0] n K _ _ Q
    rw [show M 207 5 = r from g5] at o1
    have o1 : ¬ N 1 ≤ r := by omega
    refine fw_iffd (cc := .ne) (pc := 4) (off := 45) (by decide +kernel) (by decide) ⟨by decide, by decide⟩ (by decide) ?_
    refine gm_sz (gm_p_load (pc := 7) (i := .aload_n 0) (sr := 2) (j := 0) (by decide +kernel) rfl rfl rfl) ?_
    refine gm_c_virt (k := 207) (ci := 5) (mj := 33) (ix := 72) (pc := 8) (as := []) (st := []) (d' := d - 1) (bc' := 0) (bs' := 0) (by decide +kernel) (by decide +kernel) (by decide +kernel) (by decide +kernel) (e0k hE (k := 207) (c := 5) (by decide +kernel)).1 (e0k hE (k := 207) (c := 5) (by decide +kernel)).2 (by decide) (by decide +kernel) (show 0 = gm_na 33 by decide +kernel) fw_c0 (show 1 ≤ gm_ml 33 by decide +kernel) (Nat.le_of_ble_eq_true rfl) (by omega) (Nat.zero_le _) (Nat.zero_le _) ?_
    refine wy_dq207 (rock := rock) (r := r) (dp := dp) (y := y) (by omega) hE hT hN g3 g5 g6 g7 ⟨by omega, by omega⟩ ⟨by omega, by omega⟩ ⟨by omega, by omega⟩ ⟨by omega, by omega⟩ ?_
    show gm_Wp X LX d _ _ 32 11 _ [gm_vi (ndp N h rock y (r, dp))] n K _ _ Q
    refine gm_sz (gm_p_stor (pc := 11) (i := .istore_n 1) (sr := 0) (j := 1) (by decide +kernel) rfl (show 2 ≤ _ from Nat.le_of_ble_eq_true rfl) rfl) ?_
    refine gm_sz (gm_p_load (pc := 12) (i := .aload_n 0) (sr := 2) (j := 0) (by decide +kernel) rfl rfl rfl) ?_
    refine gm_sz (gm_p_dup (pc := 13) (by decide +kernel) fw_sr) ?_
    refine gm_sz (fw_gi (pc := 14) (ix := 22) (ci := 5) (j := 5) (x := r) (by decide +kernel) (e0k hE (k := 207) (c := 5) (by decide +kernel)) (by decide +kernel) (by decide +kernel) g5) ?_
    refine gm_sz (gm_p_load (pc := 17) (i := .aload_n 0) (sr := 2) (j := 0) (by decide +kernel) rfl rfl rfl) ?_
    refine gm_sz (fw_gr (pc := 18) (ix := 38) (ci := 5) (j := 1) (r := 200) (by decide +kernel) (e0k hE (k := 207) (c := 5) (by decide +kernel)) (by decide +kernel) (by decide +kernel) (e0r hE (k := 207) (j := 1) (r := 200) (by decide +kernel))) ?_
    refine gm_sz (gm_p_load (pc := 21) (i := .aload_n 0) (sr := 2) (j := 0) (by decide +kernel) rfl rfl rfl) ?_
    refine gm_sz (fw_gi (pc := 22) (ix := 9) (ci := 5) (j := 2) (x := lane) (by decide +kernel) (e0k hE (k := 207) (c := 5) (by decide +kernel)) (by decide +kernel) (by decide +kernel) g2) ?_
    refine gm_sz (gm_p_load (pc := 25) (i := .aload_n 0) (sr := 2) (j := 0) (by decide +kernel) rfl rfl rfl) ?_
    refine gm_sz (fw_gi (pc := 26) (ix := 22) (ci := 5) (j := 5) (x := r) (by decide +kernel) (e0k hE (k := 207) (c := 5) (by decide +kernel)) (by decide +kernel) (by decide +kernel) g5) ?_
    refine gm_sz (gm_p_load (pc := 29) (i := .aload_n 0) (sr := 2) (j := 0) (by decide +kernel) rfl rfl rfl) ?_
    refine gm_sz (fw_gi (pc := 30) (ix := 28) (ci := 5) (j := 7) (x := y) (by decide +kernel) (e0k hE (k := 207) (c := 5) (by decide +kernel)) (by decide +kernel) (by decide +kernel) g7) ?_
    refine gm_c_virt (k := 200) (ci := 4) (mj := 35) (ix := 76) (pc := 33) (as := [gm_vi lane, gm_vi r, gm_vi y]) (st := [gm_vi r, gm_vr 207]) (d' := d - 1) (bc' := 0) (bs' := 0) (by decide +kernel) (by decide +kernel) (by decide +kernel) (by decide +kernel) (e0k hE (k := 200) (c := 4) (by decide +kernel)).1 (e0k hE (k := 200) (c := 4) (by decide +kernel)).2 (by decide) (by decide +kernel) (show 3 = gm_na 35 by decide +kernel) (fw_c3 fw_si fw_si fw_si) (show 4 ≤ gm_ml 35 by decide +kernel) (Nat.le_of_ble_eq_true rfl) (by omega) (Nat.zero_le _) (Nat.zero_le _) ?_
    refine hfw.2.2 _ _ _ _ _ _ _ _ (by omega) ⟨by omega, by omega⟩ ⟨by omega, by omega⟩ ⟨by omega, by omega⟩ hT hI (fun M19 hf19 hI19 => ?_)
    show gm_Wp X LX d _ _ 32 36 _ [gm_vi (φ lane r y), gm_vi r, gm_vr 207] n K _ _ Q
    have hφ9 := hfw.1 lane r y
    refine gm_sz (gm_p_bin (pc := 36) (i := .iadd) (f := fun x y => x + y) (by decide +kernel) rfl) ?_
    refine gm_sz (fw_pi (pc := 37) (ix := 22) (ci := 5) (j := 5) (M' := gm_uM M19 207 5 (r + (φ lane r y))) (by decide +kernel) (e0k hE (k := 207) (c := 5) (by decide +kernel)) (by decide +kernel) (by decide +kernel) (by decide +kernel) rfl) ?_
    refine gm_sz (gm_p_load (pc := 40) (i := .aload_n 0) (sr := 2) (j := 0) (by decide +kernel) rfl rfl rfl) ?_
    refine gm_c_virt (k := 207) (ci := 5) (mj := 43) (ix := 82) (pc := 41) (as := []) (st := []) (d' := d - 1) (bc' := 0) (bs' := 0) (by decide +kernel) (by decide +kernel) (by decide +kernel) (by decide +kernel) (e0k hE (k := 207) (c := 5) (by decide +kernel)).1 (e0k hE (k := 207) (c := 5) (by decide +kernel)).2 (by decide) (by decide +kernel) (show 0 = gm_na 43 by decide +kernel) fw_c0 (show 1 ≤ gm_ml 43 by decide +kernel) (Nat.le_of_ble_eq_true rfl) (by omega) (Nat.zero_le _) (Nat.zero_le _) ?_
    refine wy_c43_207 (wo := wo) (r0 := r + (φ lane r y)) (y := y) (by omega) hE (ti_fr (W := [(200, some 6), (204, none), (205, none), (207, some 5)]) hT (fr_p (fr_t fr_0 hf19 (by decide)) (Or.inr (by decide))) (by decide) (by decide +kernel)) hN ((uM_ne (by omega)).trans ((fr_c hf19 (by decide)).trans g4)) uM_at ((uM_ne (by omega)).trans ((fr_c hf19 (by decide)).trans g7)) ⟨by omega, by omega⟩ hwo9 ⟨by omega, by omega⟩ (fun M28 hf28 e528 => ?_)
    show gm_Wp X LX d _ _ 32 44 _ [] n K _ _ Q
    refine gm_sz (gm_p_load (pc := 44) (i := .aload_n 0) (sr := 2) (j := 0) (by decide +kernel) rfl rfl rfl) ?_
    refine gm_sz (gm_p_load (pc := 45) (i := .iload_n 1) (sr := 0) (j := 1) (by decide +kernel) rfl rfl rfl) ?_
    refine gm_sz (fw_pi (pc := 46) (ix := 25) (ci := 5) (j := 6) (M' := gm_uM M28 207 6 (ndp N h rock y (r, dp))) (by decide +kernel) (e0k hE (k := 207) (c := 5) (by decide +kernel)) (by decide +kernel) (by decide +kernel) (by decide +kernel) rfl) ?_
    refine gm_sz (gm_p_load (pc := 49) (i := .aload_n 0) (sr := 2) (j := 0) (by decide +kernel) rfl rfl rfl) ?_
    refine gm_sz (gm_p_dup (pc := 50) (by decide +kernel) fw_sr) ?_
    refine gm_sz (fw_gi (pc := 51) (ix := 28) (ci := 5) (j := 7) (x := y) (by decide +kernel) (e0k hE (k := 207) (c := 5) (by decide +kernel)) (by decide +kernel) (by decide +kernel) ((uM_ne (by omega)).trans ((fr_j hf28 (by decide)).trans ((uM_ne (by omega)).trans ((fr_c hf19 (by decide)).trans g7))))) ?_
    refine gm_sz (gm_p_const (pc := 54) (i := .iconst 1) (v := gm_vi 1) (by decide +kernel) (by decide +kernel)) ?_
    refine gm_sz (gm_p_bin (pc := 55) (i := .iadd) (f := fun x y => x + y) (by decide +kernel) rfl) ?_
    refine gm_sz (fw_pi (pc := 56) (ix := 28) (ci := 5) (j := 7) (M' := gm_uM (gm_uM M28 207 6 (ndp N h rock y (r, dp))) 207 7 (y + 1)) (by decide +kernel) (e0k hE (k := 207) (c := 5) (by decide +kernel)) (by decide +kernel) (by decide +kernel) (by decide +kernel) rfl) ?_
    have e9 : nst N h φ lane rock wo y (r, dp) = (nfl N y wo (N 5).toNat (r + φ lane r y), ndp N h rock y (r, dp)) := if_neg o1
    rw [e9] at hq
    exact gm_r_void (pc := 59) (by decide +kernel) (by decide +kernel) (hq _ (fr_p (fr_p (fr_t (fr_p (fr_t fr_0 hf19 (by decide)) (Or.inr (by decide))) hf28 (by decide)) (Or.inr (by decide))) (Or.inr (by decide))) (hfw.2.1 [(207, some 5), (207, some 8), (207, some 6), (207, some 7)] _ _ (by decide) (fr_p (fr_p (fr_t (fr_p fr_0 (Or.inr (by decide))) hf28 (by decide)) (Or.inr (by decide))) (Or.inr (by decide))) hI19) ((uM_ne (by omega)).trans ((uM_ne (by omega)).trans e528)) ((uM_ne (by omega)).trans uM_at) uM_at)
  · show gm_Wp X LX d _ _ 32 4 _ [gm_vi 1] n K _ _ Q
    rw [show M 207 5 = r from g5] at o1
    have o1 : N 1 ≤ r := by omega
    refine fw_iftd (cc := .ne) (pc := 4) (off := 45) (by decide +kernel) (by decide) ⟨by decide, by decide⟩ (by decide) ?_
    refine gm_sz (gm_p_load (pc := 49) (i := .aload_n 0) (sr := 2) (j := 0) (by decide +kernel) rfl rfl rfl) ?_
    refine gm_sz (gm_p_dup (pc := 50) (by decide +kernel) fw_sr) ?_
    refine gm_sz (fw_gi (pc := 51) (ix := 28) (ci := 5) (j := 7) (x := y) (by decide +kernel) (e0k hE (k := 207) (c := 5) (by decide +kernel)) (by decide +kernel) (by decide +kernel) g7) ?_
    refine gm_sz (gm_p_const (pc := 54) (i := .iconst 1) (v := gm_vi 1) (by decide +kernel) (by decide +kernel)) ?_
    refine gm_sz (gm_p_bin (pc := 55) (i := .iadd) (f := fun x y => x + y) (by decide +kernel) rfl) ?_
    refine gm_sz (fw_pi (pc := 56) (ix := 28) (ci := 5) (j := 7) (M' := gm_uM M 207 7 (y + 1)) (by decide +kernel) (e0k hE (k := 207) (c := 5) (by decide +kernel)) (by decide +kernel) (by decide +kernel) (by decide +kernel) rfl) ?_
    have e9 : nst N h φ lane rock wo y (r, dp) = (r, dp) := if_pos o1
    rw [e9] at hq
    exact gm_r_void (pc := 59) (by decide +kernel) (by decide +kernel) (hq _ (fr_p fr_0 (Or.inr (by decide))) (hfw.2.1 [(207, some 7)] _ _ (by decide) (fr_p fr_0 (Or.inr (by decide))) hI) ((uM_ne (by omega)).trans g5) ((uM_ne (by omega)).trans g6) uM_at)
theorem wy_ro207 (hd : 15 ≤ d) (hE : E0 n K R) (hT : TI N h sp M) (hN : NR N) (hfw : FLW X LX n K R N h sp FI φ) (g2 : M 207 2 = lane) (g3 : M 207 3 = rock) (g4 : M 207 4 = wo) (y9 : 0 ≤ y0) (b2 : 0 ≤ lane ∧ lane < N 0) (b3 : 0 ≤ rock ∧ rock ≤ 1) (hwo9 : gm_ir wo) (b5 : 0 ≤ r0 ∧ r0 ≤ 300) (hl : lim ≤ 299) (q1 : ∀ (j : Nat) M2, fr [(207, some 5), (207, some 6), (207, some 7), (207, some 8), (200, some 6), (204, none), (205, none)] M M2 → FI M2 → y0 + (j : Int) ≤ lim → N 1 ≤ (nwy N h φ lane rock wo y0 r0 j).1 → (∀ i, i < j → (nwy N h φ lane rock wo y0 r0 i).1 < N 1) → M2 207 5 = (nwy N h φ lane rock wo y0 r0 j).1 → M2 207 6 = (nwy N h φ lane rock wo y0 r0 j).2 → Q (.inl (some (gm_vi (y0 + (j : Int))))) n K R M2) (q0 : ∀ M2, fr [(207, some 5), (207, some 6), (207, some 7), (207, some 8), (200, some 6), (204, none), (205, none)] M M2 → FI M2 → (∀ j : Nat, y0 + (j : Int) ≤ lim → (nwy N h φ lane rock wo y0 r0 j).1 < N 1) → Q (.inl (some (gm_vi (-1)))) n K R M2) : ∀ (u k : Nat) (M1 : gm_M), (k : Int) + (u : Int) = lim + 1 - y0 → fr [(207, some 5), (207, some 6), (207, some 7), (207, some 8), (200, some 6), (204, none), (205, none)] M M1 → FI M1 → M1 207 5 = (nwy N h φ lane rock wo y0 r0 k).1 → M1 207 6 = (nwy N h φ lane rock wo y0 r0 k).2 → M1 207 7 = y0 + (k : Int) → (∀ i, i < k → (nwy N h φ lane rock wo y0 r0 i).1 < N 1) → gm_Wp X LX d bc bs 30 5 [some (gm_vr 207), some (gm_vi lim), some (gm_vi (y0 + (k : Int)))] [] n K R M1 Q := by
  have hh : ∀ y, 0 ≤ y → y < 300 → 0 ≤ h y ∧ h y ≤ 9 := fun y y1 y2 => (hT.2.2.1 y y1 y2).2.1
  have n1 := hN.1.2.1
  intro u
  induction u with
  | zero =>
    intro k M1 hk hf hI1 h5 h6 h7 hb
    refine gm_sz (gm_p_load (pc := 5) (i := .iload_n 2) (sr := 0) (j := 2) (by decide +kernel) rfl rfl rfl) ?_
    refine gm_sz (gm_p_load (pc := 6) (i := .iload_n 1) (sr := 0) (j := 1) (by decide +kernel) rfl rfl rfl) ?_
    refine fw_ict (cc := .gt) (pc := 7) (off := 22) (by decide +kernel) (by decide) ⟨by omega, by omega⟩ ⟨by omega, by omega⟩ (show lim < (y0 + (k : Int)) by omega) ?_
    refine gm_sz (gm_p_const (pc := 29) (i := .iconst (-1)) (v := gm_vi (-1)) (by decide +kernel) (by decide +kernel)) ?_
    exact gm_r_int (pc := 30) (by decide +kernel) (Or.inl (by decide +kernel)) (q0 M1 hf hI1 (fun j hj => hb j (by omega)))
  | succ u ih =>
    intro k M1 hk hf hI1 h5 h6 h7 hb
    obtain ⟨⟨w1, w2⟩, w3, w4⟩ := nwy_b (lane := lane) (rock := rock) (wo := wo) hN hfw.1 hh y9 b5 k (by omega)
    refine gm_sz (gm_p_load (pc := 5) (i := .iload_n 2) (sr := 0) (j := 2) (by decide +kernel) rfl rfl rfl) ?_
    refine gm_sz (gm_p_load (pc := 6) (i := .iload_n 1) (sr := 0) (j := 1) (by decide +kernel) rfl rfl rfl) ?_
    refine fw_icf (cc := .gt) (pc := 7) (off := 22) (by decide +kernel) (by decide) ⟨by omega, by omega⟩ ⟨by omega, by omega⟩ (show ¬ lim < (y0 + (k : Int)) by omega) ?_
    refine gm_sz (gm_p_load (pc := 10) (i := .aload_n 0) (sr := 2) (j := 0) (by decide +kernel) rfl rfl rfl) ?_
    refine gm_c_virt (k := 207) (ci := 5) (mj := 31) (ix := 68) (pc := 11) (as := []) (st := []) (d' := d - 1) (bc' := 0) (bs' := 0) (by decide +kernel) (by decide +kernel) (by decide +kernel) (by decide +kernel) (e0k hE (k := 207) (c := 5) (by decide +kernel)).1 (e0k hE (k := 207) (c := 5) (by decide +kernel)).2 (by decide) (by decide +kernel) (show 0 = gm_na 31 by decide +kernel) fw_c0 (show 1 ≤ gm_ml 31 by decide +kernel) (Nat.le_of_ble_eq_true rfl) (by omega) (Nat.zero_le _) (Nat.zero_le _) ?_
    refine wy_out207 hE (ti_fr (W := [(207, some 5), (207, some 6), (207, some 7), (207, some 8), (200, some 6), (204, none), (205, none)]) hT (fr_t fr_0 hf (by decide)) (by decide) (by decide +kernel)) hN (by rw [show M1 207 5 = (nwy N h φ lane rock wo y0 r0 k).1 from h5]; exact ⟨by omega, by omega⟩) (fun o11 => ?_) (fun o11 => ?_)
    · show gm_Wp X LX d _ _ 30 14 _ [gm_vi 0] n K _ _ Q
      rw [show M1 207 5 = (nwy N h φ lane rock wo y0 r0 k).1 from h5] at o11
      have o11 : ¬ N 1 ≤ (nwy N h φ lane rock wo y0 r0 k).1 := by omega
      refine fw_iftd (cc := .eq) (pc := 14) (off := 5) (by decide +kernel) (by decide) ⟨by decide, by decide⟩ (by decide) ?_
      refine gm_sz (gm_p_load (pc := 19) (i := .aload_n 0) (sr := 2) (j := 0) (by decide +kernel) rfl rfl rfl) ?_
      refine gm_c_virt (k := 207) (ci := 5) (mj := 32) (ix := 112) (pc := 20) (as := []) (st := []) (d' := d - 1) (bc' := 0) (bs' := 0) (by decide +kernel) (by decide +kernel) (by decide +kernel) (by decide +kernel) (e0k hE (k := 207) (c := 5) (by decide +kernel)).1 (e0k hE (k := 207) (c := 5) (by decide +kernel)).2 (by decide) (by decide +kernel) (show 0 = gm_na 32 by decide +kernel) fw_c0 (show 1 ≤ gm_ml 32 by decide +kernel) (Nat.le_of_ble_eq_true rfl) (by omega) (Nat.zero_le _) (Nat.zero_le _) ?_
      refine wy_step207 (lane := lane) (rock := rock) (wo := wo) (r := (nwy N h φ lane rock wo y0 r0 k).1) (dp := (nwy N h φ lane rock wo y0 r0 k).2) (y := y0 + (k : Int)) (by omega) hE (ti_fr (W := [(207, some 5), (207, some 6), (207, some 7), (207, some 8), (200, some 6), (204, none), (205, none)]) hT (fr_t fr_0 hf (by decide)) (by decide) (by decide +kernel)) hN hfw hI1 ((fr_j hf (by decide)).trans g2) ((fr_j hf (by decide)).trans g3) ((fr_j hf (by decide)).trans g4) h5 h6 h7 b2 b3 hwo9 ⟨by omega, by omega⟩ ⟨by omega, by omega⟩ ⟨by omega, by omega⟩ (fun M17 hf17 hI2 s5 s6 s7 => ?_)
      show gm_Wp X LX d _ _ 30 23 _ [] n K _ _ Q
      refine gm_sz (gm_p_iinc (pc := 23) (j := 2) (z := 1) (by decide +kernel) rfl) ?_
      refine gm_sz (gm_p_goto (pc := 26) (off := (-21)) (by decide +kernel) (by decide)) ?_
      rw [show y0 + (k : Int) + 1 = y0 + ((k + 1 : Nat) : Int) by omega]
      exact ih (k + 1) _ (by omega) (fr_t (fr_t fr_0 hf (by decide)) hf17 (by decide)) hI2 s5 s6 (by rw [s7]; omega) (fun i hi => by
        by_cases e : i = k
        · subst e; omega
        · exact hb i (by omega))
    · show gm_Wp X LX d _ _ 30 14 _ [gm_vi 1] n K _ _ Q
      rw [show M1 207 5 = (nwy N h φ lane rock wo y0 r0 k).1 from h5] at o11
      have o11 : N 1 ≤ (nwy N h φ lane rock wo y0 r0 k).1 := by omega
      refine fw_iffd (cc := .eq) (pc := 14) (off := 5) (by decide +kernel) (by decide) ⟨by decide, by decide⟩ (by decide) ?_
      refine gm_sz (gm_p_load (pc := 17) (i := .iload_n 2) (sr := 0) (j := 2) (by decide +kernel) rfl rfl rfl) ?_
      exact gm_r_int (pc := 18) (by decide +kernel) (Or.inl (by decide +kernel)) (q1 k M1 hf hI1 (by omega) o11 hb h5 h6)
theorem wy_c30_207 (hd : 15 ≤ d) (hE : E0 n K R) (hT : TI N h sp M) (hN : NR N) (hfw : FLW X LX n K R N h sp FI φ) (hI : FI M) (g2 : M 207 2 = lane) (g3 : M 207 3 = rock) (g4 : M 207 4 = wo) (g5 : M 207 5 = r0) (g6 : M 207 6 = 0) (g7 : M 207 7 = y0) (y9 : 0 ≤ y0) (b2 : 0 ≤ lane ∧ lane < N 0) (b3 : 0 ≤ rock ∧ rock ≤ 1) (hwo9 : gm_ir wo) (b5 : 0 ≤ r0 ∧ r0 ≤ 300) (hy : y0 ≤ 299) (hl : lim ≤ 299) (hl0 : -1 ≤ lim) (q1 : ∀ (j : Nat) M2, fr [(207, some 5), (207, some 6), (207, some 7), (207, some 8), (200, some 6), (204, none), (205, none)] M M2 → FI M2 → y0 + (j : Int) ≤ lim → N 1 ≤ (nwy N h φ lane rock wo y0 r0 j).1 → (∀ i, i < j → (nwy N h φ lane rock wo y0 r0 i).1 < N 1) → M2 207 5 = (nwy N h φ lane rock wo y0 r0 j).1 → M2 207 6 = (nwy N h φ lane rock wo y0 r0 j).2 → Q (.inl (some (gm_vi (y0 + (j : Int))))) n K R M2) (q0 : ∀ M2, fr [(207, some 5), (207, some 6), (207, some 7), (207, some 8), (200, some 6), (204, none), (205, none)] M M2 → FI M2 → (∀ j : Nat, y0 + (j : Int) ≤ lim → (nwy N h φ lane rock wo y0 r0 j).1 < N 1) → Q (.inl (some (gm_vi (-1)))) n K R M2) : gm_Wp X LX d bc bs 30 0 (gm_ent 30 [gm_vr 207, gm_vi lim]) [] n K R M Q := by
  by_cases hle : y0 ≤ lim + 1
  · refine gm_sz (gm_p_load (pc := 0) (i := .aload_n 0) (sr := 2) (j := 0) (by decide +kernel) rfl rfl rfl) ?_
    refine gm_sz (fw_gi (pc := 1) (ix := 28) (ci := 5) (j := 7) (x := y0) (by decide +kernel) (e0k hE (k := 207) (c := 5) (by decide +kernel)) (by decide +kernel) (by decide +kernel) g7) ?_
    refine gm_sz (gm_p_stor (pc := 4) (i := .istore_n 2) (sr := 0) (j := 2) (by decide +kernel) rfl (show 3 ≤ _ from Nat.le_of_ble_eq_true rfl) rfl) ?_
    have q := wy_ro207 (bc := bc) (bs := bs) hd hE hT hN hfw g2 g3 g4 y9 b2 b3 hwo9 b5 hl q1 q0 (lim + 1 - y0).toNat 0 M (by omega) fr_0 hI g5 g6 (by rw [g7]; omega) (fun i hi => by omega)
    rw [show y0 + ((0 : Nat) : Int) = y0 by omega] at q
    exact q
  · refine gm_sz (gm_p_load (pc := 0) (i := .aload_n 0) (sr := 2) (j := 0) (by decide +kernel) rfl rfl rfl) ?_
    refine gm_sz (fw_gi (pc := 1) (ix := 28) (ci := 5) (j := 7) (x := y0) (by decide +kernel) (e0k hE (k := 207) (c := 5) (by decide +kernel)) (by decide +kernel) (by decide +kernel) g7) ?_
    refine gm_sz (gm_p_stor (pc := 4) (i := .istore_n 2) (sr := 0) (j := 2) (by decide +kernel) rfl (show 3 ≤ _ from Nat.le_of_ble_eq_true rfl) rfl) ?_
    refine gm_sz (gm_p_load (pc := 5) (i := .iload_n 2) (sr := 0) (j := 2) (by decide +kernel) rfl rfl rfl) ?_
    refine gm_sz (gm_p_load (pc := 6) (i := .iload_n 1) (sr := 0) (j := 1) (by decide +kernel) rfl rfl rfl) ?_
    refine fw_ict (cc := .gt) (pc := 7) (off := 22) (by decide +kernel) (by decide) ⟨by omega, by omega⟩ ⟨by omega, by omega⟩ (show lim < y0 by omega) ?_
    refine gm_sz (gm_p_const (pc := 29) (i := .iconst (-1)) (v := gm_vi (-1)) (by decide +kernel) (by decide +kernel)) ?_
    exact gm_r_int (pc := 30) (by decide +kernel) (Or.inl (by decide +kernel)) (q0 M fr_0 hI (fun j hj => by omega))
theorem wy_go207 (hd : 15 ≤ d) (hE : E0 n K R) (hT : TI N h sp M) (hN : NR N) (hfw : FLW X LX n K R N h sp FI φ) (g2 : M 207 2 = lane) (g3 : M 207 3 = rock) (g4 : M 207 4 = wo) (y9 : 0 ≤ y0) (b2 : 0 ≤ lane ∧ lane < N 0) (b3 : 0 ≤ rock ∧ rock ≤ 1) (hwo9 : gm_ir wo) (b5 : 0 ≤ r0 ∧ r0 ≤ 300) (hl : lim ≤ 300) (hq : ∀ M2, fr [(207, some 5), (207, some 6), (207, some 7), (207, some 8), (200, some 6), (204, none), (205, none)] M M2 → FI M2 → M2 207 5 = (nwy N h φ lane rock wo y0 r0 (lim - y0).toNat).1 → M2 207 6 = (nwy N h φ lane rock wo y0 r0 (lim - y0).toNat).2 → M2 207 7 = lim → Q (.inl none) n K R M2) : ∀ (u k : Nat) (M1 : gm_M), (k : Int) + (u : Int) = lim - y0 → fr [(207, some 5), (207, some 6), (207, some 7), (207, some 8), (200, some 6), (204, none), (205, none)] M M1 → FI M1 → M1 207 5 = (nwy N h φ lane rock wo y0 r0 k).1 → M1 207 6 = (nwy N h φ lane rock wo y0 r0 k).2 → M1 207 7 = y0 + (k : Int) → gm_Wp X LX d bc bs 148 5 [some (gm_vr 207), some (gm_vi lim), some (gm_vi (y0 + (k : Int)))] [] n K R M1 Q := by
  have hh : ∀ y, 0 ≤ y → y < 300 → 0 ≤ h y ∧ h y ≤ 9 := fun y y1 y2 => (hT.2.2.1 y y1 y2).2.1
  have n1 := hN.1.2.1
  intro u
  induction u with
  | zero =>
    intro k M1 hk hf hI1 h5 h6 h7
    have ek : (lim - y0).toNat = k := by omega
    rw [ek] at hq
    refine gm_sz (gm_p_load (pc := 5) (i := .iload_n 2) (sr := 0) (j := 2) (by decide +kernel) rfl rfl rfl) ?_
    refine gm_sz (gm_p_load (pc := 6) (i := .iload_n 1) (sr := 0) (j := 1) (by decide +kernel) rfl rfl rfl) ?_
    refine fw_ict (cc := .ge) (pc := 7) (off := 13) (by decide +kernel) (by decide) ⟨by omega, by omega⟩ ⟨by omega, by omega⟩ (show lim ≤ (y0 + (k : Int)) by omega) ?_
    exact gm_r_void (pc := 20) (by decide +kernel) (by decide +kernel) (hq M1 hf hI1 h5 h6 (by rw [h7]; omega))
  | succ u ih =>
    intro k M1 hk hf hI1 h5 h6 h7
    obtain ⟨⟨w1, w2⟩, w3, w4⟩ := nwy_b (lane := lane) (rock := rock) (wo := wo) hN hfw.1 hh y9 b5 k (by omega)
    refine gm_sz (gm_p_load (pc := 5) (i := .iload_n 2) (sr := 0) (j := 2) (by decide +kernel) rfl rfl rfl) ?_
    refine gm_sz (gm_p_load (pc := 6) (i := .iload_n 1) (sr := 0) (j := 1) (by decide +kernel) rfl rfl rfl) ?_
    refine fw_icf (cc := .ge) (pc := 7) (off := 13) (by decide +kernel) (by decide) ⟨by omega, by omega⟩ ⟨by omega, by omega⟩ (show ¬ lim ≤ (y0 + (k : Int)) by omega) ?_
    refine gm_sz (gm_p_load (pc := 10) (i := .aload_n 0) (sr := 2) (j := 0) (by decide +kernel) rfl rfl rfl) ?_
    refine gm_c_virt (k := 207) (ci := 5) (mj := 32) (ix := 112) (pc := 11) (as := []) (st := []) (d' := d - 1) (bc' := 0) (bs' := 0) (by decide +kernel) (by decide +kernel) (by decide +kernel) (by decide +kernel) (e0k hE (k := 207) (c := 5) (by decide +kernel)).1 (e0k hE (k := 207) (c := 5) (by decide +kernel)).2 (by decide) (by decide +kernel) (show 0 = gm_na 32 by decide +kernel) fw_c0 (show 1 ≤ gm_ml 32 by decide +kernel) (Nat.le_of_ble_eq_true rfl) (by omega) (Nat.zero_le _) (Nat.zero_le _) ?_
    refine wy_step207 (lane := lane) (rock := rock) (wo := wo) (r := (nwy N h φ lane rock wo y0 r0 k).1) (dp := (nwy N h φ lane rock wo y0 r0 k).2) (y := y0 + (k : Int)) (by omega) hE (ti_fr (W := [(207, some 5), (207, some 6), (207, some 7), (207, some 8), (200, some 6), (204, none), (205, none)]) hT (fr_t fr_0 hf (by decide)) (by decide) (by decide +kernel)) hN hfw hI1 ((fr_j hf (by decide)).trans g2) ((fr_j hf (by decide)).trans g3) ((fr_j hf (by decide)).trans g4) h5 h6 h7 b2 b3 hwo9 ⟨by omega, by omega⟩ ⟨by omega, by omega⟩ ⟨by omega, by omega⟩ (fun M17 hf17 hI2 s5 s6 s7 => ?_)
    show gm_Wp X LX d _ _ 148 14 _ [] n K _ _ Q
    refine gm_sz (gm_p_iinc (pc := 14) (j := 2) (z := 1) (by decide +kernel) rfl) ?_
    refine gm_sz (gm_p_goto (pc := 17) (off := (-12)) (by decide +kernel) (by decide)) ?_
    rw [show y0 + (k : Int) + 1 = y0 + ((k + 1 : Nat) : Int) by omega]
    exact ih (k + 1) _ (by omega) (fr_t (fr_t fr_0 hf (by decide)) hf17 (by decide)) hI2 s5 s6 (by rw [s7]; omega)
theorem wy_c148_207 (hd : 15 ≤ d) (hE : E0 n K R) (hT : TI N h sp M) (hN : NR N) (hfw : FLW X LX n K R N h sp FI φ) (hI : FI M) (g2 : M 207 2 = lane) (g3 : M 207 3 = rock) (g4 : M 207 4 = wo) (g5 : M 207 5 = r0) (g6 : M 207 6 = 0) (g7 : M 207 7 = y0) (y9 : 0 ≤ y0) (b2 : 0 ≤ lane ∧ lane < N 0) (b3 : 0 ≤ rock ∧ rock ≤ 1) (hwo9 : gm_ir wo) (b5 : 0 ≤ r0 ∧ r0 ≤ 300) (hy : y0 ≤ lim) (hl : lim ≤ 300) (hq : ∀ M2, fr [(207, some 5), (207, some 6), (207, some 7), (207, some 8), (200, some 6), (204, none), (205, none)] M M2 → FI M2 → M2 207 5 = (nwy N h φ lane rock wo y0 r0 (lim - y0).toNat).1 → M2 207 6 = (nwy N h φ lane rock wo y0 r0 (lim - y0).toNat).2 → M2 207 7 = lim → Q (.inl none) n K R M2) : gm_Wp X LX d bc bs 148 0 (gm_ent 148 [gm_vr 207, gm_vi lim]) [] n K R M Q := by
  refine gm_sz (gm_p_load (pc := 0) (i := .aload_n 0) (sr := 2) (j := 0) (by decide +kernel) rfl rfl rfl) ?_
  refine gm_sz (fw_gi (pc := 1) (ix := 28) (ci := 5) (j := 7) (x := y0) (by decide +kernel) (e0k hE (k := 207) (c := 5) (by decide +kernel)) (by decide +kernel) (by decide +kernel) g7) ?_
  refine gm_sz (gm_p_stor (pc := 4) (i := .istore_n 2) (sr := 0) (j := 2) (by decide +kernel) rfl (show 3 ≤ _ from Nat.le_of_ble_eq_true rfl) rfl) ?_
  have q := wy_go207 (bc := bc) (bs := bs) hd hE hT hN hfw g2 g3 g4 y9 b2 b3 hwo9 b5 hl hq (lim - y0).toNat 0 M (by omega) fr_0 hI g5 g6 (by rw [g7]; omega)
  rw [show y0 + ((0 : Nat) : Int) = y0 by omega] at q
  exact q
end WY2
end
/-! 7a04.c5a -/
section
/-! FLOWS THAT ARE KEPT, five bits each in a long. -/
def ll_shl (x y : Int) : Int := (Int64.ofInt x <<< ((Int32.ofInt y).toInt64 &&& 63)).toInt
def ll_ushr (x y : Int) : Int := ((Int64.ofInt x).toUInt64 >>> ((Int32.ofInt y).toInt64.toUInt64 &&& Int64.toUInt64 63)).toInt64.toInt
/-- the five bits from s on -/
def fld (x s : Int) : Int := gm_and (ll_ushr x s) 31
/-- f told there -/
def fkeep (x s f : Int) : Int := gm_lor (gm_land x (gm_lxor (ll_shl 31 s) (-1))) (ll_shl f s)
def bN (x : Int) : BitVec 64 := (Int64.ofInt x).toBitVec
theorem bN_toInt (z : Int64) : bN z.toInt = z.toBitVec := by unfold bN; rw [Int64.ofInt_toInt]
/-- the numbers that are shifted by -/
def sh12 (s : Int) (k : Nat) : Prop := (((Int32.ofInt s).toInt64.toUInt64 &&& Int64.toUInt64 63).toBitVec % 64#64).toNat = k ∧ (((Int32.ofInt s).toInt64 &&& 63).toBitVec.smod 64#64).toNat = k ∧ k + 5 ≤ 60
theorem sh12_s {c : Int} (h : 0 ≤ c ∧ c < 12) : ∃ k : Nat, sh12 (c * 5) k ∧ (k : Int) = c * 5 := by
  have h12 : c = 0 ∨ c = 1 ∨ c = 2 ∨ c = 3 ∨ c = 4 ∨ c = 5 ∨ c = 6 ∨ c = 7 ∨ c = 8 ∨ c = 9 ∨ c = 10 ∨ c = 11 := by omega
  rcases h12 with rfl | rfl | rfl | rfl | rfl | rfl | rfl | rfl | rfl | rfl | rfl | rfl
  · exact ⟨0, ⟨by decide, by decide, by decide⟩, by decide⟩
  · exact ⟨5, ⟨by decide, by decide, by decide⟩, by decide⟩
  · exact ⟨10, ⟨by decide, by decide, by decide⟩, by decide⟩
  · exact ⟨15, ⟨by decide, by decide, by decide⟩, by decide⟩
  · exact ⟨20, ⟨by decide, by decide, by decide⟩, by decide⟩
  · exact ⟨25, ⟨by decide, by decide, by decide⟩, by decide⟩
  · exact ⟨30, ⟨by decide, by decide, by decide⟩, by decide⟩
  · exact ⟨35, ⟨by decide, by decide, by decide⟩, by decide⟩
  · exact ⟨40, ⟨by decide, by decide, by decide⟩, by decide⟩
  · exact ⟨45, ⟨by decide, by decide, by decide⟩, by decide⟩
  · exact ⟨50, ⟨by decide, by decide, by decide⟩, by decide⟩
  · exact ⟨55, ⟨by decide, by decide, by decide⟩, by decide⟩
theorem fld_31 (x : Int) : gm_and x 31 = (((bN x).toNat % 32 : Nat) : Int) := by
  unfold gm_and
  have e : (Int32.ofInt x &&& Int32.ofInt 31).toBitVec = BitVec.ofInt 32 x &&& 31#32 := rfl
  show (Int32.ofInt x &&& Int32.ofInt 31).toBitVec.toInt = _
  rw [e, BitVec.toInt_eq_toNat_cond, BitVec.toNat_and]
  have h1 : (BitVec.ofInt 32 x).toNat &&& (31#32).toNat = (BitVec.ofInt 32 x).toNat % 32 := Nat.and_two_pow_sub_one_eq_mod _ 5
  have h2 : ((bN x).toNat : Int) = x % 18446744073709551616 := by
    unfold bN
    show ((BitVec.ofInt 64 x).toNat : Int) = _
    rw [BitVec.toNat_ofInt]
    omega
  have h3 : ((BitVec.ofInt 32 x).toNat : Int) = x % 4294967296 := by
    rw [BitVec.toNat_ofInt]
    omega
  rw [h1]
  split <;> omega
theorem fld_n {x s : Int} {k : Nat} (hs : sh12 s k) : fld x s = (((bN x).toNat / 2 ^ k % 32 : Nat) : Int) := by
  have e1 : ((Int64.ofInt x).toUInt64 >>> ((Int32.ofInt s).toInt64.toUInt64 &&& Int64.toUInt64 63)).toInt64.toBitVec = (bN x) >>> k := by
    show ((Int64.ofInt x).toBitVec >>> (((Int32.ofInt s).toInt64.toUInt64 &&& Int64.toUInt64 63).toBitVec % 64#64)) = _
    rw [BitVec.ushiftRight_eq', hs.1]
    rfl
  unfold fld ll_ushr
  generalize ((Int64.ofInt x).toUInt64 >>> ((Int32.ofInt s).toInt64.toUInt64 &&& Int64.toUInt64 63)).toInt64 = z at e1 ⊢
  rw [fld_31, bN_toInt, e1, BitVec.toNat_ushiftRight, Nat.shiftRight_eq_div_pow]
theorem fld_eq {x y s s' : Int} {k k' : Nat} (hs : sh12 s k) (hs' : sh12 s' k') (h : ∀ i, i < 5 → (bN x).getLsbD (k + i) = (bN y).getLsbD (k' + i)) : fld x s = fld y s' := by
  rw [fld_n hs, fld_n hs']
  congr 1
  apply Nat.eq_of_testBit_eq
  intro i
  rw [show (32 : Nat) = 2 ^ 5 from rfl, Nat.testBit_mod_two_pow, Nat.testBit_mod_two_pow, Nat.testBit_div_two_pow, Nat.testBit_div_two_pow]
  by_cases hi : i < 5
  · have h9 : (bN x).toNat.testBit (k + i) = (bN y).toNat.testBit (k' + i) := h i hi
    rw [Nat.add_comm i k, Nat.add_comm i k', h9]
  · simp [hi]
theorem bN_or {a b : Int} : bN (gm_lor a b) = bN a ||| bN b := by unfold gm_lor; rw [bN_toInt]; rfl
theorem bN_and {a b : Int} : bN (gm_land a b) = bN a &&& bN b := by unfold gm_land; rw [bN_toInt]; rfl
theorem bN_xor {a b : Int} : bN (gm_lxor a b) = bN a ^^^ bN b := by unfold gm_lxor; rw [bN_toInt]; rfl
theorem bN_shl {a s : Int} {k : Nat} (hs : sh12 s k) : bN (ll_shl a s) = bN a <<< k := by
  unfold ll_shl
  rw [bN_toInt]
  show (Int64.ofInt a).toBitVec <<< (((Int32.ofInt s).toInt64 &&& 63).toBitVec.smod 64#64) = _
  rw [BitVec.shiftLeft_eq', hs.2.1]
  rfl
theorem b31 (i : Nat) : (bN 31).getLsbD i = decide (i < 5) := by
  have e : bN 31 = 31#64 := by decide
  rw [e]
  show (31#64).toNat.testBit i = _
  rw [show (31#64).toNat = 2 ^ 5 - 1 from rfl, Nat.testBit_two_pow_sub_one]
theorem bm1 (i : Nat) (h : i < 64) : (bN (-1)).getLsbD i = true := by
  have e : bN (-1) = BitVec.allOnes 64 := by decide
  rw [e, BitVec.getLsbD_allOnes]
  exact decide_eq_true h
theorem bf5 {f : Int} (hf : 0 ≤ f ∧ f < 32) (i : Nat) (h : 5 ≤ i) : (bN f).getLsbD i = false := by
  have e : (bN f).toNat < 32 := by
    unfold bN
    show (BitVec.ofInt 64 f).toNat < 32
    rw [BitVec.toNat_ofInt]
    omega
  show (bN f).toNat.testBit i = false
  exact Nat.testBit_lt_two_pow (Nat.lt_of_lt_of_le e (by
    have := Nat.pow_le_pow_right (n := 2) (by decide) h
    exact this))
theorem bN_keep {x s f : Int} {k : Nat} (hs : sh12 s k) (i : Nat) (hi : i < 64) : (bN (fkeep x s f)).getLsbD i = (((bN x).getLsbD i && !(decide (k ≤ i ∧ i < k + 5))) || (decide (k ≤ i) && (bN f).getLsbD (i - k))) := by
  unfold fkeep
  rw [bN_or, bN_and, bN_xor, bN_shl hs, bN_shl hs, BitVec.getLsbD_or, BitVec.getLsbD_and, BitVec.getLsbD_xor, BitVec.getLsbD_shiftLeft, BitVec.getLsbD_shiftLeft, b31, bm1 i hi]
  by_cases h1 : k ≤ i
  · by_cases h2 : i < k + 5
    · have h3 : i - k < 5 := by omega
      simp [h1, h2, h3, hi, Nat.not_lt.mpr h1]
    · have h3 : ¬ i - k < 5 := by omega
      simp [h1, h2, h3, hi, Nat.not_lt.mpr h1]
  · have h2 : i < k := by omega
    simp [h1, h2, hi]
theorem fld_new {x s f : Int} {k : Nat} (hs : sh12 s k) (hf : 0 ≤ f ∧ f < 32) : fld (fkeep x s f) s = f := by
  have h0 : sh12 0 0 := ⟨by decide, by decide, by decide⟩
  have e : fld (fkeep x s f) s = fld f 0 := fld_eq hs h0 (fun i hi => by
    rw [bN_keep hs (k + i) (by have := hs.2.2; omega)]
    have h1 : k ≤ k + i ∧ k + i < k + 5 := ⟨by omega, by omega⟩
    rw [decide_eq_true h1, decide_eq_true h1.1, show k + i - k = 0 + i by omega]
    simp)
  rw [e, fld_n h0]
  have : ((bN f).toNat : Int) = f := by
    unfold bN
    show ((BitVec.ofInt 64 f).toNat : Int) = f
    rw [BitVec.toNat_ofInt]
    omega
  omega
theorem fld_old {x s s' f : Int} {k k' : Nat} (hs : sh12 s k) (hs' : sh12 s' k') (hf : 0 ≤ f ∧ f < 32) (h : k + 5 ≤ k' ∨ k' + 5 ≤ k) : fld (fkeep x s f) s' = fld x s' := fld_eq hs' hs' (fun i hi => by
    rw [bN_keep hs (k' + i) (by have := hs'.2.2; omega)]
    have h1 : ¬ (k ≤ k' + i ∧ k' + i < k + 5) := by omega
    rw [decide_eq_false h1]
    by_cases h2 : k ≤ k' + i
    · rw [bf5 hf (k' + i - k) (by omega)]
      simp
    · rw [decide_eq_false h2]
      simp)
theorem fld_m1 {s : Int} {k : Nat} (hs : sh12 s k) : fld (-1) s = 31 := by
  have h0 : sh12 0 0 := ⟨by decide, by decide, by decide⟩
  have e : fld (-1) s = fld 31 0 := fld_eq hs h0 (fun i hi => by
    rw [bm1 _ (by have := hs.2.2; omega), b31]
    exact (decide_eq_true (by omega)).symm)
  rw [e]
  decide
end
