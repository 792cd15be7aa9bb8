/-! 7a40.v4vy -/
section
/-! THE CLASS'S readText OF A VALLEY, whole; a State copied to the draft and back (laid by wip/core/v4.py). -/
section V4A
variable {X : Int → Int} {LX d bc bs n : Nat} {K : gm_K} {R : gm_R} {M : gm_M} {Q : gm_Q} {e e0 p b w k v x : Int} {N : Int → Int}
theorem vm_len : gm_uM (vm M p b w k v) 214 ((2 : Nat) : Int) x = vm (gm_uM M 214 2 x) p b w k v := by
  show gm_uM (vm M p b w k v) 214 2 x = _
  funext a j
  by_cases ha : a = 214 <;> by_cases hj : j = 2 <;> simp [gm_uM, vm, ha, hj]
theorem vx_c75 (hd : 2 ≤ d) (hE : vE n K R (gm_uM M 214 2 e0) e0) (h0 : 0 ≤ e0 ∧ e0 ≤ 400) (hq : Q (.inl none) n K R (vt (gm_uM M 214 2 e0) e0 (tx_g (M 2) e0 0) (-1))) : gm_Wp X LX d bc bs 75 0 (gm_ent 75 [gm_vr 214, gm_vi e0]) [] n K R (vm M p b w k v) Q := by
  refine gm_sz (gm_p_load (pc := 0) (i := .aload_n 0) (sr := 2) (j := 0) (by decide +kernel) rfl rfl rfl) ?_
  refine gm_sz (gm_p_load (pc := 1) (i := .iload_n 1) (sr := 0) (j := 1) (by decide +kernel) rfl rfl rfl) ?_
  refine gm_sz (gm_p_load (pc := 2) (i := .aload_n 0) (sr := 2) (j := 0) (by decide +kernel) rfl rfl rfl) ?_
  refine gm_sz (fw_gr (pc := 3) (ix := 30) (ci := 8) (j := 0) (r := 2) (by decide +kernel) (vE214 hE) (by decide +kernel) (by decide +kernel) hE.2.1.1) ?_
  refine gm_sz (fw_al (pc := 6) (k := 2) (len := 400) (by decide +kernel) (vE2 hE).1 (vE2 hE).2 (by decide)) ?_
  refine gm_sz (gm_p_min (pc := 7) (ix := 37) (x := e0) (y := 400) (by decide +kernel) (by decide +kernel) (gm_w_id (by omega) (by omega)) (gm_w_id (by omega) (by omega)) (Nat.le_of_ble_eq_true rfl) (by omega)) ?_
  rw [show min e0 400 = e0 by omega]
  refine gm_sz (fw_pi (pc := 10) (ix := 9) (ci := 8) (j := 2) (M' := vm (gm_uM M 214 2 e0) p b w k v) (by decide +kernel) (vE214 hE) (by decide +kernel) (by decide +kernel) (by decide +kernel) vm_len) ?_
  refine gm_sz (gm_p_load (pc := 13) (i := .aload_n 0) (sr := 2) (j := 0) (by decide +kernel) rfl rfl rfl) ?_
  refine gm_sz (gm_p_const (pc := 14) (i := .iconst 0) (v := gm_vi 0) (by decide +kernel) (by decide +kernel)) ?_
  refine gm_sz (fw_pi (pc := 15) (ix := 15) (ci := 8) (j := 3) (M' := vm (gm_uM M 214 2 e0) 0 b w k v) (by decide +kernel) (vE214 hE) (by decide +kernel) (by decide +kernel) (by decide +kernel) vm_p) ?_
  refine gm_sz (gm_p_load (pc := 18) (i := .aload_n 0) (sr := 2) (j := 0) (by decide +kernel) rfl rfl rfl) ?_
  refine gm_sz (gm_p_const (pc := 19) (i := .iconst (-1)) (v := gm_vi (-1)) (by decide +kernel) (by decide +kernel)) ?_
  refine gm_sz (fw_pi (pc := 20) (ix := 21) (ci := 8) (j := 5) (M' := vm (gm_uM M 214 2 e0) 0 b (-1) k v) (by decide +kernel) (vE214 hE) (by decide +kernel) (by decide +kernel) (by decide +kernel) vm_w) ?_
  refine gm_sz (gm_p_load (pc := 23) (i := .aload_n 0) (sr := 2) (j := 0) (by decide +kernel) rfl rfl rfl) ?_
  refine gm_c_virt (k := 214) (ci := 8) (mj := 76) (ix := 43) (pc := 24) (as := []) (st := []) (d' := d - 1) (bc' := 0) (bs' := 0) (by decide +kernel) (by decide +kernel) (by decide +kernel) (by decide +kernel) (vE214 hE).1 (vE214 hE).2 (by decide) (by decide +kernel) (show 0 = gm_na 76 by decide +kernel) fw_c0 (show 1 ≤ gm_ml 76 by decide +kernel) (Nat.le_of_ble_eq_true rfl) (by omega) (Nat.zero_le _) (Nat.zero_le _) ?_
  refine vx_nx (by omega) hE ⟨Int.le_refl _, h0.1⟩ ?_
  show gm_Wp X LX d _ _ 75 27 _ [] n K R _ Q
  exact gm_r_void (pc := 27) (by decide +kernel) (by decide +kernel) (by rw [show (gm_uM M 214 2 e0) 2 = M 2 from funext fun j => uM_ne (by omega)]; exact hq)

theorem vw_75 (hd : 2 ≤ d) (hE : E0 n K R) (hF : VF (M 2) e0) (h4 : M 214 1 = 4) (h13 : M 213 1 = 14) (hq : ∀ M2, fr [(214, some 2), (214, some 3), (214, some 4), (214, some 5), (214, some 6), (214, some 7)] M M2 → VW (M 2) e0 (tx_g (M 2) e0 0) (-1) M2 → Q (.inl none) n K R M2) : gm_Wp X LX d bc bs 75 0 (gm_ent 75 [gm_vr 214, gm_vi e0]) [] n K R M Q := by
  have e2 : (gm_uM M 214 2 e0) 2 = M 2 := funext fun j => uM_ne (by omega)
  have f4 : (gm_uM M 214 2 e0) 214 1 = 4 := (uM_ne (by omega)).trans h4
  have f3 : (gm_uM M 214 2 e0) 213 1 = 14 := (uM_ne (by omega)).trans h13
  have f2 : (gm_uM M 214 2 e0) 214 2 = e0 := uM_at
  have hE2 : vE n K R (gm_uM M 214 2 e0) e0 := ⟨⟨e0a hE (k := 2) (q := (1, 400)) (by decide +kernel), e0a hE (k := 214) (q := (12, 0)) (by decide +kernel)⟩, ⟨e0r hE (k := 214) (j := 0) (r := 2) (by decide +kernel), f4⟩, ⟨f2, hF.1⟩, fun j h1 h2 => by rw [e2]; exact hF.2 j h1 h2⟩
  have f1 : fr [(214, some 2), (214, some 3), (214, some 4), (214, some 5), (214, some 6), (214, some 7)] M (gm_uM M 214 2 e0) := fr_p fr_0 (Or.inr (by decide))
  have g := vx_c75 (X := X) (LX := LX) (bc := bc) (bs := bs) (Q := Q) (M := M) (p := M 214 3) (b := M 214 4) (w := M 214 5) (k := M 214 6) (v := M 214 7) hd hE2 hF.1 (hq _ (fr_t f1 vt_fr (by decide)) (by
    have r : ∀ b9 w9, vt (gm_uM M 214 2 e0) e0 b9 w9 = vm (gm_uM M 214 2 e0) (tx_s (M 2) e0 b9) b9 w9 (tx_k (M 2) e0 b9) (tx_v (M 2) e0 4 b9) := fun b9 w9 => by unfold vt; rw [e2]
    rw [r]
    generalize gm_uM M 214 2 e0 = G at e2 f2 f3 f4
    exact ⟨e2, ⟨f4, f3, f2⟩, rfl, rfl, rfl, rfl, rfl⟩))
  rw [vm_id] at g
  exact g
theorem ks_16 (hE : E0 n K R) : KS n K R 16 := ⟨e0k hE (k := 16) (c := 1) (by decide +kernel), ⟨⟨e0k hE (k := 17) (c := 2) (by decide +kernel), e0a hE (k := 18) (q := (0, 56)) (by decide +kernel)⟩, e0r hE (k := 16) (j := 9) (r := 17) (by decide +kernel), e0r hE (k := 17) (j := 2) (r := 18) (by decide +kernel)⟩, ⟨⟨e0k hE (k := 19) (c := 2) (by decide +kernel), e0a hE (k := 20) (q := (0, 24)) (by decide +kernel)⟩, e0r hE (k := 16) (j := 10) (r := 19) (by decide +kernel), e0r hE (k := 19) (j := 2) (r := 20) (by decide +kernel)⟩, ⟨⟨e0k hE (k := 21) (c := 2) (by decide +kernel), e0a hE (k := 22) (q := (0, 24)) (by decide +kernel)⟩, e0r hE (k := 16) (j := 11) (r := 21) (by decide +kernel), e0r hE (k := 21) (j := 2) (r := 22) (by decide +kernel)⟩, ⟨⟨e0k hE (k := 23) (c := 2) (by decide +kernel), e0a hE (k := 24) (q := (0, 168)) (by decide +kernel)⟩, e0r hE (k := 16) (j := 12) (r := 23) (by decide +kernel), e0r hE (k := 23) (j := 2) (r := 24) (by decide +kernel)⟩, ⟨⟨e0k hE (k := 25) (c := 2) (by decide +kernel), e0a hE (k := 26) (q := (0, 36)) (by decide +kernel)⟩, e0r hE (k := 16) (j := 13) (r := 25) (by decide +kernel), e0r hE (k := 25) (j := 2) (r := 26) (by decide +kernel)⟩, ⟨⟨e0k hE (k := 27) (c := 2) (by decide +kernel), e0a hE (k := 28) (q := (0, 72)) (by decide +kernel)⟩, e0r hE (k := 16) (j := 14) (r := 27) (by decide +kernel), e0r hE (k := 27) (j := 2) (r := 28) (by decide +kernel)⟩⟩
theorem mx_16 (hC : CST M) : MX M 16 := ⟨hC (17, 0, 8) (by decide), hC (19, 0, 8) (by decide), hC (21, 0, 8) (by decide), hC (23, 0, 24) (by decide), hC (25, 0, 6) (by decide), hC (27, 0, 24) (by decide)⟩
theorem e0h16 (hE : E0 n K R) {v : Nat} : E0 n K (gm_uR R 16 8 v) := e0u hE (by decide +kernel)
theorem cst_cpd : cstL.all (fun q => decide (q.1 < 16 ∨ 16 + 12 < q.1 ∨ ((q.1 = 16 + 1 ∨ q.1 = 16 + 3 ∨ q.1 = 16 + 5 ∨ q.1 = 16 + 7 ∨ q.1 = 16 + 9 ∨ q.1 = 16 + 11) ∧ 0 ≤ q.2.1 ∧ q.2.1 < 3))) = true := by decide +kernel
theorem vy_74 (hq : Q (.inl none) n K R M) : gm_Wp X LX d bc bs 74 0 (gm_ent 74 [gm_vr 213]) [] n K R M Q := gm_r_void (pc := 0) (by decide +kernel) (by decide +kernel) hq
theorem vy_72 {f : Int → Int} (hd : 11 ≤ d) (hE : E0 n K R) (hC : CST M) (hf9 : M 2 = f) (hF : VF f e0) (h4 : M 214 1 = 4) (h13 : M 213 1 = 14) (hT : cs M 16 = N) (hG : GI N) (q1 : ∀ M2, fr [(214, some 2), (214, some 3), (214, some 4), (214, some 5), (214, some 6), (214, some 7), (16, none), (17, some 3), (18, none), (19, some 3), (20, none), (21, some 3), (22, none), (23, some 3), (24, none), (25, some 3), (26, none)] M M2 → CST M2 → cs M2 16 = (v_val f e0 N).2.2 → (v_val f e0 N).1 = true → Q (.inl (some (gm_vi (-1)))) n K R M2) (q0 : ∀ M2, fr [(214, some 2), (214, some 3), (214, some 4), (214, some 5), (214, some 6), (214, some 7), (16, none), (17, some 3), (18, none), (19, some 3), (20, none), (21, some 3), (22, none), (23, some 3), (24, none), (25, some 3), (26, none)] M M2 → CST M2 → ¬ (v_val f e0 N).1 = true → Q (.inl (some (gm_vi (v_val f e0 N).2.1))) n K R M2) : gm_Wp X LX d bc bs 72 0 (gm_ent 72 [gm_vr 213, gm_vi e0]) [] n K R M Q := by
  subst hf9
  obtain ⟨g1, g2, -⟩ := tx_gb (f := M 2) hF.1.1
  have hb : 0 ≤ tx_g (M 2) e0 0 ∧ tx_g (M 2) e0 0 ≤ e0 := ⟨g1, g2⟩
  have he9 := hF.1
  have hkc := tx_kc (f := M 2) (e := e0) (b := tx_g (M 2) e0 0) (fun h => hF.2 _ (by omega) (by omega))
  refine gm_sz (gm_p_load (pc := 0) (i := .aload_n 0) (sr := 2) (j := 0) (by decide +kernel) rfl rfl rfl) ?_
  refine gm_c_up (k := 213) (ci := 7) (mj := 74) (ix := 24) (pc := 1) (as := []) (st := []) (d' := d - 1) (bc' := 0) (bs' := 0) (by decide +kernel) (by decide +kernel) (by decide +kernel) (e0k hE (k := 213) (c := 7) (by decide +kernel)).1 (e0k hE (k := 213) (c := 7) (by decide +kernel)).2 (show 0 = gm_na 74 by decide +kernel) fw_c0 (show 1 ≤ gm_ml 74 by decide +kernel) (Nat.le_of_ble_eq_true rfl) (by omega) (Nat.zero_le _) (Nat.zero_le _) ?_
  refine vy_74 ?_
  show gm_Wp X LX d _ _ 72 4 _ [] n K _ _ Q
  refine gm_sz (gm_p_load (pc := 4) (i := .aload_n 0) (sr := 2) (j := 0) (by decide +kernel) rfl rfl rfl) ?_
  refine gm_sz (fw_gr (pc := 5) (ix := 14) (ci := 7) (j := 0) (r := 214) (by decide +kernel) (e0k hE (k := 213) (c := 7) (by decide +kernel)) (by decide +kernel) (by decide +kernel) (e0r hE (k := 213) (j := 0) (r := 214) (by decide +kernel))) ?_
  refine gm_sz (gm_p_load (pc := 8) (i := .iload_n 1) (sr := 0) (j := 1) (by decide +kernel) rfl rfl rfl) ?_
  refine gm_c_virt (k := 214) (ci := 8) (mj := 75) (ix := 27) (pc := 9) (as := [gm_vi e0]) (st := []) (d' := d - 1) (bc' := 0) (bs' := 0) (by decide +kernel) (by decide +kernel) (by decide +kernel) (by decide +kernel) (e0k hE (k := 214) (c := 8) (by decide +kernel)).1 (e0k hE (k := 214) (c := 8) (by decide +kernel)).2 (by decide) (by decide +kernel) (show 1 = gm_na 75 by decide +kernel) (fw_c1 fw_si) (show 2 ≤ gm_ml 75 by decide +kernel) (Nat.le_of_ble_eq_true rfl) (by omega) (Nat.zero_le _) (Nat.zero_le _) ?_
  refine vw_75 (by omega) hE hF h4 h13 (fun M9 hf9 hv9 => ?_)
  show gm_Wp X LX d _ _ 72 12 _ [] n K _ _ Q
  refine gm_sz (gm_p_load (pc := 12) (i := .aload_n 0) (sr := 2) (j := 0) (by decide +kernel) rfl rfl rfl) ?_
  refine gm_sz (fw_gr (pc := 13) (ix := 14) (ci := 7) (j := 0) (r := 214) (by decide +kernel) (e0k hE (k := 213) (c := 7) (by decide +kernel)) (by decide +kernel) (by decide +kernel) (e0r hE (k := 213) (j := 0) (r := 214) (by decide +kernel))) ?_
  refine gm_sz (fw_gi (pc := 16) (ix := 31) (ci := 8) (j := 6) (x := (tx_k (M 2) e0 (tx_g (M 2) e0 0))) (by decide +kernel) (e0k hE (k := 214) (c := 8) (by decide +kernel)) (by decide +kernel) (by decide +kernel) hv9.2.2.2.2.2.1) ?_
  refine gm_sz (gm_p_const (pc := 19) (i := .sipush 256) (v := gm_vi 256) (by decide +kernel) (by decide +kernel)) ?_
  refine fw_ic (cc := .ne) (pc := 22) (off := 5) (by decide +kernel) (by decide) ⟨by omega, by omega⟩ ⟨by decide, by decide⟩ (fun h22 => ?_) (fun h22 => ?_)
  · have h22 : ¬ (tx_k (M 2) e0 (tx_g (M 2) e0 0)) = 256 := h22
    refine gm_sz (gm_p_const (pc := 27) (i := .iconst 0) (v := gm_vi 0) (by decide +kernel) (by decide +kernel)) ?_
    refine gm_sz (gm_p_stor (pc := 28) (i := .istore_n 2) (sr := 0) (j := 2) (by decide +kernel) rfl (show 3 ≤ _ from Nat.le_of_ble_eq_true rfl) rfl) ?_
    have ev : v_val (M 2) e0 N = v_txt (M 2) e0 14 N (tx_g (M 2) e0 0) := tif_f h22
    rw [ev] at q1 q0
    exact vy_72l (by omega) hE hF e0 14 0 _ N _ rfl (Int.le_refl _) (cst_fr (W := [(214, some 2), (214, some 3), (214, some 4), (214, some 5), (214, some 6), (214, some 7)]) hC (fr_t fr_0 hf9 (by decide)) (by decide +kernel)) hv9 hb ((cs_frd hf9 (by decide)).trans (hT)) hG (fun M2 k1 k2 k4 k5 => q1 M2 (fr_t (fr_t fr_0 hf9 (by decide)) k1 (by decide)) k2 k4 k5) (fun M2 k1 k2 k5 => q0 M2 (fr_t (fr_t fr_0 hf9 (by decide)) k1 (by decide)) k2 k5)
  · have h22 : (tx_k (M 2) e0 (tx_g (M 2) e0 0)) = 256 := Classical.not_not.mp h22
    refine gm_sz (gm_p_const (pc := 25) (i := .iconst (-1)) (v := gm_vi (-1)) (by decide +kernel) (by decide +kernel)) ?_
    have ev : v_val (M 2) e0 N = (true, tx_g (M 2) e0 0, N) := tif_t h22
    rw [ev] at q1
    exact gm_r_int (pc := 26) (by decide +kernel) (Or.inl (by decide +kernel)) (q1 _ (fr_t fr_0 hf9 (by decide)) (cst_fr (W := [(214, some 2), (214, some 3), (214, some 4), (214, some 5), (214, some 6), (214, some 7)]) hC (fr_t fr_0 hf9 (by decide)) (by decide +kernel)) ((cs_frd hf9 (by decide)).trans (hT)) rfl)
end V4A
end
/-! 7a41.v5vz -/
section
/-! THE CLASS'S valley(), whole (laid by wip/core/v5.py). -/
section V5A
variable {X : Int → Int} {LX d bc bs n : Nat} {K : gm_K} {R : gm_R} {M : gm_M} {Q : gm_Q} {f : Int → Int} {e b x i l r w t9 f9 t z : Int} {N : Int → Int}
theorem tif_o {P : Prop} {a c : Bool × Int × (Int → Int)} (ha : a.2.2 i = z) (hb : c.2.2 i = z) : (tif P a c).2.2 i = z := tif_i (α := Bool × Int × (Int → Int)) (C := fun q => q.2.2 i = z) ha hb
theorem tif_h {P : Prop} {a c : Bool × Int × (Int → Int)} (ha : 0 ≤ a.2.1 ∧ a.2.1 ≤ e) (hb : 0 ≤ c.2.1 ∧ c.2.1 ≤ e) : 0 ≤ (tif P a c).2.1 ∧ (tif P a c).2.1 ≤ e := tif_i (α := Bool × Int × (Int → Int)) (C := fun q => 0 ≤ q.2.1 ∧ q.2.1 ≤ e) ha hb
theorem v_sp_o : ∀ (t : Nat) (N : Int → Int) (a b : Int), i < a → (v_sp f e t N a b).2.2 i = N i := by
  intro t
  induction t with
  | zero => exact fun _ _ _ _ => rfl
  | succ t ih =>
    intro N a b h
    show (tif _ _ _ : Bool × Int × (Int → Int)).2.2 i = N i
    refine tif_o ?_ rfl
    rw [ih _ _ _ (by omega)]
    exact nup_ne (by omega)
theorem nper_o (hi : i < 95) (h3 : ¬ i = 3) (h0 : 0 ≤ N 3) : nper N l r w i = N i := by
  unfold nper
  rw [nup_ne (by omega), nup_ne (by omega), nup_ne (by omega), nup_ne (by omega)]
/-- a line leaves the year and the number of texts -/
theorem v_line_o (hN : NR N) (hi : i = 7 ∨ i = 9) : (v_line f e N b).2.2 i = N i := by
  obtain ⟨a2, a5, a3, a4, a6, -⟩ := hN.2.1
  unfold v_line
  refine tif_o ?_ (tif_o ?_ (tif_o ?_ (tif_o ?_ (tif_o ?_ (tif_o ?_ (tif_o ?_ (tif_o ?_ (tif_o ?_ (tif_o ?_ rfl)))))))))
  · unfold v_lanes
    refine tif_o (tif_o ?_ rfl) rfl
    show nup _ _ _ i = N i
    rw [nup_ne (by omega), nup_ne (by omega)]
  · unfold v_last
    refine tif_o (tif_o ?_ rfl) rfl
    show nup _ _ _ i = N i
    rw [nup_ne (by omega), nup_ne (by omega)]
  · unfold v_section
    refine tif_o rfl (tif_o ?_ rfl)
    rw [v_sp_o _ _ _ _ (by omega), nup_ne (by omega), nup_ne (by omega)]
  · unfold v_snow
    refine tif_o (tif_o (tif_o ?_ rfl) rfl) rfl
    show nup _ _ _ i = N i
    rw [nup_ne (by omega), nup_ne (by omega)]
  · unfold v_stripe
    refine tif_o ?_ rfl
    exact nup_ne (by omega)
  · unfold v_seed
    refine tif_o ?_ rfl
    exact nup_ne (by omega)
  · unfold v_flood
    refine tif_o rfl (tif_o (tif_o (tif_o ?_ rfl) rfl) rfl)
    show nup _ _ _ i = N i
    rw [nup_ne (by omega), nup_ne (by omega), nup_ne (by omega), nup_ne (by omega)]
  · unfold v_person
    refine tif_o rfl (tif_o (tif_o (tif_o (tif_o ?_ rfl) ?_) rfl) rfl)
    · exact nper_o (by omega) (by omega) a3.1
    · exact nper_o (by omega) (by omega) a3.1
  · unfold v_rock
    refine tif_o rfl (tif_o (tif_o ?_ rfl) rfl)
    exact nthr_o ⟨by omega, by omega⟩ (by omega) a4.1
  · unfold v_table
    refine tif_o rfl ?_
    rw [v_sp_o _ _ _ _ (by omega), nup_ne (by omega)]
theorem v_txt_o (hi : i = 7 ∨ i = 9) : ∀ (t : Nat) (N : Int → Int) (b : Int), GI N → 0 ≤ b ∧ b ≤ e → (v_txt f e t N b).2.2 i = N i := by
  intro t
  induction t with
  | zero => exact fun _ _ _ _ => rfl
  | succ t ih =>
    intro N b h hb
    have q := v_line_b (f := f) (N := N) hb
    by_cases h1 : (v_line f e N b).1 = true
    · by_cases h2 : tx_k f e (v_line f e N b).2.1 = 256
      · rw [show v_txt f e (t + 1) N b = v_line f e N b by show tif _ _ _ = _; rw [tif_t h1, tif_t h2]]
        exact v_line_o h.1 hi
      · by_cases h3 : tx_k f e (v_line f e N b).2.1 = 59
        · rw [show v_txt f e (t + 1) N b = v_txt f e t (v_line f e N b).2.2 (tx_n f e (v_line f e N b).2.1) by show tif _ _ _ = _; rw [tif_t h1, tif_f h2, tif_t h3]]
          have n1 := tx_nb (f := f) q.2
          rw [ih _ _ (v_line_g h hb h1) ⟨by omega, n1.2.1⟩]
          exact v_line_o h.1 hi
        · rw [show v_txt f e (t + 1) N b = (false, (v_line f e N b).2.1, N) by show tif _ _ _ = _; rw [tif_t h1, tif_f h2, tif_f h3]]
    · rw [show v_txt f e (t + 1) N b = (false, (v_line f e N b).2.1, N) from tif_f h1]
theorem v_txt_b : ∀ (t : Nat) (N : Int → Int) (b : Int), 0 ≤ b ∧ b ≤ e → 0 ≤ (v_txt f e t N b).2.1 ∧ (v_txt f e t N b).2.1 ≤ e := by
  intro t
  induction t with
  | zero => exact fun _ _ hb => hb
  | succ t ih =>
    intro N b hb
    have q := v_line_b (f := f) (N := N) hb
    have n1 := tx_nb (f := f) q.2
    show 0 ≤ (tif _ _ _ : Bool × Int × (Int → Int)).2.1 ∧ (tif _ _ _ : Bool × Int × (Int → Int)).2.1 ≤ e
    exact tif_h (tif_h ⟨by omega, q.2⟩ (tif_h (ih _ _ ⟨by omega, n1.2.1⟩) ⟨by show 0 ≤ (v_line f e N b).2.1; omega, q.2⟩)) ⟨by show 0 ≤ (v_line f e N b).2.1; omega, q.2⟩
theorem v_val_b (he : 0 ≤ e) : 0 ≤ (v_val f e N).2.1 ∧ (v_val f e N).2.1 ≤ e := by
  obtain ⟨g1, g2, -⟩ := tx_gb (f := f) he
  unfold v_val
  exact tif_h ⟨g1, g2⟩ (v_txt_b _ _ _ ⟨g1, g2⟩)
theorem v_val_o (h : GI N) (he : 0 ≤ e) (hi : i = 7 ∨ i = 9) : (v_val f e N).2.2 i = N i := by
  obtain ⟨g1, g2, -⟩ := tx_gb (f := f) he
  unfold v_val
  exact tif_o rfl (v_txt_o hi _ _ _ h ⟨g1, g2⟩)
/-- a text more -/
theorem gi_7 (h : GI N) (hx : 0 ≤ x ∧ x ≤ 12) : GI (nup N 7 x) := by
  obtain ⟨hN, hS, hg⟩ := h
  obtain ⟨⟨⟨a0, b0⟩, ⟨a1, b1⟩, ⟨a10, b10⟩, ⟨a11, b11⟩, ⟨a12, b12⟩, a9, b9⟩, ⟨⟨a2, b2⟩, ⟨a5, b5⟩, ⟨a3, b3⟩, ⟨a4, b4⟩, ⟨a6, b6⟩, ⟨a14, b14⟩, ⟨a7, b7⟩, a13, b13⟩, rF, rP, rL⟩ := id hN
  have e : ∀ j, ¬ j = 7 → nup N 7 x j = N j := fun j h => nup_ne h
  have e7 : nup N 7 x 7 = x := nup_at
  refine ⟨?_, ns_same hS (e 0 (by decide)) (e 2 (by decide)) (fun j h1 h2 => e j (by omega)) b2 b0, ?_⟩
  · unfold NR
    rw [e 4 (by decide), e 0 (by decide), e 1 (by decide), e 10 (by decide), e 11 (by decide), e 12 (by decide), e 9 (by decide), e 2 (by decide), e 5 (by decide), e 3 (by decide), e 6 (by decide), e 14 (by decide), e7, e 13 (by decide)]
    refine ⟨⟨⟨a0, b0⟩, ⟨a1, b1⟩, ⟨a10, b10⟩, ⟨a11, b11⟩, ⟨a12, b12⟩, a9, b9⟩, ⟨⟨a2, b2⟩, ⟨a5, b5⟩, ⟨a3, b3⟩, ⟨a4, b4⟩, ⟨a6, b6⟩, ⟨a14, b14⟩, hx, a13, b13⟩, fun q h0 h1 => ?_, fun q h0 h1 => ?_, fun q h0 h1 => ?_⟩
    · rw [e (71 + (q * 3 + 0)) (by omega), e (71 + (q * 3 + 1)) (by omega), e (71 + (q * 3 + 2)) (by omega)]
      exact rF q h0 h1
    · rw [e (95 + (q * 3 + 0)) (by omega), e (95 + (q * 3 + 1)) (by omega), e (95 + (q * 3 + 2)) (by omega)]
      exact rP q h0 h1
    · rw [e (119 + (q * 7 + 0)) (by omega), e (119 + (q * 7 + 1)) (by omega), e (119 + (q * 7 + 2)) (by omega), e (119 + (q * 7 + 3)) (by omega), e (119 + (q * 7 + 4)) (by omega), e (119 + (q * 7 + 5)) (by omega), e (119 + (q * 7 + 6)) (by omega)]
      exact rL q h0 h1
  · show nup N 7 x 14 = nop (nup N 7 x) (nup N 7 x 4).toNat
    rw [e 14 (by decide), e 4 (by decide), nop_e (N := N) (N 4).toNat (fun u hu => by rw [e _ (by omega)])]
    exact hg
theorem vy_71 (hd : 14 ≤ d) (hbc : 4 ≤ bc) (hbs : 24 ≤ bs) (hE : E0 n K R) (hC : CST M) (hF : VF (M 2) (M 1 1)) (h4 : M 214 1 = 4) (h13 : M 213 1 = 14) (hT : cs M 3 = N) (hG : GI N) (q0 : ∀ M2, (∀ (x : Nat) (j : Int), x < 16 ∨ 28 < x → ¬ x = 214 → ¬ (x = 1 ∧ (j = 1 ∨ j = 2)) → M2 x j = M x j) → CST M2 → cs M2 3 = N → ¬ (v_val (M 2) (M 1 1) N).1 = true → M2 1 2 = (v_val (M 2) (M 1 1) N).2.1 → M2 1 1 = 0 → Q (.inr 0) n K (gm_uR R 16 8 (R 3 8)) M2) (q1 : ∀ M2, (∀ (x : Nat) (j : Int), x < 16 ∨ 28 < x → ¬ x = 214 → ¬ (x = 1 ∧ (j = 1 ∨ j = 2)) → M2 x j = M x j) → CST M2 → cs M2 3 = N → (v_val (M 2) (M 1 1) N).1 = true → N 7 = 12 → M2 1 2 = -1 → M2 1 1 = 0 → Q (.inr 1) n K (gm_uR R 16 8 (R 3 8)) M2) (hq : ∀ M2, (v_val (M 2) (M 1 1) N).1 = true → N 7 < 12 → GI (nup (v_val (M 2) (M 1 1) N).2.2 7 (N 7 + 1)) → TI (nup (v_val (M 2) (M 1 1) N).2.2 7 (N 7 + 1)) (hts ((nup (v_val (M 2) (M 1 1) N).2.2 7 (N 7 + 1)) 13)) (spd (nup (v_val (M 2) (M 1 1) N).2.2 7 (N 7 + 1))) M2 → M2 200 6 = 1 → M2 42 2 = 0 → M2 1 15 = 0 → M2 1 2 = -1 → M2 1 1 = 0 → (∀ (x : Nat) (j : Int), x < 3 ∨ 28 < x → ¬ x = 214 → ¬ x = 201 → ¬ x = 202 → ¬ x = 203 → ¬ (x = 200 ∧ j = 6) → ¬ (x = 42 ∧ j = 2) → ¬ (x = 1 ∧ (j = 1 ∨ j = 2 ∨ j = 15)) → M2 x j = M x j) → Q (.inl (some (gm_vi (N 7 + 1)))) n K (gm_uR (gm_uR R 16 8 (R 3 8)) 3 8 ((gm_uR R 16 8 (R 3 8)) 16 8)) M2) : gm_Wp X LX d bc bs 71 0 (gm_ent 71 [gm_vr 1]) [] n K R M Q := by
  have hN := hG.1
  have he9 := hF.1
  have b7 := hN.2.1.2.2.2.2.2.2.1
  have hvb := v_val_b (f := M 2) (e := M 1 1) (N := N) hF.1.1
  have v7 : (v_val (M 2) (M 1 1) N).2.2 7 = N 7 := v_val_o hG hF.1.1 (Or.inl rfl)
  have hVG : (v_val (M 2) (M 1 1) N).1 = true → GI (v_val (M 2) (M 1 1) N).2.2 := fun h => v_val_g hG hF.1.1 h
  refine gm_sz (gm_p_load (pc := 0) (i := .aload_n 0) (sr := 2) (j := 0) (by decide +kernel) rfl rfl rfl) ?_
  refine gm_sz (fw_gr (pc := 1) (ix := 27) (ci := 0) (j := 4) (r := 16) (by decide +kernel) (e0k hE (k := 1) (c := 0) (by decide +kernel)) (by decide +kernel) (by decide +kernel) (e0r hE (k := 1) (j := 4) (r := 16) (by decide +kernel))) ?_
  refine gm_sz (gm_p_load (pc := 4) (i := .aload_n 0) (sr := 2) (j := 0) (by decide +kernel) rfl rfl rfl) ?_
  refine gm_sz (fw_gr (pc := 5) (ix := 23) (ci := 0) (j := 3) (r := 3) (by decide +kernel) (e0k hE (k := 1) (c := 0) (by decide +kernel)) (by decide +kernel) (by decide +kernel) (e0r hE (k := 1) (j := 3) (r := 3) (by decide +kernel))) ?_
  refine gm_c_virt (k := 16) (ci := 1) (mj := 57) (ix := 114) (pc := 8) (as := [gm_vr 3]) (st := []) (d' := d - 1) (bc' := 0) (bs' := 0) (by decide +kernel) (by decide +kernel) (by decide +kernel) (by decide +kernel) (e0k hE (k := 16) (c := 1) (by decide +kernel)).1 (e0k hE (k := 16) (c := 1) (by decide +kernel)).2 (by decide) (by decide +kernel) (show 1 = gm_na 57 by decide +kernel) (fw_c1 fw_sr) (show 2 ≤ gm_ml 57 by decide +kernel) (Nat.le_of_ble_eq_true rfl) (by omega) (Nat.zero_le _) (Nat.zero_le _) ?_
  refine st_copy (b := 16) (s := 3) (by omega) (ks_16 hE) (ks_3 hE) (by omega) (mx_16 hC) (sz_cs hN hT) (fun M8 hx8 hy8 hc8 => ?_)
  show gm_Wp X LX d _ _ 71 11 _ [] n K _ _ Q
  have t8 : CST M8 := cst_cpy0 cst_cpd hC ⟨hx8, hy8, hc8⟩
  have e28 : M8 2 = M 2 := funext fun j => hx8 2 j (by omega)
  have h48 : M8 214 1 = 4 := (hx8 _ _ (by omega)).trans h4
  have h138 : M8 213 1 = 14 := (hx8 _ _ (by omega)).trans h13
  have hd8 : cs M8 16 = N := hc8.trans hT
  refine gm_sz (gm_p_load (pc := 11) (i := .aload_n 0) (sr := 2) (j := 0) (by decide +kernel) rfl rfl rfl) ?_
  refine gm_sz (gm_p_load (pc := 12) (i := .aload_n 0) (sr := 2) (j := 0) (by decide +kernel) rfl rfl rfl) ?_
  refine gm_sz (fw_gr (pc := 13) (ix := 79) (ci := 0) (j := 12) (r := 213) (by decide +kernel) (e0k hE (k := 1) (c := 0) (by decide +kernel)) (by decide +kernel) (by decide +kernel) (e0r (e0h16 hE) (k := 1) (j := 12) (r := 213) (by decide +kernel))) ?_
  refine gm_sz (gm_p_load (pc := 16) (i := .aload_n 0) (sr := 2) (j := 0) (by decide +kernel) rfl rfl rfl) ?_
  refine gm_sz (fw_gi (pc := 17) (ix := 13) (ci := 0) (j := 1) (x := M 1 1) (by decide +kernel) (e0k hE (k := 1) (c := 0) (by decide +kernel)) (by decide +kernel) (by decide +kernel) ((hx8 _ _ (by omega)).trans rfl)) ?_
  refine gm_c_up (k := 213) (ci := 7) (mj := 72) (ix := 117) (pc := 20) (as := [gm_vi (M 1 1)]) (st := [gm_vr 1]) (d' := d - 1) (bc' := 0) (bs' := 0) (by decide +kernel) (by decide +kernel) (by decide +kernel) (e0k hE (k := 213) (c := 7) (by decide +kernel)).1 (e0k hE (k := 213) (c := 7) (by decide +kernel)).2 (show 1 = gm_na 72 by decide +kernel) (fw_c1 fw_si) (show 2 ≤ gm_ml 72 by decide +kernel) (Nat.le_of_ble_eq_true rfl) (by omega) (Nat.zero_le _) (Nat.zero_le _) ?_
  refine vy_72 (by omega) (e0h16 hE) t8 e28 hF h48 h138 hd8 hG (fun M20 hf20 hc20 hv20 hk20 => ?_) (fun M20 hf20 hc20 hk20 => ?_)
  · show gm_Wp X LX d _ _ 71 23 _ [gm_vi (-1), gm_vr 1] n K _ _ Q
    have t20 : TQ N M20 := ⟨hc20, (cs_same fun x j x1 x2 => (hf20 x j (by intro hm; simp at hm; omega) (by intro hm; simp at hm; omega)).trans (hx8 x j (by omega))).trans hT⟩
    refine gm_sz (fw_pi (pc := 23) (ix := 17) (ci := 0) (j := 2) (M' := gm_uM M20 1 2 (-1)) (by decide +kernel) (e0k hE (k := 1) (c := 0) (by decide +kernel)) (by decide +kernel) (by decide +kernel) (by decide +kernel) rfl) ?_
    refine gm_sz (gm_p_load (pc := 26) (i := .aload_n 0) (sr := 2) (j := 0) (by decide +kernel) rfl rfl rfl) ?_
    refine gm_sz (gm_p_const (pc := 27) (i := .iconst 0) (v := gm_vi 0) (by decide +kernel) (by decide +kernel)) ?_
    refine gm_sz (fw_pi (pc := 28) (ix := 13) (ci := 0) (j := 1) (M' := gm_uM (gm_uM M20 1 2 (-1)) 1 1 0) (by decide +kernel) (e0k hE (k := 1) (c := 0) (by decide +kernel)) (by decide +kernel) (by decide +kernel) (by decide +kernel) rfl) ?_
    refine gm_sz (gm_p_load (pc := 31) (i := .aload_n 0) (sr := 2) (j := 0) (by decide +kernel) rfl rfl rfl) ?_
    refine gm_sz (fw_gi (pc := 32) (ix := 17) (ci := 0) (j := 2) (x := (-1)) (by decide +kernel) (e0k hE (k := 1) (c := 0) (by decide +kernel)) (by decide +kernel) (by decide +kernel) ((uM_ne (by omega)).trans uM_at)) ?_
    refine gm_sz (gm_p_const (pc := 35) (i := .iconst (-1)) (v := gm_vi (-1)) (by decide +kernel) (by decide +kernel)) ?_
    refine fw_ictd (cc := .eq) (pc := 36) (off := 13) (by decide +kernel) (by decide) ⟨by decide, by decide⟩ ⟨by decide, by decide⟩ (by decide) ?_
    refine gm_sz (gm_p_load (pc := 49) (i := .aload_n 0) (sr := 2) (j := 0) (by decide +kernel) rfl rfl rfl) ?_
    refine gm_sz (fw_gr (pc := 50) (ix := 23) (ci := 0) (j := 3) (r := 3) (by decide +kernel) (e0k hE (k := 1) (c := 0) (by decide +kernel)) (by decide +kernel) (by decide +kernel) (e0r (e0h16 hE) (k := 1) (j := 3) (r := 3) (by decide +kernel))) ?_
    refine gm_sz (fw_gi (pc := 53) (ix := 128) (ci := 1) (j := 7) (x := N 7) (by decide +kernel) (e0k hE (k := 3) (c := 1) (by decide +kernel)) (by decide +kernel) (by decide +kernel) ((uM_ne (by omega)).trans ((uM_ne (by omega)).trans (congrFun t20.2 7)))) ?_
    refine gm_sz (gm_p_const (pc := 56) (i := .bipush 12) (v := gm_vi 12) (by decide +kernel) (by decide +kernel)) ?_
    refine fw_ic (cc := .lt) (pc := 58) (off := 13) (by decide +kernel) (by decide) ⟨by omega, by omega⟩ ⟨by decide, by decide⟩ (fun h58 => ?_) (fun h58 => ?_)
    · have h58 : (N 7) < 12 := h58
      refine gm_sz (gm_p_load (pc := 71) (i := .aload_n 0) (sr := 2) (j := 0) (by decide +kernel) rfl rfl rfl) ?_
      refine gm_sz (fw_gr (pc := 72) (ix := 23) (ci := 0) (j := 3) (r := 3) (by decide +kernel) (e0k hE (k := 1) (c := 0) (by decide +kernel)) (by decide +kernel) (by decide +kernel) (e0r (e0h16 hE) (k := 1) (j := 3) (r := 3) (by decide +kernel))) ?_
      refine gm_sz (gm_p_load (pc := 75) (i := .aload_n 0) (sr := 2) (j := 0) (by decide +kernel) rfl rfl rfl) ?_
      refine gm_sz (fw_gr (pc := 76) (ix := 27) (ci := 0) (j := 4) (r := 16) (by decide +kernel) (e0k hE (k := 1) (c := 0) (by decide +kernel)) (by decide +kernel) (by decide +kernel) (e0r (e0h16 hE) (k := 1) (j := 4) (r := 16) (by decide +kernel))) ?_
      refine gm_c_virt (k := 3) (ci := 1) (mj := 57) (ix := 114) (pc := 79) (as := [gm_vr 16]) (st := []) (d' := d - 1) (bc' := 0) (bs' := 0) (by decide +kernel) (by decide +kernel) (by decide +kernel) (by decide +kernel) (e0k hE (k := 3) (c := 1) (by decide +kernel)).1 (e0k hE (k := 3) (c := 1) (by decide +kernel)).2 (by decide) (by decide +kernel) (show 1 = gm_na 57 by decide +kernel) (fw_c1 fw_sr) (show 2 ≤ gm_ml 57 by decide +kernel) (Nat.le_of_ble_eq_true rfl) (by omega) (Nat.zero_le _) (Nat.zero_le _) ?_
      refine st_copy (b := 3) (s := 16) (by omega) (ks_3 (e0h16 hE)) (ks_16 (e0h16 hE)) (by omega) (mx_3 (cst_fr (W := [(1, some 2), (1, some 1)]) t20.1 (fr_p (fr_p fr_0 (Or.inr (by decide))) (Or.inr (by decide))) (by decide +kernel))) (sz_cs (hVG hk20).1 ((cs_el (by omega)).trans ((cs_el (by omega)).trans hv20))) (fun M79 hx79 hy79 hc79 => ?_)
      show gm_Wp X LX d _ _ 71 82 _ [] n K _ _ Q
      have t79 : TQ (v_val (M 2) (M 1 1) N).2.2 M79 := ⟨cst_cpy0 (List.all_eq_true.mp cst_cpf 3 (by decide)) (cst_fr (W := [(1, some 2), (1, some 1)]) t20.1 (fr_p (fr_p fr_0 (Or.inr (by decide))) (Or.inr (by decide))) (by decide +kernel)) ⟨hx79, hy79, hc79⟩, hc79.trans ((cs_el (by omega)).trans ((cs_el (by omega)).trans hv20))⟩
      refine gm_sz (gm_p_load (pc := 82) (i := .aload_n 0) (sr := 2) (j := 0) (by decide +kernel) rfl rfl rfl) ?_
      refine gm_sz (fw_gr (pc := 83) (ix := 23) (ci := 0) (j := 3) (r := 3) (by decide +kernel) (e0k hE (k := 1) (c := 0) (by decide +kernel)) (by decide +kernel) (by decide +kernel) (e0r (e0h3 (e0h16 hE)) (k := 1) (j := 3) (r := 3) (by decide +kernel))) ?_
      refine gm_sz (gm_p_dup (pc := 86) (by decide +kernel) fw_sr) ?_
      refine gm_sz (fw_gi (pc := 87) (ix := 128) (ci := 1) (j := 7) (x := N 7) (by decide +kernel) (e0k hE (k := 3) (c := 1) (by decide +kernel)) (by decide +kernel) (by decide +kernel) ((congrFun t79.2 7).trans v7)) ?_
      refine gm_sz (gm_p_const (pc := 90) (i := .iconst 1) (v := gm_vi 1) (by decide +kernel) (by decide +kernel)) ?_
      refine gm_sz (gm_p_bin (pc := 91) (i := .iadd) (f := fun x y => x + y) (by decide +kernel) rfl) ?_
      refine gm_sz (fw_pi (pc := 92) (ix := 128) (ci := 1) (j := 7) (M' := gm_uM M79 3 7 ((N 7) + 1)) (by decide +kernel) (e0k hE (k := 3) (c := 1) (by decide +kernel)) (by decide +kernel) (by decide +kernel) (by decide +kernel) rfl) ?_
      have g92 : GI (nup (v_val (M 2) (M 1 1) N).2.2 7 (N 7 + 1)) := gi_7 (hVG hk20) ⟨by omega, by omega⟩
      have t92 : TQ (nup (v_val (M 2) (M 1 1) N).2.2 7 (N 7 + 1)) (gm_uM M79 3 7 ((N 7) + 1)) := ⟨(cst_fr (W := [(3, some 7)]) t79.1 (fr_p fr_0 (Or.inr (by decide))) (by decide +kernel)), (cs_f7 (b := 3)).trans (congrArg (fun V9 => nup V9 7 (N 7 + 1)) t79.2)⟩
      refine gm_sz (gm_p_load (pc := 95) (i := .aload_n 0) (sr := 2) (j := 0) (by decide +kernel) rfl rfl rfl) ?_
      refine gm_c_virt (k := 1) (ci := 0) (mj := 61) (ix := 136) (pc := 96) (as := []) (st := []) (d' := d - 1) (bc' := 0) (bs' := 0) (by decide +kernel) (by decide +kernel) (by decide +kernel) (by decide +kernel) (e0k hE (k := 1) (c := 0) (by decide +kernel)).1 (e0k hE (k := 1) (c := 0) (by decide +kernel)).2 (by decide) (by decide +kernel) (show 0 = gm_na 61 by decide +kernel) fw_c0 (show 1 ≤ gm_ml 61 by decide +kernel) (Nat.le_of_ble_eq_true rfl) (by omega) (Nat.zero_le _) (Nat.zero_le _) ?_
      refine fw_c61 (by omega) (e0h3 (e0h16 hE)) t92 g92.1 g92.2.1 (fun M96 hf96 ht96 h6 h42 h15 => ?_)
      show gm_Wp X LX d _ _ 71 99 _ [] n K _ _ Q
      refine gm_sz (gm_p_load (pc := 99) (i := .aload_n 0) (sr := 2) (j := 0) (by decide +kernel) rfl rfl rfl) ?_
      refine gm_sz (fw_gr (pc := 100) (ix := 23) (ci := 0) (j := 3) (r := 3) (by decide +kernel) (e0k hE (k := 1) (c := 0) (by decide +kernel)) (by decide +kernel) (by decide +kernel) (e0r (e0h3 (e0h16 hE)) (k := 1) (j := 3) (r := 3) (by decide +kernel))) ?_
      refine gm_sz (fw_gi (pc := 103) (ix := 128) (ci := 1) (j := 7) (x := (N 7 + 1)) (by decide +kernel) (e0k hE (k := 3) (c := 1) (by decide +kernel)) (by decide +kernel) (by decide +kernel) ((congrFun ht96.2.1 7).trans nup_at)) ?_
      exact gm_r_int (pc := 106) (by decide +kernel) (Or.inl (by decide +kernel)) (hq _ hk20 (by omega) g92 ht96 h6 h42 h15 ((hf96 1 2 (by decide) (by decide)).trans ((uM_ne (by omega)).trans ((hx79 1 2 (by omega)).trans ((uM_ne (by omega)).trans uM_at)))) ((hf96 1 1 (by decide) (by decide)).trans ((uM_ne (by omega)).trans ((hx79 1 1 (by omega)).trans uM_at))) (fun x j hx h1 h2 h3 h4 h5 h7 h8 => ((hf96 x j (by intro hm; simp at hm; omega) (by intro hm; simp at hm; omega)).trans ((uM_ne (by omega)).trans ((hx79 x j (by omega)).trans ((uM_ne (by omega)).trans ((uM_ne (by omega)).trans ((hf20 x j (by intro hm; simp at hm; omega) (by intro hm; simp at hm; omega)).trans (hx8 x j (by omega))))))))))
    · have h58 : ¬ (N 7) < 12 := h58
      exact gm_throw (ik := 131) (is := 133) (ic := 135) (x := 1) (id := 30) (lw := false) (by decide +kernel) (by decide +kernel) (by decide +kernel) (by decide +kernel) (by decide +kernel) (by decide +kernel) (by decide +kernel) (by decide +kernel) (Nat.le_of_ble_eq_true rfl) (by omega) (by omega) (by omega) (q1 _ (fun x j hx h1 h2 => (uM_ne (by omega)).trans ((uM_ne (by omega)).trans ((hf20 x j (by intro hm; simp at hm; omega) (by intro hm; simp at hm; omega)).trans (hx8 x j (by omega))))) (cst_fr (W := [(1, some 2), (1, some 1)]) t20.1 (fr_p (fr_p fr_0 (Or.inr (by decide))) (Or.inr (by decide))) (by decide +kernel)) ((cs_el (by omega)).trans ((cs_el (by omega)).trans t20.2)) hk20 (by omega) ((uM_ne (by omega)).trans uM_at) uM_at)
  · show gm_Wp X LX d _ _ 71 23 _ [gm_vi ((v_val (M 2) (M 1 1) N).2.1), gm_vr 1] n K _ _ Q
    have t20 : TQ N M20 := ⟨hc20, (cs_same fun x j x1 x2 => (hf20 x j (by intro hm; simp at hm; omega) (by intro hm; simp at hm; omega)).trans (hx8 x j (by omega))).trans hT⟩
    refine gm_sz (fw_pi (pc := 23) (ix := 17) (ci := 0) (j := 2) (M' := gm_uM M20 1 2 ((v_val (M 2) (M 1 1) N).2.1)) (by decide +kernel) (e0k hE (k := 1) (c := 0) (by decide +kernel)) (by decide +kernel) (by decide +kernel) (by decide +kernel) rfl) ?_
    refine gm_sz (gm_p_load (pc := 26) (i := .aload_n 0) (sr := 2) (j := 0) (by decide +kernel) rfl rfl rfl) ?_
    refine gm_sz (gm_p_const (pc := 27) (i := .iconst 0) (v := gm_vi 0) (by decide +kernel) (by decide +kernel)) ?_
    refine gm_sz (fw_pi (pc := 28) (ix := 13) (ci := 0) (j := 1) (M' := gm_uM (gm_uM M20 1 2 ((v_val (M 2) (M 1 1) N).2.1)) 1 1 0) (by decide +kernel) (e0k hE (k := 1) (c := 0) (by decide +kernel)) (by decide +kernel) (by decide +kernel) (by decide +kernel) rfl) ?_
    refine gm_sz (gm_p_load (pc := 31) (i := .aload_n 0) (sr := 2) (j := 0) (by decide +kernel) rfl rfl rfl) ?_
    refine gm_sz (fw_gi (pc := 32) (ix := 17) (ci := 0) (j := 2) (x := (v_val (M 2) (M 1 1) N).2.1) (by decide +kernel) (e0k hE (k := 1) (c := 0) (by decide +kernel)) (by decide +kernel) (by decide +kernel) ((uM_ne (by omega)).trans uM_at)) ?_
    refine gm_sz (gm_p_const (pc := 35) (i := .iconst (-1)) (v := gm_vi (-1)) (by decide +kernel) (by decide +kernel)) ?_
    refine fw_ic (cc := .eq) (pc := 36) (off := 13) (by decide +kernel) (by decide) ⟨by omega, by omega⟩ ⟨by decide, by decide⟩ (fun h36 => ?_) (fun h36 => ?_)
    · have h36 : ((v_val (M 2) (M 1 1) N).2.1) = (-1) := h36
      exact absurd h36 (by omega)
    · have h36 : ¬ ((v_val (M 2) (M 1 1) N).2.1) = (-1) := h36
      exact gm_throw (ik := 121) (is := 123) (ic := 125) (x := 0) (id := 29) (lw := false) (by decide +kernel) (by decide +kernel) (by decide +kernel) (by decide +kernel) (by decide +kernel) (by decide +kernel) (by decide +kernel) (by decide +kernel) (Nat.le_of_ble_eq_true rfl) (by omega) (by omega) (by omega) (q0 _ (fun x j hx h1 h2 => (uM_ne (by omega)).trans ((uM_ne (by omega)).trans ((hf20 x j (by intro hm; simp at hm; omega) (by intro hm; simp at hm; omega)).trans (hx8 x j (by omega))))) (cst_fr (W := [(1, some 2), (1, some 1)]) t20.1 (fr_p (fr_p fr_0 (Or.inr (by decide))) (Or.inr (by decide))) (by decide +kernel)) ((cs_el (by omega)).trans ((cs_el (by omega)).trans t20.2)) hk20 ((uM_ne (by omega)).trans uM_at) uM_at)
end V5A
end
/-! 7a42.v6rz -/
section
/-! THE REFERENCE'S readAll OF A VALLEY and valley(), whole (laid by wip/core/v6.py). -/
section V6A
variable {X : Int → Int} {LX d bc bs n : Nat} {K : gm_K} {R : gm_R} {M : gm_M} {Q : gm_Q} {f : Int → Int} {e y : Int} {N h : Int → Int}
theorem rv_244 (hE : E0 n K R) (he : M 226 8 = e) (hq : Q (.inl none) n K R (gm_uM (gm_uM (gm_uM (gm_uM M 226 0 0) 226 10 e) 226 8 0) 226 9 0)) : gm_Wp X LX d bc bs 244 0 (gm_ent 244 [gm_vr 226]) [] n K R M Q := by
  refine gm_sz (gm_p_load (pc := 0) (i := .aload_n 0) (sr := 2) (j := 0) (by decide +kernel) rfl rfl rfl) ?_
  refine gm_sz (gm_p_const (pc := 1) (i := .iconst 0) (v := gm_vi 0) (by decide +kernel) (by decide +kernel)) ?_
  refine gm_sz (fw_pi (pc := 2) (ix := 3) (ci := 11) (j := 0) (M' := gm_uM M 226 0 0) (by decide +kernel) (e0k hE (k := 226) (c := 11) (by decide +kernel)) (by decide +kernel) (by decide +kernel) (by decide +kernel) rfl) ?_
  refine gm_sz (gm_p_load (pc := 5) (i := .aload_n 0) (sr := 2) (j := 0) (by decide +kernel) rfl rfl rfl) ?_
  refine gm_sz (gm_p_load (pc := 6) (i := .aload_n 0) (sr := 2) (j := 0) (by decide +kernel) rfl rfl rfl) ?_
  refine gm_sz (fw_gi (pc := 7) (ix := 103) (ci := 11) (j := 8) (x := e) (by decide +kernel) (e0k hE (k := 226) (c := 11) (by decide +kernel)) (by decide +kernel) (by decide +kernel) ((uM_ne (by omega)).trans he)) ?_
  refine gm_sz (fw_pi (pc := 10) (ix := 109) (ci := 11) (j := 10) (M' := gm_uM (gm_uM M 226 0 0) 226 10 e) (by decide +kernel) (e0k hE (k := 226) (c := 11) (by decide +kernel)) (by decide +kernel) (by decide +kernel) (by decide +kernel) rfl) ?_
  refine gm_sz (gm_p_load (pc := 13) (i := .aload_n 0) (sr := 2) (j := 0) (by decide +kernel) rfl rfl rfl) ?_
  refine gm_sz (gm_p_const (pc := 14) (i := .iconst 0) (v := gm_vi 0) (by decide +kernel) (by decide +kernel)) ?_
  refine gm_sz (fw_pi (pc := 15) (ix := 103) (ci := 11) (j := 8) (M' := gm_uM (gm_uM (gm_uM M 226 0 0) 226 10 e) 226 8 0) (by decide +kernel) (e0k hE (k := 226) (c := 11) (by decide +kernel)) (by decide +kernel) (by decide +kernel) (by decide +kernel) rfl) ?_
  refine gm_sz (gm_p_load (pc := 18) (i := .aload_n 0) (sr := 2) (j := 0) (by decide +kernel) rfl rfl rfl) ?_
  refine gm_sz (gm_p_const (pc := 19) (i := .iconst 0) (v := gm_vi 0) (by decide +kernel) (by decide +kernel)) ?_
  refine gm_sz (fw_pi (pc := 20) (ix := 106) (ci := 11) (j := 9) (M' := gm_uM (gm_uM (gm_uM (gm_uM M 226 0 0) 226 10 e) 226 8 0) 226 9 0) (by decide +kernel) (e0k hE (k := 226) (c := 11) (by decide +kernel)) (by decide +kernel) (by decide +kernel) (by decide +kernel) rfl) ?_
  exact gm_r_void (pc := 23) (by decide +kernel) (by decide +kernel) hq
theorem rv_243 (hd : 12 ≤ d) (hE : E0 n K R) (hF : VF f e) (hf : M 231 = f) (he : M 226 8 = e) (hT : TR N h M) (hG : GI N) (q1 : ∀ (k : Int) M2, 0 ≤ k → k ≤ 14 → fr [(226, some 0), (226, some 10), (226, some 8), (226, some 15), (226, some 9), (226, some 11), (227, none)] M M2 → TR (v_val f e N).2.2 h M2 → BW M M2 → (v_val f e N).1 = true → M2 226 8 = 0 → M2 226 0 = 0 → Q (.inl (some (gm_vi k))) n K R M2) (q0 : ∀ M2, fr [(226, some 0), (226, some 10), (226, some 8), (226, some 15), (226, some 9), (226, some 11), (227, none)] M M2 → M2 226 11 = (v_val f e N).2.1 → ¬ (v_val f e N).1 = true → M2 226 8 = 0 → M2 226 0 = 0 → Q (.inl (some (gm_vi (-1)))) n K R M2) : gm_Wp X LX d bc bs 243 0 (gm_ent 243 [gm_vr 226, gm_vi 1]) [] n K R M Q := by
  have he9 := hF.1
  obtain ⟨g1, g2, -⟩ := tx_gb (f := f) hF.1.1
  have hp0 : (0 : Int) ≤ 0 ∧ 0 ≤ e := ⟨Int.le_refl _, hF.1.1⟩
  have hb : 0 ≤ (tx_g f e 0) ∧ (tx_g f e 0) ≤ e := ⟨g1, g2⟩
  have hgg : tx_g f e (tx_g f e 0) = (tx_g f e 0) := tx_gi hF.1.1
  refine gm_sz (gm_p_load (pc := 0) (i := .aload_n 0) (sr := 2) (j := 0) (by decide +kernel) rfl rfl rfl) ?_
  refine gm_c_virt (k := 226) (ci := 11) (mj := 244) (ix := 289) (pc := 1) (as := []) (st := []) (d' := d - 1) (bc' := 0) (bs' := 0) (by decide +kernel) (by decide +kernel) (by decide +kernel) (by decide +kernel) (e0k hE (k := 226) (c := 11) (by decide +kernel)).1 (e0k hE (k := 226) (c := 11) (by decide +kernel)).2 (by decide) (by decide +kernel) (show 0 = gm_na 244 by decide +kernel) fw_c0 (show 1 ≤ gm_ml 244 by decide +kernel) (Nat.le_of_ble_eq_true rfl) (by omega) (Nat.zero_le _) (Nat.zero_le _) ?_
  refine rv_244 hE he ?_
  show gm_Wp X LX d _ _ 243 4 _ [] n K _ _ Q
  refine gm_sz (gm_p_load (pc := 4) (i := .aload_n 0) (sr := 2) (j := 0) (by decide +kernel) rfl rfl rfl) ?_
  refine gm_sz (gm_p_const (pc := 5) (i := .iconst 0) (v := gm_vi 0) (by decide +kernel) (by decide +kernel)) ?_
  refine gm_sz (fw_pi (pc := 6) (ix := 224) (ci := 11) (j := 15) (M' := gm_uM (gm_uM (gm_uM (gm_uM (gm_uM M 226 0 0) 226 10 e) 226 8 0) 226 9 0) 226 15 0) (by decide +kernel) (e0k hE (k := 226) (c := 11) (by decide +kernel)) (by decide +kernel) (by decide +kernel) (by decide +kernel) rfl) ?_
  have hR0 : RW f e 0 (gm_uM (gm_uM (gm_uM (gm_uM (gm_uM M 226 0 0) 226 10 e) 226 8 0) 226 9 0) 226 15 0) := ⟨(funext fun j => (uM_ne (by omega)).trans ((uM_ne (by omega)).trans ((uM_ne (by omega)).trans ((uM_ne (by omega)).trans (uM_ne (by omega)))))).trans hf, (uM_ne (by omega)).trans ((uM_ne (by omega)).trans ((uM_ne (by omega)).trans (uM_at))), (uM_ne (by omega)).trans (uM_at)⟩
  refine gm_sz (gm_p_load (pc := 9) (i := .aload_n 0) (sr := 2) (j := 0) (by decide +kernel) rfl rfl rfl) ?_
  refine gm_c_virt (k := 226) (ci := 11) (mj := 245) (ix := 119) (pc := 10) (as := []) (st := []) (d' := d - 1) (bc' := 0) (bs' := 0) (by decide +kernel) (by decide +kernel) (by decide +kernel) (by decide +kernel) (e0k hE (k := 226) (c := 11) (by decide +kernel)).1 (e0k hE (k := 226) (c := 11) (by decide +kernel)).2 (by decide) (by decide +kernel) (show 0 = gm_na 245 by decide +kernel) fw_c0 (show 1 ≤ gm_ml 245 by decide +kernel) (Nat.le_of_ble_eq_true rfl) (by omega) (Nat.zero_le _) (Nat.zero_le _) ?_
  refine rv_245 (by omega) hE hF hR0 hp0 rfl hb (fun M10 hf10 hr10 h11 => ?_)
  show gm_Wp X LX d _ _ 243 13 _ [] n K _ _ Q
  refine gm_sz (gm_p_load (pc := 13) (i := .aload_n 0) (sr := 2) (j := 0) (by decide +kernel) rfl rfl rfl) ?_
  refine gm_sz (fw_gi (pc := 14) (ix := 106) (ci := 11) (j := 9) (x := (tx_g f e 0)) (by decide +kernel) (e0k hE (k := 226) (c := 11) (by decide +kernel)) (by decide +kernel) (by decide +kernel) hr10.2.2) ?_
  refine gm_sz (gm_p_load (pc := 17) (i := .aload_n 0) (sr := 2) (j := 0) (by decide +kernel) rfl rfl rfl) ?_
  refine gm_sz (fw_gi (pc := 18) (ix := 109) (ci := 11) (j := 10) (x := e) (by decide +kernel) (e0k hE (k := 226) (c := 11) (by decide +kernel)) (by decide +kernel) (by decide +kernel) hr10.2.1) ?_
  refine fw_ic (cc := .ne) (pc := 21) (off := 5) (by decide +kernel) (by decide) ⟨by omega, by omega⟩ ⟨by omega, by omega⟩ (fun h21 => ?_) (fun h21 => ?_)
  · have h21 : ¬ (tx_g f e 0) = e := h21
    refine gm_sz (gm_p_const (pc := 26) (i := .iconst 0) (v := gm_vi 0) (by decide +kernel) (by decide +kernel)) ?_
    refine gm_sz (gm_p_stor (pc := 27) (i := .istore_n 2) (sr := 0) (j := 2) (by decide +kernel) rfl (show 3 ≤ _ from Nat.le_of_ble_eq_true rfl) rfl) ?_
    have z8 : M10 226 8 = 0 := ((fr_j hf10 (by decide)).trans ((uM_ne (by omega)).trans ((uM_ne (by omega)).trans uM_at)))
    have z0 : M10 226 0 = 0 := ((fr_j hf10 (by decide)).trans ((uM_ne (by omega)).trans ((uM_ne (by omega)).trans ((uM_ne (by omega)).trans ((uM_ne (by omega)).trans uM_at)))))
    have n9 : ¬ tx_k f e (tx_g f e 0) = 256 := fun hh => by have := tx_kne2 (f := f) hh; omega
    have ev : v_val f e N = v_txt f e 14 N (tx_g f e 0) := tif_f n9
    rw [ev] at q1 q0
    have bw : BW M M10 := ⟨fun j hj => ((fr_c hf10 (by decide)).trans ((uM_ne (by omega)).trans ((uM_ne (by omega)).trans ((uM_ne (by omega)).trans ((uM_ne (by omega)).trans (uM_ne (by omega))))))), ((fr_c hf10 (by decide)).trans ((uM_ne (by omega)).trans ((uM_ne (by omega)).trans ((uM_ne (by omega)).trans ((uM_ne (by omega)).trans (uM_ne (by omega)))))))⟩
    exact rv_243l (by omega) hE hF 14 0 (tx_g f e 0) (tx_g f e 0) N _ rfl (Int.le_refl _) hr10 hb hgg hb (tr_fr (W := [(226, some 0), (226, some 10), (226, some 8), (226, some 9), (226, some 15), (226, some 11)]) hT (fr_t (fr_p (fr_p (fr_p (fr_p (fr_p fr_0 (Or.inr (by decide))) (Or.inr (by decide))) (Or.inr (by decide))) (Or.inr (by decide))) (Or.inr (by decide))) hf10 (by decide)) (by decide)) hG (fun k M2 a1 a2 a3 a4 a5 a6 => q1 k M2 a1 a2 (fr_t (fr_t (fr_p (fr_p (fr_p (fr_p (fr_p fr_0 (Or.inr (by decide))) (Or.inr (by decide))) (Or.inr (by decide))) (Or.inr (by decide))) (Or.inr (by decide))) hf10 (by decide)) a3 (by decide)) a4 (bw_t bw a5) a6 ((fr_j a3 (by decide)).trans z8) ((fr_j a3 (by decide)).trans z0)) (fun M2 a1 a2 a3 => q0 M2 (fr_t (fr_t (fr_p (fr_p (fr_p (fr_p (fr_p fr_0 (Or.inr (by decide))) (Or.inr (by decide))) (Or.inr (by decide))) (Or.inr (by decide))) (Or.inr (by decide))) hf10 (by decide)) a1 (by decide)) a2 a3 ((fr_j a1 (by decide)).trans z8) ((fr_j a1 (by decide)).trans z0))
  · have h21 : (tx_g f e 0) = e := Classical.not_not.mp h21
    refine gm_sz (gm_p_const (pc := 24) (i := .iconst 0) (v := gm_vi 0) (by decide +kernel) (by decide +kernel)) ?_
    have z8 : M10 226 8 = 0 := ((fr_j hf10 (by decide)).trans ((uM_ne (by omega)).trans ((uM_ne (by omega)).trans uM_at)))
    have z0 : M10 226 0 = 0 := ((fr_j hf10 (by decide)).trans ((uM_ne (by omega)).trans ((uM_ne (by omega)).trans ((uM_ne (by omega)).trans ((uM_ne (by omega)).trans uM_at)))))
    have n9 : tx_k f e (tx_g f e 0) = 256 := (tx_k0 (f := f) (m := 0) (by omega)).1
    have ev : v_val f e N = (true, (tx_g f e 0), N) := tif_t n9
    rw [ev] at q1
    exact gm_r_int (pc := 25) (by decide +kernel) (Or.inl (by decide +kernel)) (q1 0 _ (Int.le_refl _) (by decide) (fr_t (fr_p (fr_p (fr_p (fr_p (fr_p fr_0 (Or.inr (by decide))) (Or.inr (by decide))) (Or.inr (by decide))) (Or.inr (by decide))) (Or.inr (by decide))) hf10 (by decide)) (tr_fr (W := [(226, some 0), (226, some 10), (226, some 8), (226, some 9), (226, some 15), (226, some 11)]) hT (fr_t (fr_p (fr_p (fr_p (fr_p (fr_p fr_0 (Or.inr (by decide))) (Or.inr (by decide))) (Or.inr (by decide))) (Or.inr (by decide))) (Or.inr (by decide))) hf10 (by decide)) (by decide)) ⟨fun j hj => ((fr_c hf10 (by decide)).trans ((uM_ne (by omega)).trans ((uM_ne (by omega)).trans ((uM_ne (by omega)).trans ((uM_ne (by omega)).trans (uM_ne (by omega))))))), ((fr_c hf10 (by decide)).trans ((uM_ne (by omega)).trans ((uM_ne (by omega)).trans ((uM_ne (by omega)).trans ((uM_ne (by omega)).trans (uM_ne (by omega)))))))⟩ rfl z8 z0)
theorem cp_242a (hE : E0 n K R) (hq : gm_Wp X LX d bc bs 242 27 [some (gm_vr 226), some (gm_vi 1244), none] [] n K R (cpk M 227 229 0 0 1244) Q) : ∀ (u : Nat) (k : Int), k + (u : Int) = 1244 → 0 ≤ k → gm_Wp X LX d bc bs 242 2 [some (gm_vr 226), some (gm_vi k), none] [] n K R (cpk M 227 229 0 0 k) Q := by
  intro u
  induction u with
  | zero =>
    intro k hk k0
    have ek : k = 1244 := by omega
    subst ek
    refine gm_sz (gm_p_load (pc := 2) (i := .iload_n 1) (sr := 0) (j := 1) (by decide +kernel) rfl rfl rfl) ?_
    refine gm_sz (gm_p_const (pc := 3) (i := .sipush 1244) (v := gm_vi 1244) (by decide +kernel) (by decide +kernel)) ?_
    refine fw_ictd (cc := .ge) (pc := 6) (off := 21) (by decide +kernel) (by decide) ⟨by decide, by decide⟩ ⟨by decide, by decide⟩ (by decide) ?_
    exact hq
  | succ u ih =>
    intro k hk k0
    refine gm_sz (gm_p_load (pc := 2) (i := .iload_n 1) (sr := 0) (j := 1) (by decide +kernel) rfl rfl rfl) ?_
    refine gm_sz (gm_p_const (pc := 3) (i := .sipush 1244) (v := gm_vi 1244) (by decide +kernel) (by decide +kernel)) ?_
    refine fw_icf (cc := .ge) (pc := 6) (off := 21) (by decide +kernel) (by decide) ⟨by omega, by omega⟩ ⟨by decide, by decide⟩ (show ¬ 1244 ≤ k by omega) ?_
    refine gm_sz (gm_p_load (pc := 9) (i := .aload_n 0) (sr := 2) (j := 0) (by decide +kernel) rfl rfl rfl) ?_
    refine gm_sz (fw_gr (pc := 10) (ix := 20) (ci := 11) (j := 3) (r := 229) (by decide +kernel) (e0k hE (k := 226) (c := 11) (by decide +kernel)) (by decide +kernel) (by decide +kernel) (e0r hE (k := 226) (j := 3) (r := 229) (by decide +kernel))) ?_
    refine gm_sz (gm_p_load (pc := 13) (i := .iload_n 1) (sr := 0) (j := 1) (by decide +kernel) rfl rfl rfl) ?_
    refine gm_sz (gm_p_load (pc := 14) (i := .aload_n 0) (sr := 2) (j := 0) (by decide +kernel) rfl rfl rfl) ?_
    refine gm_sz (fw_gr (pc := 15) (ix := 13) (ci := 11) (j := 1) (r := 227) (by decide +kernel) (e0k hE (k := 226) (c := 11) (by decide +kernel)) (by decide +kernel) (by decide +kernel) (e0r hE (k := 226) (j := 1) (r := 227) (by decide +kernel))) ?_
    refine gm_sz (gm_p_load (pc := 18) (i := .iload_n 1) (sr := 0) (j := 1) (by decide +kernel) rfl rfl rfl) ?_
    refine gm_sz (fw_ia (pc := 19) (k := 227) (len := 2093) (e0 := k) (x := M 227 k) (by decide +kernel) (e0a hE (k := 227) (q := (0, 2093)) (by decide +kernel)).1 (e0a hE (k := 227) (q := (0, 2093)) (by decide +kernel)).2 (by decide) ⟨by omega, by omega⟩ (cpk_o (by omega))) ?_
    refine gm_sz (fw_is (pc := 20) (k := 229) (len := 1244) (e0 := k) (x := M 227 k) (M' := cpk M 227 229 0 0 (k + 1)) (by decide +kernel) (e0a hE (k := 229) (q := (0, 1244)) (by decide +kernel)).1 (e0a hE (k := 229) (q := (0, 1244)) (by decide +kernel)).2 (by decide) ⟨by omega, by omega⟩ (cpk_s k0 (by omega) (congrArg (M 227) (by omega)))) ?_
    refine gm_sz (gm_p_iinc (pc := 21) (j := 1) (z := 1) (by decide +kernel) rfl) ?_
    refine gm_sz (gm_p_goto (pc := 24) (off := (-22)) (by decide +kernel) (by decide)) ?_
    exact ih (k + 1) (by omega) (by omega)
theorem cp_242az (hE : E0 n K R) (hq : gm_Wp X LX d bc bs 242 27 [some (gm_vr 226), some (gm_vi 1244), none] [] n K R (cpk M 227 229 0 0 1244) Q) : gm_Wp X LX d bc bs 242 2 [some (gm_vr 226), some (gm_vi 0), none] [] n K R M Q := by
  have h9 := cp_242a hE  hq 1244 0 (by omega) (Int.le_refl _)
  rw [cpk_0] at h9
  exact h9
theorem cp_242b (hE : E0 n K R) (hq : gm_Wp X LX d bc bs 242 118 [some (gm_vr 226), some (gm_vi y), some (gm_vi 1244)] [] n K R (cpk M 229 227 0 0 1244) Q) : ∀ (u : Nat) (k : Int), k + (u : Int) = 1244 → 0 ≤ k → gm_Wp X LX d bc bs 242 93 [some (gm_vr 226), some (gm_vi y), some (gm_vi k)] [] n K R (cpk M 229 227 0 0 k) Q := by
  intro u
  induction u with
  | zero =>
    intro k hk k0
    have ek : k = 1244 := by omega
    subst ek
    refine gm_sz (gm_p_load (pc := 93) (i := .iload_n 2) (sr := 0) (j := 2) (by decide +kernel) rfl rfl rfl) ?_
    refine gm_sz (gm_p_const (pc := 94) (i := .sipush 1244) (v := gm_vi 1244) (by decide +kernel) (by decide +kernel)) ?_
    refine fw_ictd (cc := .ge) (pc := 97) (off := 21) (by decide +kernel) (by decide) ⟨by decide, by decide⟩ ⟨by decide, by decide⟩ (by decide) ?_
    exact hq
  | succ u ih =>
    intro k hk k0
    refine gm_sz (gm_p_load (pc := 93) (i := .iload_n 2) (sr := 0) (j := 2) (by decide +kernel) rfl rfl rfl) ?_
    refine gm_sz (gm_p_const (pc := 94) (i := .sipush 1244) (v := gm_vi 1244) (by decide +kernel) (by decide +kernel)) ?_
    refine fw_icf (cc := .ge) (pc := 97) (off := 21) (by decide +kernel) (by decide) ⟨by omega, by omega⟩ ⟨by decide, by decide⟩ (show ¬ 1244 ≤ k by omega) ?_
    refine gm_sz (gm_p_load (pc := 100) (i := .aload_n 0) (sr := 2) (j := 0) (by decide +kernel) rfl rfl rfl) ?_
    refine gm_sz (fw_gr (pc := 101) (ix := 13) (ci := 11) (j := 1) (r := 227) (by decide +kernel) (e0k hE (k := 226) (c := 11) (by decide +kernel)) (by decide +kernel) (by decide +kernel) (e0r hE (k := 226) (j := 1) (r := 227) (by decide +kernel))) ?_
    refine gm_sz (gm_p_load (pc := 104) (i := .iload_n 2) (sr := 0) (j := 2) (by decide +kernel) rfl rfl rfl) ?_
    refine gm_sz (gm_p_load (pc := 105) (i := .aload_n 0) (sr := 2) (j := 0) (by decide +kernel) rfl rfl rfl) ?_
    refine gm_sz (fw_gr (pc := 106) (ix := 20) (ci := 11) (j := 3) (r := 229) (by decide +kernel) (e0k hE (k := 226) (c := 11) (by decide +kernel)) (by decide +kernel) (by decide +kernel) (e0r hE (k := 226) (j := 3) (r := 229) (by decide +kernel))) ?_
    refine gm_sz (gm_p_load (pc := 109) (i := .iload_n 2) (sr := 0) (j := 2) (by decide +kernel) rfl rfl rfl) ?_
    refine gm_sz (fw_ia (pc := 110) (k := 229) (len := 1244) (e0 := k) (x := M 229 k) (by decide +kernel) (e0a hE (k := 229) (q := (0, 1244)) (by decide +kernel)).1 (e0a hE (k := 229) (q := (0, 1244)) (by decide +kernel)).2 (by decide) ⟨by omega, by omega⟩ (cpk_o (by omega))) ?_
    refine gm_sz (fw_is (pc := 111) (k := 227) (len := 2093) (e0 := k) (x := M 229 k) (M' := cpk M 229 227 0 0 (k + 1)) (by decide +kernel) (e0a hE (k := 227) (q := (0, 2093)) (by decide +kernel)).1 (e0a hE (k := 227) (q := (0, 2093)) (by decide +kernel)).2 (by decide) ⟨by omega, by omega⟩ (cpk_s k0 (by omega) (congrArg (M 229) (by omega)))) ?_
    refine gm_sz (gm_p_iinc (pc := 112) (j := 2) (z := 1) (by decide +kernel) rfl) ?_
    refine gm_sz (gm_p_goto (pc := 115) (off := (-22)) (by decide +kernel) (by decide)) ?_
    exact ih (k + 1) (by omega) (by omega)
theorem cp_242bz (hE : E0 n K R) (hq : gm_Wp X LX d bc bs 242 118 [some (gm_vr 226), some (gm_vi y), some (gm_vi 1244)] [] n K R (cpk M 229 227 0 0 1244) Q) : gm_Wp X LX d bc bs 242 93 [some (gm_vr 226), some (gm_vi y), some (gm_vi 0)] [] n K R M Q := by
  have h9 := cp_242b hE  hq 1244 0 (by omega) (Int.le_refl _)
  rw [cpk_0] at h9
  exact h9
theorem rv_242 (hd : 14 ≤ d) (hE : E0 n K R) (hF : VF f e) (hf : M 231 = f) (he : M 226 8 = e) (hT : TR N h M) (hG : GI N) (q0 : ∀ M2, fr [(229, none), (226, some 13), (226, some 0), (226, some 10), (226, some 8), (226, some 15), (226, some 9), (226, some 11), (227, none)] M M2 → (∀ j, 0 ≤ j → j < 1244 → M2 227 j = M 227 j) → ¬ (v_val f e N).1 = true → M2 226 13 = (v_val f e N).2.1 → M2 226 8 = 0 → M2 226 0 = 1 → Q (.inl (some (gm_vi 0))) n K R M2) (q1 : ∀ M2, fr [(229, none), (226, some 13), (226, some 0), (226, some 10), (226, some 8), (226, some 15), (226, some 9), (226, some 11), (227, none)] M M2 → (∀ j, 0 ≤ j → j < 1244 → M2 227 j = M 227 j) → (v_val f e N).1 = true → N 7 = 12 → M2 226 13 = -1 → M2 226 8 = 0 → M2 226 0 = 2 → Q (.inl (some (gm_vi 0))) n K R M2) (hq : ∀ M2, fr [(234, none), (226, some 26), (226, some 6), (229, none), (226, some 13), (226, some 0), (226, some 10), (226, some 8), (226, some 15), (226, some 9), (226, some 11), (227, none)] M M2 → (v_val f e N).1 = true → N 7 < 12 → GI (nup (v_val f e N).2.2 7 (N 7 + 1)) → TR (nup (v_val f e N).2.2 7 (N 7 + 1)) (hts ((nup (v_val f e N).2.2 7 (N 7 + 1)) 13)) M2 → BW M M2 → M2 226 13 = -1 → M2 226 8 = 0 → M2 226 0 = 0 → M2 226 6 = 0 → M2 226 26 = -1 → Q (.inl (some (gm_vi (N 7 + 1)))) n K R M2) : gm_Wp X LX d bc bs 242 0 (gm_ent 242 [gm_vr 226]) [] n K R M Q := by
  have he9 := hF.1
  have b7 := hG.1.2.1.2.2.2.2.2.2.1
  have hvb := v_val_b (f := f) (e := e) (N := N) hF.1.1
  have v7 : (v_val f e N).2.2 7 = N 7 := v_val_o hG hF.1.1 (Or.inl rfl)
  have hVG : (v_val f e N).1 = true → GI (v_val f e N).2.2 := fun h => v_val_g hG hF.1.1 h
  have hT1 : TR N h (cpk M 227 229 0 0 1244) := tr_fr (W := [(229, none)]) hT cpk_fr (by decide)
  have hf1 : cpk M 227 229 0 0 1244 231 = f := (funext fun j => cpk_o (by omega)).trans hf
  have he1 : cpk M 227 229 0 0 1244 226 8 = e := (cpk_o (by omega)).trans he
  refine gm_sz (gm_p_const (pc := 0) (i := .iconst 0) (v := gm_vi 0) (by decide +kernel) (by decide +kernel)) ?_
  refine gm_sz (gm_p_stor (pc := 1) (i := .istore_n 1) (sr := 0) (j := 1) (by decide +kernel) rfl (show 2 ≤ _ from Nat.le_of_ble_eq_true rfl) rfl) ?_
  refine cp_242az (M := M) (Q := Q) hE ?_
  refine gm_sz (gm_p_load (pc := 27) (i := .aload_n 0) (sr := 2) (j := 0) (by decide +kernel) rfl rfl rfl) ?_
  refine gm_sz (gm_p_const (pc := 28) (i := .iconst 1) (v := gm_vi 1) (by decide +kernel) (by decide +kernel)) ?_
  refine gm_c_virt (k := 226) (ci := 11) (mj := 243) (ix := 296) (pc := 29) (as := [gm_vi 1]) (st := []) (d' := d - 1) (bc' := 0) (bs' := 0) (by decide +kernel) (by decide +kernel) (by decide +kernel) (by decide +kernel) (e0k hE (k := 226) (c := 11) (by decide +kernel)).1 (e0k hE (k := 226) (c := 11) (by decide +kernel)).2 (by decide) (by decide +kernel) (show 1 = gm_na 243 by decide +kernel) (fw_c1 fw_si) (show 2 ≤ gm_ml 243 by decide +kernel) (Nat.le_of_ble_eq_true rfl) (by omega) (Nat.zero_le _) (Nat.zero_le _) ?_
  refine rv_243 (by omega) hE hF hf1 he1 hT1 hG (fun k9 M29 a1 a2 hf29 ht29 bw29 hv29 z8 z0 => ?_) (fun M29 hf29 z11 hv29 z8 z0 => ?_)
  · show gm_Wp X LX d _ _ 242 32 _ [gm_vi k9] n K _ _ Q
    refine gm_sz (gm_p_stor (pc := 32) (i := .istore_n 1) (sr := 0) (j := 1) (by decide +kernel) rfl (show 2 ≤ _ from Nat.le_of_ble_eq_true rfl) rfl) ?_
    refine gm_sz (gm_p_load (pc := 33) (i := .aload_n 0) (sr := 2) (j := 0) (by decide +kernel) rfl rfl rfl) ?_
    refine gm_sz (gm_p_load (pc := 34) (i := .iload_n 1) (sr := 0) (j := 1) (by decide +kernel) rfl rfl rfl) ?_
    refine fw_if (cc := .ge) (pc := 35) (off := 10) (by decide +kernel) (by decide) ⟨by omega, by omega⟩ (fun h35 => ?_) (fun h35 => ?_)
    · have h35 : 0 ≤ k9 := h35
      refine gm_sz (gm_p_const (pc := 45) (i := .iconst (-1)) (v := gm_vi (-1)) (by decide +kernel) (by decide +kernel)) ?_
      refine gm_sz (fw_pi (pc := 46) (ix := 30) (ci := 11) (j := 13) (M' := gm_uM M29 226 13 (-1)) (by decide +kernel) (e0k hE (k := 226) (c := 11) (by decide +kernel)) (by decide +kernel) (by decide +kernel) (by decide +kernel) rfl) ?_
      refine gm_sz (gm_p_load (pc := 49) (i := .aload_n 0) (sr := 2) (j := 0) (by decide +kernel) rfl rfl rfl) ?_
      refine gm_sz (gm_p_load (pc := 50) (i := .iload_n 1) (sr := 0) (j := 1) (by decide +kernel) rfl rfl rfl) ?_
      refine fw_if (cc := .ge) (pc := 51) (off := 7) (by decide +kernel) (by decide) ⟨by omega, by omega⟩ (fun h51 => ?_) (fun h51 => ?_)
      · have h51 : 0 ≤ k9 := h51
        refine gm_sz (gm_p_const (pc := 58) (i := .iconst 0) (v := gm_vi 0) (by decide +kernel) (by decide +kernel)) ?_
        refine gm_sz (gm_p_const (pc := 59) (i := .iconst 1) (v := gm_vi 1) (by decide +kernel) (by decide +kernel)) ?_
        refine gm_c_virt (k := 226) (ci := 11) (mj := 282) (ix := 300) (pc := 60) (as := [gm_vi 0, gm_vi 1]) (st := []) (d' := d - 1) (bc' := 0) (bs' := 0) (by decide +kernel) (by decide +kernel) (by decide +kernel) (by decide +kernel) (e0k hE (k := 226) (c := 11) (by decide +kernel)).1 (e0k hE (k := 226) (c := 11) (by decide +kernel)).2 (by decide) (by decide +kernel) (show 2 = gm_na 282 by decide +kernel) (fw_c2 fw_si fw_si) (show 3 ≤ gm_ml 282 by decide +kernel) (Nat.le_of_ble_eq_true rfl) (by omega) (Nat.zero_le _) (Nat.zero_le _) ?_
        refine tf_0 hE ?_
        show gm_Wp X LX d _ _ 242 63 _ [gm_vi 0] n K _ _ Q
        refine fw_iffd (cc := .ne) (pc := 63) (off := 28) (by decide +kernel) (by decide) ⟨by decide, by decide⟩ (by decide) ?_
        refine gm_sz (gm_p_load (pc := 66) (i := .aload_n 0) (sr := 2) (j := 0) (by decide +kernel) rfl rfl rfl) ?_
        refine gm_sz (gm_p_load (pc := 67) (i := .aload_n 0) (sr := 2) (j := 0) (by decide +kernel) rfl rfl rfl) ?_
        refine gm_sz (fw_gr (pc := 68) (ix := 13) (ci := 11) (j := 1) (r := 227) (by decide +kernel) (e0k hE (k := 226) (c := 11) (by decide +kernel)) (by decide +kernel) (by decide +kernel) (e0r hE (k := 226) (j := 1) (r := 227) (by decide +kernel))) ?_
        refine gm_sz (gm_p_const (pc := 71) (i := .bipush 7) (v := gm_vi 7) (by decide +kernel) (by decide +kernel)) ?_
        refine gm_sz (fw_ia (pc := 73) (k := 227) (len := 2093) (e0 := 7) (x := N 7) (by decide +kernel) (e0a hE (k := 227) (q := (0, 2093)) (by decide +kernel)).1 (e0a hE (k := 227) (q := (0, 2093)) (by decide +kernel)).2 (by decide) ⟨by omega, by omega⟩ ((uM_ne (by omega)).trans ((tr_w ht29 (by decide) (by decide) (by decide)).trans v7))) ?_
        refine gm_sz (gm_p_const (pc := 74) (i := .bipush 12) (v := gm_vi 12) (by decide +kernel) (by decide +kernel)) ?_
        refine fw_ic (cc := .ne) (pc := 76) (off := 7) (by decide +kernel) (by decide) ⟨by omega, by omega⟩ ⟨by decide, by decide⟩ (fun h76 => ?_) (fun h76 => ?_)
        · have h76 : ¬ (N 7) = 12 := h76
          refine gm_sz (gm_p_const (pc := 83) (i := .iconst 0) (v := gm_vi 0) (by decide +kernel) (by decide +kernel)) ?_
          refine gm_sz (gm_p_const (pc := 84) (i := .iconst 2) (v := gm_vi 2) (by decide +kernel) (by decide +kernel)) ?_
          refine gm_c_virt (k := 226) (ci := 11) (mj := 282) (ix := 300) (pc := 85) (as := [gm_vi 0, gm_vi 2]) (st := []) (d' := d - 1) (bc' := 0) (bs' := 0) (by decide +kernel) (by decide +kernel) (by decide +kernel) (by decide +kernel) (e0k hE (k := 226) (c := 11) (by decide +kernel)).1 (e0k hE (k := 226) (c := 11) (by decide +kernel)).2 (by decide) (by decide +kernel) (show 2 = gm_na 282 by decide +kernel) (fw_c2 fw_si fw_si) (show 3 ≤ gm_ml 282 by decide +kernel) (Nat.le_of_ble_eq_true rfl) (by omega) (Nat.zero_le _) (Nat.zero_le _) ?_
          refine tf_0 hE ?_
          show gm_Wp X LX d _ _ 242 88 _ [gm_vi 0] n K _ _ Q
          refine fw_iftd (cc := .eq) (pc := 88) (off := 32) (by decide +kernel) (by decide) ⟨by decide, by decide⟩ (by decide) ?_
          refine gm_sz (gm_p_load (pc := 120) (i := .aload_n 0) (sr := 2) (j := 0) (by decide +kernel) rfl rfl rfl) ?_
          refine gm_sz (fw_gr (pc := 121) (ix := 13) (ci := 11) (j := 1) (r := 227) (by decide +kernel) (e0k hE (k := 226) (c := 11) (by decide +kernel)) (by decide +kernel) (by decide +kernel) (e0r hE (k := 226) (j := 1) (r := 227) (by decide +kernel))) ?_
          refine gm_sz (gm_p_const (pc := 124) (i := .bipush 7) (v := gm_vi 7) (by decide +kernel) (by decide +kernel)) ?_
          refine gm_sz (gm_p_dup2 (pc := 126) (by decide +kernel) fw_si fw_sr) ?_
          refine gm_sz (fw_ia (pc := 127) (k := 227) (len := 2093) (e0 := 7) (x := N 7) (by decide +kernel) (e0a hE (k := 227) (q := (0, 2093)) (by decide +kernel)).1 (e0a hE (k := 227) (q := (0, 2093)) (by decide +kernel)).2 (by decide) ⟨by omega, by omega⟩ ((uM_ne (by omega)).trans ((tr_w ht29 (by decide) (by decide) (by decide)).trans v7))) ?_
          refine gm_sz (gm_p_const (pc := 128) (i := .iconst 1) (v := gm_vi 1) (by decide +kernel) (by decide +kernel)) ?_
          refine gm_sz (gm_p_bin (pc := 129) (i := .iadd) (f := fun x y => x + y) (by decide +kernel) rfl) ?_
          refine gm_sz (fw_is (pc := 130) (k := 227) (len := 2093) (e0 := 7) (x := (N 7) + 1) (M' := gm_uM (gm_uM M29 226 13 (-1)) 227 7 ((N 7) + 1)) (by decide +kernel) (e0a hE (k := 227) (q := (0, 2093)) (by decide +kernel)).1 (e0a hE (k := 227) (q := (0, 2093)) (by decide +kernel)).2 (by decide) ⟨by omega, by omega⟩ rfl) ?_
          refine gm_sz (gm_p_load (pc := 131) (i := .aload_n 0) (sr := 2) (j := 0) (by decide +kernel) rfl rfl rfl) ?_
          refine gm_sz (gm_p_const (pc := 132) (i := .iconst 0) (v := gm_vi 0) (by decide +kernel) (by decide +kernel)) ?_
          refine gm_sz (fw_pi (pc := 133) (ix := 79) (ci := 11) (j := 6) (M' := gm_uM (gm_uM (gm_uM M29 226 13 (-1)) 227 7 ((N 7) + 1)) 226 6 0) (by decide +kernel) (e0k hE (k := 226) (c := 11) (by decide +kernel)) (by decide +kernel) (by decide +kernel) (by decide +kernel) rfl) ?_
          have h136 : ws (gm_uM (gm_uM (gm_uM M29 226 13 (-1)) 227 7 ((N 7) + 1)) 226 6 0 227) = (nup (v_val f e N).2.2 7 (N 7 + 1)) := (congrArg ws (funext fun j => uM_ne (by omega))).trans ((ws_um ((congrArg ws (funext fun j => uM_ne (by omega))).trans ht29.1) ⟨by decide, by decide, by decide⟩))
          have g92 : GI (nup (v_val f e N).2.2 7 (N 7 + 1)) := gi_7 (hVG hv29) ⟨by omega, by omega⟩
          refine gm_sz (gm_p_load (pc := 136) (i := .aload_n 0) (sr := 2) (j := 0) (by decide +kernel) rfl rfl rfl) ?_
          refine gm_c_virt (k := 226) (ci := 11) (mj := 235) (ix := 72) (pc := 137) (as := []) (st := []) (d' := d - 1) (bc' := 0) (bs' := 0) (by decide +kernel) (by decide +kernel) (by decide +kernel) (by decide +kernel) (e0k hE (k := 226) (c := 11) (by decide +kernel)).1 (e0k hE (k := 226) (c := 11) (by decide +kernel)).2 (by decide) (by decide +kernel) (show 0 = gm_na 235 by decide +kernel) fw_c0 (show 1 ≤ gm_ml 235 by decide +kernel) (Nat.le_of_ble_eq_true rfl) (by omega) (Nat.zero_le _) (Nat.zero_le _) ?_
          refine wa_c235 hE h136 (fun M137 hf137 hh137 h26 => ?_)
          show gm_Wp X LX d _ _ 242 140 _ [] n K _ _ Q
          refine gm_sz (gm_p_load (pc := 140) (i := .aload_n 0) (sr := 2) (j := 0) (by decide +kernel) rfl rfl rfl) ?_
          refine gm_sz (fw_gr (pc := 141) (ix := 13) (ci := 11) (j := 1) (r := 227) (by decide +kernel) (e0k hE (k := 226) (c := 11) (by decide +kernel)) (by decide +kernel) (by decide +kernel) (e0r hE (k := 226) (j := 1) (r := 227) (by decide +kernel))) ?_
          refine gm_sz (gm_p_const (pc := 144) (i := .bipush 7) (v := gm_vi 7) (by decide +kernel) (by decide +kernel)) ?_
          refine gm_sz (fw_ia (pc := 146) (k := 227) (len := 2093) (e0 := 7) (x := (N 7 + 1)) (by decide +kernel) (e0a hE (k := 227) (q := (0, 2093)) (by decide +kernel)).1 (e0a hE (k := 227) (q := (0, 2093)) (by decide +kernel)).2 (by decide) ⟨by omega, by omega⟩ ((fr_c hf137 (by decide)).trans ((uM_ne (by omega)).trans uM_at))) ?_
          have f9 : fr [(234, none), (226, some 26), (226, some 6), (229, none), (226, some 13), (226, some 0), (226, some 10), (226, some 8), (226, some 15), (226, some 9), (226, some 11), (227, none)] (cpk M 227 229 0 0 1244) M137 := (fr_t (fr_p (fr_p (fr_p (fr_t fr_0 hf29 (by decide)) (Or.inr (by decide))) (Or.inl (by decide))) (Or.inr (by decide))) hf137 (by decide))
          have t9 : TR (nup (v_val f e N).2.2 7 (N 7 + 1)) (hts ((nup (v_val f e N).2.2 7 (N 7 + 1)) 13)) M137 := ⟨(congrArg ws (funext fun j => fr_c hf137 (by decide))).trans h136, fun y y0 y1 => ⟨hh137 y y0 y1, hts_b⟩⟩
          have bw9 : BW M M137 := ⟨fun j hj => (fr_c hf137 (by decide)).trans ((uM_ne (by omega)).trans ((uM_ne (by omega)).trans ((uM_ne (by omega)).trans ((bw29.1 j hj).trans (cpk_o (by omega)))))), (fr_c hf137 (by decide)).trans ((uM_ne (by omega)).trans ((uM_ne (by omega)).trans ((uM_ne (by omega)).trans (bw29.2.trans (cpk_o (by omega))))))⟩
          exact gm_r_int (pc := 147) (by decide +kernel) (Or.inl (by decide +kernel)) (hq _ (fr_t (fr_t fr_0 cpk_fr (by decide)) f9 (by decide)) hv29 (by omega) g92 t9 bw9 ((fr_j hf137 (by decide)).trans ((uM_ne (by omega)).trans ((uM_ne (by omega)).trans uM_at))) ((fr_j hf137 (by decide)).trans ((uM_ne (by omega)).trans ((uM_ne (by omega)).trans ((uM_ne (by omega)).trans z8)))) ((fr_j hf137 (by decide)).trans ((uM_ne (by omega)).trans ((uM_ne (by omega)).trans ((uM_ne (by omega)).trans z0)))) ((fr_j hf137 (by decide)).trans uM_at) h26)
        · have h76 : (N 7) = 12 := Classical.not_not.mp h76
          refine gm_sz (gm_p_const (pc := 79) (i := .iconst 1) (v := gm_vi 1) (by decide +kernel) (by decide +kernel)) ?_
          refine gm_sz (gm_p_goto (pc := 80) (off := 4) (by decide +kernel) (by decide)) ?_
          refine gm_sz (gm_p_const (pc := 84) (i := .iconst 2) (v := gm_vi 2) (by decide +kernel) (by decide +kernel)) ?_
          refine gm_c_virt (k := 226) (ci := 11) (mj := 282) (ix := 300) (pc := 85) (as := [gm_vi 1, gm_vi 2]) (st := []) (d' := d - 1) (bc' := 0) (bs' := 0) (by decide +kernel) (by decide +kernel) (by decide +kernel) (by decide +kernel) (e0k hE (k := 226) (c := 11) (by decide +kernel)).1 (e0k hE (k := 226) (c := 11) (by decide +kernel)).2 (by decide) (by decide +kernel) (show 2 = gm_na 282 by decide +kernel) (fw_c2 fw_si fw_si) (show 3 ≤ gm_ml 282 by decide +kernel) (Nat.le_of_ble_eq_true rfl) (by omega) (Nat.zero_le _) (Nat.zero_le _) ?_
          refine tf_1 hE ?_
          show gm_Wp X LX d _ _ 242 88 _ [gm_vi 1] n K _ _ Q
          refine fw_iffd (cc := .eq) (pc := 88) (off := 32) (by decide +kernel) (by decide) ⟨by decide, by decide⟩ (by decide) ?_
          refine gm_sz (gm_p_const (pc := 91) (i := .iconst 0) (v := gm_vi 0) (by decide +kernel) (by decide +kernel)) ?_
          refine gm_sz (gm_p_stor (pc := 92) (i := .istore_n 2) (sr := 0) (j := 2) (by decide +kernel) rfl (show 3 ≤ _ from Nat.le_of_ble_eq_true rfl) rfl) ?_
          have f9 : fr [(226, some 13), (226, some 0), (226, some 10), (226, some 8), (226, some 15), (226, some 9), (226, some 11), (227, none)] (cpk M 227 229 0 0 1244) (gm_uM (gm_uM M29 226 13 (-1)) 226 0 2) := (fr_p (fr_p (fr_t fr_0 hf29 (by decide)) (Or.inr (by decide))) (Or.inr (by decide)))
          refine cp_242bz (M := (gm_uM (gm_uM M29 226 13 (-1)) 226 0 2)) (Q := Q) hE ?_
          refine gm_sz (gm_p_const (pc := 118) (i := .iconst 0) (v := gm_vi 0) (by decide +kernel) (by decide +kernel)) ?_
          refine gm_r_int (pc := 119) (by decide +kernel) (Or.inl (by decide +kernel)) (q1 _ (fr_t (fr_t (fr_t fr_0 cpk_fr (by decide)) f9 (by decide)) cpk_fr (by decide)) (fun j j0 j1 => ?_) hv29 (by omega) ((cpk_o (by omega)).trans ?_) ((cpk_o (by omega)).trans ?_) ((cpk_o (by omega)).trans ?_))
          · exact (cpk_i (by omega) (by omega)).trans ((fr_c f9 (by decide)).trans ((cpk_i (by omega) (by omega)).trans (congrArg (M 227) (by omega))))
          · exact ((uM_ne (by omega)).trans uM_at)
          · exact ((uM_ne (by omega)).trans ((uM_ne (by omega)).trans z8))
          · exact uM_at
      · have h51 : ¬ 0 ≤ k9 := h51
        exact absurd a1 (by omega)
    · have h35 : ¬ 0 ≤ k9 := h35
      exact absurd a1 (by omega)
  · show gm_Wp X LX d _ _ 242 32 _ [gm_vi (-1)] n K _ _ Q
    refine gm_sz (gm_p_stor (pc := 32) (i := .istore_n 1) (sr := 0) (j := 1) (by decide +kernel) rfl (show 2 ≤ _ from Nat.le_of_ble_eq_true rfl) rfl) ?_
    refine gm_sz (gm_p_load (pc := 33) (i := .aload_n 0) (sr := 2) (j := 0) (by decide +kernel) rfl rfl rfl) ?_
    refine gm_sz (gm_p_load (pc := 34) (i := .iload_n 1) (sr := 0) (j := 1) (by decide +kernel) rfl rfl rfl) ?_
    refine fw_iffd (cc := .ge) (pc := 35) (off := 10) (by decide +kernel) (by decide) ⟨by decide, by decide⟩ (by decide) ?_
    refine gm_sz (gm_p_load (pc := 38) (i := .aload_n 0) (sr := 2) (j := 0) (by decide +kernel) rfl rfl rfl) ?_
    refine gm_sz (fw_gi (pc := 39) (ix := 116) (ci := 11) (j := 11) (x := (v_val f e N).2.1) (by decide +kernel) (e0k hE (k := 226) (c := 11) (by decide +kernel)) (by decide +kernel) (by decide +kernel) z11) ?_
    refine gm_sz (gm_p_goto (pc := 42) (off := 4) (by decide +kernel) (by decide)) ?_
    refine gm_sz (fw_pi (pc := 46) (ix := 30) (ci := 11) (j := 13) (M' := gm_uM M29 226 13 ((v_val f e N).2.1)) (by decide +kernel) (e0k hE (k := 226) (c := 11) (by decide +kernel)) (by decide +kernel) (by decide +kernel) (by decide +kernel) rfl) ?_
    refine gm_sz (gm_p_load (pc := 49) (i := .aload_n 0) (sr := 2) (j := 0) (by decide +kernel) rfl rfl rfl) ?_
    refine gm_sz (gm_p_load (pc := 50) (i := .iload_n 1) (sr := 0) (j := 1) (by decide +kernel) rfl rfl rfl) ?_
    refine fw_iffd (cc := .ge) (pc := 51) (off := 7) (by decide +kernel) (by decide) ⟨by decide, by decide⟩ (by decide) ?_
    refine gm_sz (gm_p_const (pc := 54) (i := .iconst 1) (v := gm_vi 1) (by decide +kernel) (by decide +kernel)) ?_
    refine gm_sz (gm_p_goto (pc := 55) (off := 4) (by decide +kernel) (by decide)) ?_
    refine gm_sz (gm_p_const (pc := 59) (i := .iconst 1) (v := gm_vi 1) (by decide +kernel) (by decide +kernel)) ?_
    refine gm_c_virt (k := 226) (ci := 11) (mj := 282) (ix := 300) (pc := 60) (as := [gm_vi 1, gm_vi 1]) (st := []) (d' := d - 1) (bc' := 0) (bs' := 0) (by decide +kernel) (by decide +kernel) (by decide +kernel) (by decide +kernel) (e0k hE (k := 226) (c := 11) (by decide +kernel)).1 (e0k hE (k := 226) (c := 11) (by decide +kernel)).2 (by decide) (by decide +kernel) (show 2 = gm_na 282 by decide +kernel) (fw_c2 fw_si fw_si) (show 3 ≤ gm_ml 282 by decide +kernel) (Nat.le_of_ble_eq_true rfl) (by omega) (Nat.zero_le _) (Nat.zero_le _) ?_
    refine tf_1 hE ?_
    show gm_Wp X LX d _ _ 242 63 _ [gm_vi 1] n K _ _ Q
    refine fw_iftd (cc := .ne) (pc := 63) (off := 28) (by decide +kernel) (by decide) ⟨by decide, by decide⟩ (by decide) ?_
    refine gm_sz (gm_p_const (pc := 91) (i := .iconst 0) (v := gm_vi 0) (by decide +kernel) (by decide +kernel)) ?_
    refine gm_sz (gm_p_stor (pc := 92) (i := .istore_n 2) (sr := 0) (j := 2) (by decide +kernel) rfl (show 3 ≤ _ from Nat.le_of_ble_eq_true rfl) rfl) ?_
    have f9 : fr [(226, some 13), (226, some 0), (226, some 10), (226, some 8), (226, some 15), (226, some 9), (226, some 11), (227, none)] (cpk M 227 229 0 0 1244) (gm_uM (gm_uM M29 226 13 ((v_val f e N).2.1)) 226 0 1) := (fr_p (fr_p (fr_t fr_0 hf29 (by decide)) (Or.inr (by decide))) (Or.inr (by decide)))
    refine cp_242bz (M := (gm_uM (gm_uM M29 226 13 ((v_val f e N).2.1)) 226 0 1)) (Q := Q) hE ?_
    refine gm_sz (gm_p_const (pc := 118) (i := .iconst 0) (v := gm_vi 0) (by decide +kernel) (by decide +kernel)) ?_
    refine gm_r_int (pc := 119) (by decide +kernel) (Or.inl (by decide +kernel)) (q0 _ (fr_t (fr_t (fr_t fr_0 cpk_fr (by decide)) f9 (by decide)) cpk_fr (by decide)) (fun j j0 j1 => ?_) hv29 ((cpk_o (by omega)).trans ?_) ((cpk_o (by omega)).trans ?_) ((cpk_o (by omega)).trans ?_))
    · exact (cpk_i (by omega) (by omega)).trans ((fr_c f9 (by decide)).trans ((cpk_i (by omega) (by omega)).trans (congrArg (M 227) (by omega))))
    · exact ((uM_ne (by omega)).trans uM_at)
    · exact ((uM_ne (by omega)).trans ((uM_ne (by omega)).trans z8))
    · exact uM_at
end V6A
end
/-! 7a43.w1mk -/
section
/-! THE CLASS'S makeLaw: what the new law holds (laid by wip/core/w1.py). -/
section W1A
variable {X : Int → Int} {LX d bc bs n : Nat} {K : gm_K} {R : gm_R} {M : gm_M} {Q : gm_Q}
theorem nM_ne {a : Nat} {j : Int} (h : ¬ a = n + 1) : gm_nM M n a j = M a j := if_neg h
theorem nK_ne {a c l : Nat} (h : ¬ a = n + 1) : gm_nK K n c l a = K a := if_neg h
theorem nK_at {c l : Nat} : gm_nK K n c l (n + 1) = (c, l) := if_pos rfl
theorem nR_ne {a : Nat} {j : Int} (h : ¬ a = n + 1) : gm_nR R n a j = R a j := if_neg h
theorem mk_125 {n N : Nat} {K : gm_K} {R : gm_R} {M : gm_M} (hk : 1 ≤ 219 ∧ 219 ≤ n) (hK : (K 219).1 = 0) (h2 : (K 219).2 = 400) (hN : N ≤ 400) (hn9 : n + 1 < 100000) (hq : ∀ M' : gm_M, (∀ k j, k ≤ n → M' k j = M k j) → (∀ j, 0 ≤ j → j < (N : Int) → M' (n + 1) j = M 219 j) → Q (.inl (some (gm_vr (n + 1)))) (n + 1) (gm_nK K n 0 N) (gm_nR R n) M') : gm_Wp X LX 1 1 400 125 0 (gm_ent 125 [gm_vr 219, gm_vi (N : Int)]) [] n K R M Q := by
  have iN : gm_ir (N : Int) := ⟨by omega, by omega⟩
  have wN : gm_w (N : Int) = N := gm_w_id (by omega) (by omega)
  have tN : (gm_w (N : Int)).toNat = N := by rw [wN]; omega
  refine gm_sz (gm_p_load (pc := 0) (i := .iload_n 1) (sr := 0) (j := 1) (by decide +kernel) rfl rfl rfl) ?_
  refine gm_sz (gm_p_load (pc := 1) (i := .aload_n 0) (sr := 2) (j := 0) (by decide +kernel) rfl rfl rfl) ?_
  refine gm_sz (gm_p_alen (pc := 2) (by decide +kernel) hk (by omega)) ?_
  rw [show ((K 219).2 : Int) = 400 by rw [h2]; rfl]
  refine gm_b_ic (cc := .ne) (pc := 3) (off := 11) (by decide +kernel) (by decide) (fun _ => ?_) (fun hp => ?_)
  · skip
    refine gm_sz (gm_p_load (pc := 14) (i := .iload_n 1) (sr := 0) (j := 1) (by decide +kernel) rfl rfl rfl) ?_
    refine gm_sp (gm_p_newa (pc := 15) (at0 := .int) (kd := 0) (e0 := (N : Int)) hn9 (by decide +kernel) (Or.inl ⟨rfl, rfl⟩) ⟨by omega, by omega⟩) (Nat.le_refl 1) (by omega) ?_
    rw [tN]
    have k9 : gm_nK K n 0 N 219 = K 219 := by unfold gm_nK; rw [if_neg (by omega)]
    have kn : gm_nK K n 0 N (n + 1) = (0, N) := by unfold gm_nK; rw [if_pos rfl]
    refine gm_sz (gm_p_stor (pc := 17) (i := .astore_n 2) (sr := 2) (j := 2) (by decide +kernel) rfl (by show 2 + 0 < 3; decide) rfl) ?_
    refine gm_sz (gm_p_load (pc := 18) (i := .aload_n 0) (sr := 2) (j := 0) (by decide +kernel) rfl rfl rfl) ?_
    refine gm_sz (gm_p_const (pc := 19) (i := .iconst 0) (v := gm_vi 0) (by decide +kernel) (by decide +kernel)) ?_
    refine gm_sz (gm_p_load (pc := 20) (i := .aload_n 2) (sr := 2) (j := 2) (by decide +kernel) rfl rfl rfl) ?_
    refine gm_sz (gm_p_const (pc := 21) (i := .iconst 0) (v := gm_vi 0) (by decide +kernel) (by decide +kernel)) ?_
    refine gm_sz (gm_p_load (pc := 22) (i := .aload_n 0) (sr := 2) (j := 0) (by decide +kernel) rfl rfl rfl) ?_
    refine gm_sz (gm_p_alen (pc := 23) (by decide +kernel) ⟨hk.1, by omega⟩ (by rw [k9]; omega)) ?_
    rw [show ((gm_nK K n 0 N 219).2 : Int) = 400 by rw [k9, h2]; rfl]
    refine gm_sz (gm_p_load (pc := 24) (i := .iload_n 1) (sr := 0) (j := 1) (by decide +kernel) rfl rfl rfl) ?_
    refine gm_sz (gm_p_min (pc := 25) (ix := 304) (x := 400) (y := (N : Int)) (by decide +kernel) (by decide +kernel) (by decide) wN (Nat.le_of_ble_eq_true rfl) (Nat.le_refl 1)) ?_
    rw [show min (400 : Int) (N : Int) = N by omega]
    refine gm_sz (gm_p_acopy (pc := 28) (ix := 150) (k1 := 219) (k2 := n + 1) (sp := 0) (dp := 0) (m := (N : Int)) (by decide +kernel) (by decide +kernel) ⟨hk.1, by omega⟩ (by rw [k9]; exact hK) ⟨by omega, Nat.le_refl _⟩ (by rw [kn]) (by decide) (by decide) wN (by decide) (by decide) (by omega) (by rw [k9, h2]; omega) (by rw [kn]; show 0 + (N : Int) ≤ (N : Int); omega) (by simp) (Nat.le_refl 1)) ?_
    refine gm_sz (gm_p_load (pc := 31) (i := .aload_n 2) (sr := 2) (j := 2) (by decide +kernel) rfl rfl rfl) ?_
    refine gm_r_ref (pc := 32) (by decide +kernel) (Or.inr ⟨.int, by decide +kernel⟩) (hq _ (fun k j hk => ?_) (fun j j0 j1 => ?_))
    · unfold gm_cpM
      rw [if_neg (fun h => by omega)]
      unfold gm_nM
      rw [if_neg (by omega)]
    · exact (cpM_at j0 j1).trans (nM_ne (by omega))
  · have ip : gm_ir (400 : Int) := ⟨by decide, by decide⟩
    rw [gm_cm_w iN ip] at hp
    have hp : ¬ ((N : Int) ≠ 400) := hp
    have e : N = 400 := by omega
    subst e
    refine gm_sz (gm_p_load (pc := 6) (i := .aload_n 0) (sr := 2) (j := 0) (by decide +kernel) rfl rfl rfl) ?_
    refine gm_sp (gm_p_clone (pc := 7) hn9 (by decide +kernel) (by decide +kernel) hk hK (by decide) (Nat.le_refl 1)) (Nat.le_refl 1) (by omega) ?_
    rw [h2]
    refine gm_sz (gm_p_castA (pc := 10) (by decide +kernel) (by decide +kernel) ⟨by omega, Nat.le_refl _⟩ (by unfold gm_nK; rw [if_pos rfl])) ?_
    refine gm_r_ref (pc := 13) (by decide +kernel) (Or.inr ⟨.int, by decide +kernel⟩) (hq _ (fun k j hk => ?_) (fun j j0 j1 => ?_))
    · unfold gm_clM
      rw [if_neg (by omega)]
    · unfold gm_clM
      rw [if_pos rfl]

variable {c a t r len : Nat} {m z : Int}
theorem rw_copy1 (hd : 1 ≤ d) (hk : (1 ≤ c ∧ c ≤ n) ∧ (K c).1 = 2 + 4) (hs : (1 ≤ r ∧ r ≤ n) ∧ (K r).1 = 2 + 4) (ha : (1 ≤ a ∧ a ≤ n) ∧ K a = (0, len)) (ht : (1 ≤ t ∧ t ≤ n) ∧ K t = (0, len)) (hra : R c ((2 : Nat) : Int) = a) (hrt : R r ((2 : Nat) : Int) = t) (hl : len < 2147483648) (hm : M c 0 = m) (hz : M r 3 = z) (hb : 0 ≤ z ∧ z ≤ m ∧ m ≤ 100000) (hq : Q (.inl none) n K R (gm_cpM (gm_uM M c 3 z) t a 0 0 (len : Int))) : gm_Wp X LX d bc bs 58 0 (gm_ent 58 [gm_vr c, gm_vr r]) [] n K R M Q := by
  refine gm_sz (gm_p_load (pc := 0) (i := .aload_n 0) (sr := 2) (j := 0) (by decide +kernel) rfl rfl rfl) ?_
  refine gm_sz (gm_p_load (pc := 1) (i := .aload_n 1) (sr := 2) (j := 1) (by decide +kernel) rfl rfl rfl) ?_
  refine gm_sz (fw_gi (pc := 2) (ix := 9) (ci := 2) (j := 3) (x := z) (by decide +kernel) hs (by decide +kernel) (by decide +kernel) hz) ?_
  refine gm_sz (gm_p_load (pc := 5) (i := .aload_n 0) (sr := 2) (j := 0) (by decide +kernel) rfl rfl rfl) ?_
  refine gm_sz (fw_gi (pc := 6) (ix := 15) (ci := 2) (j := 0) (x := m) (by decide +kernel) hk (by decide +kernel) (by decide +kernel) hm) ?_
  refine gm_sz (gm_p_min (pc := 9) (ix := 25) (x := z) (y := m) (by decide +kernel) (by decide +kernel) (gm_w_id (by omega) (by omega)) (gm_w_id (by omega) (by omega)) (Nat.le_of_ble_eq_true rfl) (by omega)) ?_
  rw [show min z m = z by omega]
  refine gm_sz (fw_pi (pc := 12) (ix := 9) (ci := 2) (j := 3) (M' := gm_uM M c 3 z) (by decide +kernel) hk (by decide +kernel) (by decide +kernel) (by decide +kernel) rfl) ?_
  refine gm_sz (gm_p_load (pc := 15) (i := .aload_n 1) (sr := 2) (j := 1) (by decide +kernel) rfl rfl rfl) ?_
  refine gm_sz (fw_gr (pc := 16) (ix := 21) (ci := 2) (j := 2) (r := t) (by decide +kernel) hs (by decide +kernel) (by decide +kernel) hrt) ?_
  refine gm_sz (gm_p_const (pc := 19) (i := .iconst 0) (v := gm_vi 0) (by decide +kernel) (by decide +kernel)) ?_
  refine gm_sz (gm_p_load (pc := 20) (i := .aload_n 0) (sr := 2) (j := 0) (by decide +kernel) rfl rfl rfl) ?_
  refine gm_sz (fw_gr (pc := 21) (ix := 21) (ci := 2) (j := 2) (r := a) (by decide +kernel) hk (by decide +kernel) (by decide +kernel) hra) ?_
  refine gm_sz (gm_p_const (pc := 24) (i := .iconst 0) (v := gm_vi 0) (by decide +kernel) (by decide +kernel)) ?_
  refine gm_sz (gm_p_load (pc := 25) (i := .aload_n 1) (sr := 2) (j := 1) (by decide +kernel) rfl rfl rfl) ?_
  refine gm_sz (fw_gr (pc := 26) (ix := 21) (ci := 2) (j := 2) (r := t) (by decide +kernel) hs (by decide +kernel) (by decide +kernel) hrt) ?_
  refine gm_sz (fw_al (pc := 29) (k := t) (len := len) (by decide +kernel) ht.1 ht.2 (by decide)) ?_
  refine gm_sz (gm_p_load (pc := 30) (i := .aload_n 0) (sr := 2) (j := 0) (by decide +kernel) rfl rfl rfl) ?_
  refine gm_sz (fw_gr (pc := 31) (ix := 21) (ci := 2) (j := 2) (r := a) (by decide +kernel) hk (by decide +kernel) (by decide +kernel) hra) ?_
  refine gm_sz (fw_al (pc := 34) (k := a) (len := len) (by decide +kernel) ha.1 ha.2 (by decide)) ?_
  refine gm_sz (gm_p_min (pc := 35) (ix := 25) (x := (len : Int)) (y := (len : Int)) (by decide +kernel) (by decide +kernel) (gm_w_id (by omega) (by omega)) (gm_w_id (by omega) (by omega)) (Nat.le_of_ble_eq_true rfl) (by omega)) ?_
  rw [show min (len : Int) (len : Int) = (len : Int) by omega]
  refine gm_sz (gm_p_acopy (pc := 38) (ix := 40) (k1 := t) (k2 := a) (sp := 0) (dp := 0) (m := (len : Int)) (by decide +kernel) (by decide +kernel) ht.1 (by rw [ht.2]) ha.1 (by rw [ha.2]) (by decide) (by decide) (gm_w_id (by omega) (by omega)) (by decide) (by decide) (by omega) (by rw [ht.2]; show 0 + (len : Int) ≤ (len : Int); omega) (by rw [ha.2]; show 0 + (len : Int) ≤ (len : Int); omega) (Nat.le_of_ble_eq_true rfl) (by omega)) ?_
  exact gm_r_void (pc := 41) (by decide +kernel) (by decide +kernel) hq

theorem mk_2 (hd : 1 ≤ d) (hbc : 1 ≤ bc) (hbs : 48 ≤ bs) (hk : (1 ≤ 248 ∧ 248 ≤ 248) ∧ (K 248).1 = 2 + 4) (hq : Q (.inl none) 249 (gm_nK K 248 0 48) (gm_uR (gm_nR R 248) 248 2 249) (gm_nM (gm_uM (gm_uM (gm_uM M 248 3 0) 248 0 12) 248 1 4) 248)) : gm_Wp X LX d bc bs 2 0 (gm_ent 2 [gm_vr 248, gm_vi 12, gm_vi 4]) [] 248 K R M Q := by
  refine gm_sz (gm_p_load (pc := 0) (i := .aload_n 0) (sr := 2) (j := 0) (by decide +kernel) rfl rfl rfl) ?_
  refine gm_sz (gm_p_oinit (pc := 1) (ix := 3) (by decide +kernel) (by decide +kernel) hk.1 (by decide) hd) ?_
  refine gm_sz (gm_p_load (pc := 4) (i := .aload_n 0) (sr := 2) (j := 0) (by decide +kernel) rfl rfl rfl) ?_
  refine gm_sz (gm_p_const (pc := 5) (i := .iconst 0) (v := gm_vi 0) (by decide +kernel) (by decide +kernel)) ?_
  refine gm_sz (fw_pi (pc := 6) (ix := 9) (ci := 2) (j := 3) (M' := gm_uM M 248 3 0) (by decide +kernel) hk (by decide +kernel) (by decide +kernel) (by decide +kernel) rfl) ?_
  refine gm_sz (gm_p_load (pc := 9) (i := .aload_n 0) (sr := 2) (j := 0) (by decide +kernel) rfl rfl rfl) ?_
  refine gm_sz (gm_p_load (pc := 10) (i := .iload_n 1) (sr := 0) (j := 1) (by decide +kernel) rfl rfl rfl) ?_
  refine gm_sz (fw_pi (pc := 11) (ix := 15) (ci := 2) (j := 0) (M' := gm_uM (gm_uM M 248 3 0) 248 0 12) (by decide +kernel) hk (by decide +kernel) (by decide +kernel) (by decide +kernel) rfl) ?_
  refine gm_sz (gm_p_load (pc := 14) (i := .aload_n 0) (sr := 2) (j := 0) (by decide +kernel) rfl rfl rfl) ?_
  refine gm_sz (gm_p_load (pc := 15) (i := .iload_n 2) (sr := 0) (j := 2) (by decide +kernel) rfl rfl rfl) ?_
  refine gm_sz (fw_pi (pc := 16) (ix := 18) (ci := 2) (j := 1) (M' := gm_uM (gm_uM (gm_uM M 248 3 0) 248 0 12) 248 1 4) (by decide +kernel) hk (by decide +kernel) (by decide +kernel) (by decide +kernel) rfl) ?_
  refine gm_sz (gm_p_load (pc := 19) (i := .aload_n 0) (sr := 2) (j := 0) (by decide +kernel) rfl rfl rfl) ?_
  refine gm_sz (gm_p_load (pc := 20) (i := .iload_n 1) (sr := 0) (j := 1) (by decide +kernel) rfl rfl rfl) ?_
  refine gm_sz (gm_p_load (pc := 21) (i := .iload_n 2) (sr := 0) (j := 2) (by decide +kernel) rfl rfl rfl) ?_
  refine gm_sz (gm_p_bin (pc := 22) (i := .imul) (f := fun x y => x * y) (by decide +kernel) rfl) ?_
  refine gm_sp (gm_p_newa (pc := 23) (at0 := .int) (kd := 0) (e0 := 12 * 4) (by decide) (by decide +kernel) (Or.inl ⟨rfl, rfl⟩) (by decide +kernel)) hbc (show (gm_w (12 * 4)).toNat ≤ bs by rw [show (gm_w (12 * 4)).toNat = 48 by decide +kernel]; exact hbs) ?_
  rw [show (gm_w (12 * 4)).toNat = 48 by decide +kernel]
  refine gm_sz (gm_p_putr (pc := 25) (ix := 21) (ci := 2) (j := 2) (by decide +kernel) ⟨by decide, by decide⟩ ((congrArg Prod.fst (nK_ne (by decide))).trans hk.2) (by decide +kernel) (by decide +kernel) (by decide +kernel)) ?_
  exact gm_r_void (pc := 28) (by decide +kernel) (by decide +kernel) hq
theorem mk_126 (hd : 2 ≤ d) (hbc : 2 ≤ bc) (hbs : 52 ≤ bs) (hk : (1 ≤ 246 ∧ 246 ≤ 247) ∧ (K 246).1 = 10 + 4) (k217 : (K 217).1 = 2 + 4) (k218 : K 218 = (0, 48)) (r217 : R 217 2 = 218) (hz : M 217 3 = z) (hz0 : 0 ≤ z ∧ z ≤ 12) (hq : Q (.inl none) 249 (gm_nK (gm_nK K 247 6 0) 248 0 48) (gm_uR (gm_uR (gm_uR (gm_nR (gm_nR R 247) 248) 248 2 249) 246 0 248) 246 1 247) (gm_cpM (gm_uM (gm_nM (gm_uM (gm_uM (gm_uM (gm_nM M 247) 248 3 0) 248 0 12) 248 1 4) 248) 248 3 z) 218 249 0 0 ((48 : Nat) : Int))) : gm_Wp X LX d bc bs 126 0 (gm_ent 126 [gm_vr 246, gm_vr 217, gm_vr 247]) [] 247 K R M Q := by
  refine gm_sz (gm_p_load (pc := 0) (i := .aload_n 0) (sr := 2) (j := 0) (by decide +kernel) rfl rfl rfl) ?_
  refine gm_sz (gm_p_oinit (pc := 1) (ix := 3) (by decide +kernel) (by decide +kernel) hk.1 (by decide) (by omega)) ?_
  refine gm_sz (gm_p_load (pc := 4) (i := .aload_n 0) (sr := 2) (j := 0) (by decide +kernel) rfl rfl rfl) ?_
  refine gm_sp (gm_p_new (pc := 5) (ix := 9) (ci := 2) (by decide) (by decide +kernel) (by decide +kernel)) (show 1 ≤ bc by omega) (show gm_nf 2 ≤ bs by rw [show gm_nf 2 = 4 by decide +kernel]; omega) ?_
  refine gm_sz (gm_p_dup (pc := 8) (by decide +kernel) fw_sr) ?_
  refine gm_sz (gm_p_const (pc := 9) (i := .bipush 12) (v := gm_vi 12) (by decide +kernel) (by decide +kernel)) ?_
  refine gm_sz (gm_p_const (pc := 11) (i := .iconst 4) (v := gm_vi 4) (by decide +kernel) (by decide +kernel)) ?_
  refine gm_c_init (kd := 1) (mj := 2) (ix := 11) (pc := 12) (k := 248) (as := [gm_vi 12, gm_vi 4]) (st := [gm_vr 248, gm_vr 246]) (d' := 1) (bc' := 1) (bs' := 48) (by decide +kernel) (by decide +kernel) (Or.inl rfl) (by decide +kernel) (by decide +kernel) ⟨by decide, by decide⟩ (show 2 = gm_na 2 by decide +kernel) (fun v hv => by simp only [List.mem_cons, List.not_mem_nil, or_false] at hv; rcases hv with rfl | rfl <;> simp [gm_sort]) (show 2 + 1 ≤ gm_ml 2 by decide +kernel) (Nat.le_of_ble_eq_true rfl) (by omega) (by omega) (show 48 ≤ bs - gm_nf 2 by rw [show gm_nf 2 = 4 by decide +kernel]; omega) ?_
  refine mk_2 (Nat.le_refl _) (Nat.le_refl _) (Nat.le_refl _) ⟨⟨by decide, by decide⟩, congrArg Prod.fst nK_at⟩ ?_
  show gm_Wp X LX d _ _ 126 15 _ [gm_vr 248, gm_vr 246] 249 _ _ _ Q
  have k6 : (gm_nK (gm_nK K 247 6 0) 248 0 48 246).1 = 10 + 4 := (congrArg Prod.fst ((nK_ne (by decide)).trans (nK_ne (by decide)))).trans hk.2
  have k8 : (gm_nK (gm_nK K 247 6 0) 248 0 48 248).1 = 2 + 4 := congrArg Prod.fst ((nK_ne (by decide)).trans nK_at)
  refine gm_sz (gm_p_putr (pc := 15) (ix := 14) (ci := 10) (j := 0) (by decide +kernel) ⟨by decide, by decide⟩ k6 (by decide +kernel) (by decide +kernel) (by decide +kernel)) ?_
  refine gm_sz (gm_p_load (pc := 18) (i := .aload_n 0) (sr := 2) (j := 0) (by decide +kernel) rfl rfl rfl) ?_
  refine gm_sz (fw_gr (pc := 19) (ix := 14) (ci := 10) (j := 0) (r := 248) (by decide +kernel) ⟨⟨by decide, by decide⟩, k6⟩ (by decide +kernel) (by decide +kernel) uR_at) ?_
  refine gm_sz (gm_p_load (pc := 22) (i := .aload_n 1) (sr := 2) (j := 1) (by decide +kernel) rfl rfl rfl) ?_
  refine gm_c_virt (k := 248) (ci := 2) (mj := 58) (ix := 18) (pc := 23) (as := [gm_vr 217]) (st := []) (d' := d - 1) (bc' := 0) (bs' := 0) (by decide +kernel) (by decide +kernel) (by decide +kernel) (by decide +kernel) ⟨by decide, by decide⟩ k8 (by decide) (by decide +kernel) (show 1 = gm_na 58 by decide +kernel) (fw_c1 fw_sr) (show 2 ≤ gm_ml 58 by decide +kernel) (Nat.le_of_ble_eq_true rfl) (by omega) (Nat.zero_le _) (Nat.zero_le _) ?_
  refine rw_copy1 (c := 248) (r := 217) (a := 249) (t := 218) (len := 48) (m := 12) (z := z) (by omega) ⟨⟨by decide, by decide⟩, k8⟩ ⟨⟨by decide, by decide⟩, (congrArg Prod.fst ((nK_ne (by decide)).trans (nK_ne (by decide)))).trans k217⟩ ⟨⟨by decide, by decide⟩, nK_at⟩ ⟨⟨by decide, by decide⟩, ((nK_ne (by decide)).trans (nK_ne (by decide))).trans k218⟩ ((uR_ne (by omega)).trans uR_at) ((uR_ne (by omega)).trans ((uR_ne (by omega)).trans ((nR_ne (by decide)).trans ((nR_ne (by decide)).trans r217)))) (by decide) ?_ ?_ ⟨hz0.1, hz0.2, by decide⟩ ?_
  · exact (nM_ne (by decide)).trans ((uM_ne (by omega)).trans uM_at)
  · exact (nM_ne (by decide)).trans ((uM_ne (by omega)).trans ((uM_ne (by omega)).trans ((uM_ne (by omega)).trans ((nM_ne (by decide)).trans hz))))
  show gm_Wp X LX d _ _ 126 26 _ [] 249 _ _ _ Q
  refine gm_sz (gm_p_load (pc := 26) (i := .aload_n 0) (sr := 2) (j := 0) (by decide +kernel) rfl rfl rfl) ?_
  refine gm_sz (gm_p_load (pc := 27) (i := .aload_n 2) (sr := 2) (j := 2) (by decide +kernel) rfl rfl rfl) ?_
  refine gm_sz (gm_p_putr (pc := 28) (ix := 22) (ci := 10) (j := 1) (by decide +kernel) ⟨by decide, by decide⟩ k6 (by decide +kernel) (by decide +kernel) (by decide +kernel)) ?_
  exact gm_r_void (pc := 31) (by decide +kernel) (by decide +kernel) hq
/-- what the new law holds: codes, lines; and what stands as it was -/
noncomputable def mkN (N : Nat) (z : Int) (K0 : gm_K) (R0 : gm_R) (M0 : gm_M) (K : gm_K) (R : gm_R) (M : gm_M) : Prop := ((∀ c, c ≤ 245 → K c = K0 c) ∧ (∀ c j, c ≤ 245 → R c j = R0 c j) ∧ ∀ c j, c ≤ 245 → M c j = M0 c j) ∧ (K 246 = (14, 0) ∧ K 247 = (0, N) ∧ K 248 = (6, 0) ∧ K 249 = (0, 48)) ∧ (R 246 0 = 248 ∧ R 246 1 = 247 ∧ R 248 2 = 249) ∧ (M 248 0 = 12 ∧ M 248 1 = 4 ∧ M 248 3 = z) ∧ (∀ j, 0 ≤ j → j < 48 → M 249 j = M0 218 j) ∧ ∀ j, 0 ≤ j → j < (N : Int) → M 247 j = M0 219 j
theorem mk_124 {N : Nat} (hE : E0 245 K R) (hN : N ≤ 400) (hu : M 215 4 = N) (hz : M 217 3 = z) (hz0 : 0 ≤ z ∧ z ≤ 12) (hq : ∀ K' R' M', mkN N z K R M K' R' M' → Q (.inl (some (gm_vr 246))) 249 K' R' M') : gm_Wp X LX 3 4 454 124 0 (gm_ent 124 [gm_vr 215]) [] 245 K R M Q := by
  have k215 := e0k hE (k := 215) (c := 9) (by decide +kernel)
  have k219 := e0a hE (k := 219) (q := (0, 400)) (by decide +kernel)
  have k217 := e0a hE (k := 217) (q := (6, 0)) (by decide +kernel)
  have k218 := e0a hE (k := 218) (q := (0, 48)) (by decide +kernel)
  have r2152 := e0r hE (k := 215) (j := 2) (r := 217) (by decide +kernel)
  have r2153 := e0r hE (k := 215) (j := 3) (r := 219) (by decide +kernel)
  have r217 := e0r hE (k := 217) (j := 2) (r := 218) (by decide +kernel)
  refine gm_sp (gm_p_new (pc := 0) (ix := 32) (ci := 10) (by decide) (by decide +kernel) (by decide +kernel)) (by decide) (by decide +kernel) ?_
  have k5 : (1 ≤ 215 ∧ 215 ≤ 246) ∧ (gm_nK K 245 14 0 215).1 = 9 + 4 := ⟨⟨by decide, by decide⟩, (congrArg Prod.fst (nK_ne (by decide))).trans k215.2⟩
  refine gm_sz (gm_p_dup (pc := 3) (by decide +kernel) fw_sr) ?_
  refine gm_sz (gm_p_load (pc := 4) (i := .aload_n 0) (sr := 2) (j := 0) (by decide +kernel) rfl rfl rfl) ?_
  refine gm_sz (fw_gr (pc := 5) (ix := 14) (ci := 9) (j := 2) (r := 217) (by decide +kernel) k5 (by decide +kernel) (by decide +kernel) ((nR_ne (by decide)).trans r2152)) ?_
  refine gm_sz (gm_p_load (pc := 8) (i := .aload_n 0) (sr := 2) (j := 0) (by decide +kernel) rfl rfl rfl) ?_
  refine gm_sz (fw_gr (pc := 9) (ix := 20) (ci := 9) (j := 3) (r := 219) (by decide +kernel) k5 (by decide +kernel) (by decide +kernel) ((nR_ne (by decide)).trans r2153)) ?_
  refine gm_sz (gm_p_load (pc := 12) (i := .aload_n 0) (sr := 2) (j := 0) (by decide +kernel) rfl rfl rfl) ?_
  refine gm_sz (fw_gi (pc := 13) (ix := 24) (ci := 9) (j := 4) (x := (N : Int)) (by decide +kernel) k5 (by decide +kernel) (by decide +kernel) ((nM_ne (by decide)).trans hu)) ?_
  refine gm_c_stat (mj := 125) (ix := 34) (pc := 16) (as := [gm_vr 219, gm_vi (N : Int)]) (st := [gm_vr 217, gm_vr 246, gm_vr 246]) (d' := 1) (bc' := 1) (bs' := 400) (by decide +kernel) (by decide +kernel) (by decide +kernel) (by decide +kernel) (show 2 = gm_na 125 by decide +kernel) (fun v hv => by simp only [List.mem_cons, List.not_mem_nil, or_false] at hv; rcases hv with rfl | rfl <;> simp [gm_sort]) (show 2 ≤ gm_ml 125 by decide +kernel) (Nat.le_of_ble_eq_true rfl) (by decide) (by decide) (by decide +kernel) ?_
  have k9 : gm_nK K 245 14 0 219 = (0, 400) := (nK_ne (by decide)).trans k219.2
  refine mk_125 ⟨by decide, by decide⟩ (congrArg Prod.fst k9) (congrArg Prod.snd k9) hN (by decide) (fun M2 hM2 hc2 => ?_)
  show gm_Wp X LX 3 (4 - 1 - 1) _ 124 19 (gm_ent 124 [gm_vr 215]) [gm_vr 247, gm_vr 217, gm_vr 246, gm_vr 246] 247 (gm_nK (gm_nK K 245 14 0) 246 0 N) (gm_nR (gm_nR R 245) 246) M2 Q
  refine gm_c_init (kd := 1) (mj := 126) (ix := 40) (pc := 19) (k := 246) (as := [gm_vr 217, gm_vr 247]) (st := [gm_vr 246]) (d' := 2) (bc' := 2) (bs' := 52) (by decide +kernel) (by decide +kernel) (Or.inl rfl) (by decide +kernel) (by decide +kernel) ⟨by decide, by decide⟩ (show 2 = gm_na 126 by decide +kernel) (fun v hv => by simp only [List.mem_cons, List.not_mem_nil, or_false] at hv; rcases hv with rfl | rfl <;> simp [gm_sort]) (show 2 + 1 ≤ gm_ml 126 by decide +kernel) (Nat.le_of_ble_eq_true rfl) (by decide) (by decide) (by decide +kernel) ?_
  have m2 : ∀ c j, c ≤ 245 → M2 c j = M c j := fun c j hc => (hM2 c j (by omega)).trans (nM_ne (by omega))
  have kk : ∀ c, c ≤ 245 → gm_nK (gm_nK K 245 14 0) 246 0 N c = K c := fun c hc => (nK_ne (by omega)).trans (nK_ne (by omega))
  have rr : ∀ c j, c ≤ 245 → gm_nR (gm_nR R 245) 246 c j = R c j := fun c j hc => (nR_ne (by omega)).trans (nR_ne (by omega))
  refine mk_126 (z := z) (by decide) (by decide) (by decide) ⟨⟨by decide, by decide⟩, congrArg Prod.fst ((nK_ne (by decide)).trans nK_at)⟩ (by rw [kk 217 (by decide), k217.2]) ((kk 218 (by decide)).trans k218.2) ((rr 217 2 (by decide)).trans r217) ((m2 217 3 (by decide)).trans hz) hz0 ?_
  show gm_Wp X LX 3 _ _ 124 22 (gm_ent 124 [gm_vr 215]) [gm_vr 246] 249 _ _ _ Q
  refine gm_r_ref (pc := 22) (by decide +kernel) (Or.inl ⟨"GlacierMail$Law", (by decide +kernel)⟩) (hq _ _ _ ⟨⟨fun c hc => ?_, fun c j hc => ?_, fun c j hc => ?_⟩, ⟨?_, ?_, ?_, nK_at⟩, ⟨?_, uR_at, ?_⟩, ⟨?_, ?_, ?_⟩, fun j j0 j1 => ?_, fun j j0 j1 => ?_⟩)
  · exact (nK_ne (by omega)).trans ((nK_ne (by omega)).trans (kk c hc))
  · exact (uR_ne (by omega)).trans ((uR_ne (by omega)).trans ((uR_ne (by omega)).trans ((nR_ne (by omega)).trans ((nR_ne (by omega)).trans (rr c j hc)))))
  · exact (cpM_ne (by omega)).trans ((uM_ne (by omega)).trans ((nM_ne (by omega)).trans ((uM_ne (by omega)).trans ((uM_ne (by omega)).trans ((uM_ne (by omega)).trans ((nM_ne (by omega)).trans (m2 c j hc)))))))
  · exact (nK_ne (by decide)).trans ((nK_ne (by decide)).trans ((nK_ne (by decide)).trans nK_at))
  · exact (nK_ne (by decide)).trans ((nK_ne (by decide)).trans nK_at)
  · exact (nK_ne (by decide)).trans nK_at
  · exact (uR_ne (by omega)).trans uR_at
  · exact (uR_ne (by omega)).trans ((uR_ne (by omega)).trans uR_at)
  · exact (cpM_ne (by decide)).trans ((uM_ne (by omega)).trans ((nM_ne (by decide)).trans ((uM_ne (by omega)).trans uM_at)))
  · exact (cpM_ne (by decide)).trans ((uM_ne (by omega)).trans ((nM_ne (by decide)).trans uM_at))
  · exact (cpM_ne (by decide)).trans uM_at
  · exact (cpM_at j0 j1).trans ((uM_ne (by omega)).trans ((nM_ne (by decide)).trans ((uM_ne (by omega)).trans ((uM_ne (by omega)).trans ((uM_ne (by omega)).trans ((nM_ne (by decide)).trans (m2 218 j (by decide))))))))
  · exact (cpM_ne (by decide)).trans ((uM_ne (by omega)).trans ((nM_ne (by decide)).trans ((uM_ne (by omega)).trans ((uM_ne (by omega)).trans ((uM_ne (by omega)).trans ((nM_ne (by decide)).trans ((hc2 j j0 j1).trans (nM_ne (by decide)))))))))
end W1A
end
/-! 7a44.w2kf -/
section
/-! THE CLASS'S readText OF A LAW, with what it leaves alone (laid by wip/core/w2.py). -/
section W2A
variable {X : Int → Int} {LX d bc bs n : Nat} {K K2 : gm_K} {R R1 R2 : gm_R} {M M1 : gm_M} {Q : gm_Q} {e e0 b w us lc x p k v : Int} {D C D2 C2 : Int → Int} {ls : List lln}
noncomputable def kxw (c : Nat) (j : Int) : Prop := c = 216 ∨ c = 218 ∨ c = 219 ∨ (c = 215 ∧ j = 4) ∨ (c = 217 ∧ j = 3)
noncomputable def kxf (R : gm_R) (M : gm_M) (R2 : gm_R) (M2 : gm_M) : Prop := (∀ (c : Nat) (j : Int), c ≤ 245 → ¬ kxw c j → M2 c j = M c j) ∧ ∀ (c : Nat) (j : Int), c ≤ 245 → R2 c j = R c j
theorem kxf_ct (h : kxf R M R1 M1) : kxf R M R1 (ct (gm_uM M1 216 2 x) e b w us lc D C) := by
  refine ⟨fun c j hc hn => ?_, h.2⟩
  have h9 := h.1 c j hc hn
  unfold kxw at hn
  have q : gm_uM M1 216 2 x c j = M c j := (uM_ne (by omega)).trans h9
  unfold ct cm
  rw [if_neg (by omega)]
  by_cases a15 : c = 215
  · rw [if_pos a15, if_neg (by omega)]
    exact q
  rw [if_neg a15]
  by_cases a17 : c = 217
  · rw [if_pos a17, if_neg (by omega)]
    exact q
  rw [if_neg a17, if_neg (by omega), if_neg (by omega)]
  exact q
theorem cdl_same (h : cdl ls us D C) (hl : ls.length ≤ 12) (hD : ∀ j, 0 ≤ j → j < 48 → D2 j = D j) (hC : ∀ j, 0 ≤ j → j < us → C2 j = C j) : cdl ls us D2 C2 := by
  refine ⟨fun k x hx => ?_, fun i i0 i1 => by rw [hC i i0 i1]; exact h.2.1 i i0 i1, fun k hk => ?_⟩
  · have hk : k < ls.length := (List.getElem?_eq_some_iff.mp hx).1
    obtain ⟨a1, a2, a3, a4⟩ := h.1 k x hx
    obtain ⟨⟨b1, b2, b3⟩, -⟩ := h.2.2 k hk
    rw [hD ((k : Int) * 4 + 0) (by omega) (by omega), hD ((k : Int) * 4 + 1) (by omega) (by omega), hD ((k : Int) * 4 + 2) (by omega) (by omega), hD ((k : Int) * 4 + 3) (by omega) (by omega)]
    refine ⟨a1, a2, a3, fun t ht => ?_⟩
    obtain ⟨c1, c2⟩ := a4 t ht
    refine ⟨c1, fun j v hv => ?_⟩
    have hj : j < (scds t).length := (List.getElem?_eq_some_iff.mp hv).1
    rw [hC (D ((k : Int) * 4 + 2) + (j : Int)) (by omega) (by omega)]
    exact c2 j v hv
  · rw [hD ((k : Int) * 4 + 0) (by omega) (by omega), hD ((k : Int) * 4 + 1) (by omega) (by omega), hD ((k : Int) * 4 + 2) (by omega) (by omega), hD ((k : Int) * 4 + 3) (by omega) (by omega)]
    exact h.2.2 k hk
theorem e0_x {n2 : Nat} (hF : gm_Fx p2_O 245 K R M) (hn : 245 ≤ n2) (hK : ∀ c, c ≤ 245 → K2 c = K c) (hR : ∀ c j, c ≤ 245 → R2 c j = R c j) : E0 n2 K2 R2 := ⟨fun k q hq => ⟨⟨(hF.1 k q hq).1, Nat.le_trans (hF.1 k q hq).2.1 hn⟩, (hK k (hF.1 k q hq).2.1).trans (hF.1 k q hq).2.2⟩, fun k j r hr => (hR k j (hF.2.1 k j r hr).1).trans (hF.2.1 k j r hr).2⟩
theorem kx_c72f (hd : 25 ≤ d) (hF : gm_Fx p2_O 245 K R M) (h0 : 0 ≤ e0 ∧ e0 ≤ 400) (h1 : ∀ (K2 : gm_K) R2 M2, (∀ k, k ≤ 245 → K2 k = K k) → kxf R M R2 M2 → ctw (s_law (M 2) e0) M2 → (g_law (M 2) e0).1 = true → M2 217 3 = (g_law (M 2) e0).2 → Q (.inl (some (gm_vi (-1)))) 245 K2 R2 M2) (hq0 : ∀ (K2 : gm_K) R2 M2, (∀ k, k ≤ 245 → K2 k = K k) → kxf R M R2 M2 → ¬ (g_law (M 2) e0).1 = true → Q (.inl (some (gm_vi (g_law (M 2) e0).2))) 245 K2 R2 M2) : gm_Wp X LX d bc bs 72 0 (gm_ent 72 [gm_vr 215, gm_vi e0]) [] 245 K R M Q := by
  have hE0 := tx_EF hF
  refine gm_sz (gm_p_load (pc := 0) (i := .aload_n 0) (sr := 2) (j := 0) (by decide +kernel) rfl rfl rfl) ?_
  refine gm_c_up (k := 215) (ci := 9) (mj := 73) (ix := 24) (pc := 1) (as := []) (st := []) (d' := d - 1) (bc' := 0) (bs' := 0) (by decide +kernel) (by decide +kernel) (by decide +kernel) (tE215c hE0).1 (tE215c hE0).2 (show 0 = gm_na 73 by decide +kernel) fw_c0 (show 1 ≤ gm_ml 73 by decide +kernel) (Nat.le_of_ble_eq_true rfl) (by omega) (Nat.zero_le _) (Nat.zero_le _) ?_
  refine gm_Wp_mono (fun o n9 K1 R1 M1 h => ?_) (pm_s2_s (d - 1) (ck_sn p2_O (fun _ => 0) M) [gm_vr 215] 245 K R M (show 2 ≤ d - 1 by omega) rfl ⟨_, _, rfl, rfl, rfl⟩ (ck_sn_s p2_nmu) hF ⟨(fun _ h => nomatch h), (fun _ h => nomatch h), (fun _ h => nomatch h)⟩)
  obtain ⟨f1, f2, oc, f3, f4, f5, f6⟩ := h
  rw [List.mem_singleton.mp f3] at f4 f5 f6
  have f5 : n9 = 245 := f5
  subst f5
  rcases o with (_ | v9) | x9
  case inl.some => exact absurd f4 id
  case inr => exact absurd f4 id
  have u0 := ((f6.2.2 (215, 4, 4, ck_one 0) List.mem_cons_self).2 4 (Int.le_refl _) (Int.le_refl _)).2
  have u1 := ((f6.2.2 (217, 3, 3, ck_one 0) (List.mem_cons_of_mem _ List.mem_cons_self)).2 3 (Int.le_refl _) (Int.le_refl _)).2
  have v0 : M1 215 4 = 0 := Int.le_antisymm u0.2.1 u0.1
  have v1 : M1 217 3 = 0 := Int.le_antisymm u1.2.1 u1.1
  have hf : M1 2 = M 2 := funext fun j => f2.2.2.1 2 j (by decide) (fun w hw hh => by
    have := List.all_eq_true.mp (show pm_s2.2.2.2.2.1.1.all (fun w => decide (¬ w.1 = 2)) = true by decide) w hw
    exact absurd hh.1 (of_decide_eq_true this))
  have hE := tx_EF f1
  have fx0 : kxf R M R1 M1 := ⟨fun c j hc hn => f2.2.2.1 c j hc (fun w hw hh => by
    have := List.all_eq_true.mp (show pm_s2.2.2.2.2.1.1.all (fun w => decide ((w.1 = 215 ∧ w.2.1 = 4 ∧ w.2.2 = 4) ∨ (w.1 = 217 ∧ w.2.1 = 3 ∧ w.2.2 = 3) ∨ w.1 = 218)) = true by decide) w hw
    have := of_decide_eq_true this
    obtain ⟨e1, e2, e3⟩ := hh
    unfold kxw at hn
    omega), fun c j hc => f2.2.2.2 c j hc (fun h => nomatch h)⟩
  have hok0 : ctk 0 0 (M1 218) (M1 219) := ⟨⟨⟨by decide, by decide⟩, by decide, by decide⟩, fun j g1 g2 => ((gm_tyr_s f1 (show gm_tyr p2_O 218 0 47 = some (0, 400) by decide +kernel)).2 j g1 (by omega)).2, fun j g1 g2 => ((gm_tyr_s f1 (show gm_tyr p2_O 219 0 399 = some (-2147483648, 2147483647) by decide +kernel)).2 j g1 (by omega)).1⟩
  have hok : ctl [] 0 0 (M1 218) (M1 219) := ⟨rfl, hok0, fun i v h => by simp at h⟩
  have hdl : cdl [] 0 (M1 218) (M1 219) := cdl_0
  show gm_Wp X LX d _ _ 72 4 (gm_ent 72 [gm_vr 215, gm_vi e0]) [] 245 K1 R1 M1 Q
  rw [← cm_id (M := M1), v0, v1]
  rw [← hf] at h1 hq0
  have hE2 := tx_E2 hE h0
  have hf2 : (gm_uM M1 216 2 e0) 2 = M1 2 := funext fun j => uM_ne (by omega)
  obtain ⟨gb1, gb2, -⟩ := tx_gb (f := M1 2) h0.1
  have hkb := tx_kc (f := M1 2) (e := e0) (b := tx_g (M1 2) e0 0) (fun h => tEb hE gb1 (by omega))
  generalize hD : M1 218 = D9 at *
  generalize hC : M1 219 = C9 at *
  refine gm_sz (gm_p_load (pc := 4) (i := .aload_n 0) (sr := 2) (j := 0) (by decide +kernel) rfl rfl rfl) ?_
  refine gm_sz (fw_gr (pc := 5) (ix := 14) (ci := 9) (j := 0) (r := 216) (by decide +kernel) (tE215c hE) (by decide +kernel) (by decide +kernel) (tEr hE).2.1) ?_
  refine gm_sz (gm_p_load (pc := 8) (i := .iload_n 1) (sr := 0) (j := 1) (by decide +kernel) rfl rfl rfl) ?_
  refine gm_c_virt (k := 216) (ci := 8) (mj := 75) (ix := 27) (pc := 9) (as := [gm_vi e0]) (st := []) (d' := d - 1) (bc' := 0) (bs' := 0) (by decide +kernel) (by decide +kernel) (by decide +kernel) (by decide +kernel) (tE216c hE).1 (tE216c hE).2 (by decide) (by decide +kernel) (show 1 = gm_na 75 by decide +kernel) (fw_c1 fw_si) (show 2 ≤ gm_ml 75 by decide +kernel) (Nat.le_of_ble_eq_true rfl) (by omega) (Nat.zero_le _) (Nat.zero_le _) ?_
  refine tx_c75 (by omega) hE h0 ?_
  show gm_Wp X LX d _ _ 72 12 (gm_ent 72 [gm_vr 215, gm_vi e0]) [] 245 K1 R1 (ct (gm_uM M1 216 2 e0) e0 (tx_g (M1 2) e0 0) (-1) 0 0 D9 C9) Q
  refine gm_sz (gm_p_load (pc := 12) (i := .aload_n 0) (sr := 2) (j := 0) (by decide +kernel) rfl rfl rfl) ?_
  refine gm_sz (fw_gr (pc := 13) (ix := 14) (ci := 9) (j := 0) (r := 216) (by decide +kernel) (tE215c hE2) (by decide +kernel) (by decide +kernel) (tEr hE2).2.1) ?_
  refine gm_sz (fw_gi (pc := 16) (ix := 31) (ci := 8) (j := 6) (x := tx_k (M1 2) e0 (tx_g (M1 2) e0 0)) (by decide +kernel) (tE216c hE2) (by decide +kernel) (by decide +kernel) (show tx_k ((gm_uM M1 216 2 e0) 2) e0 (tx_g (M1 2) e0 0) = tx_k (M1 2) e0 (tx_g (M1 2) e0 0) by rw [hf2])) ?_
  refine gm_sz (gm_p_const (pc := 19) (i := .sipush 256) (v := gm_vi 256) (by decide +kernel) (by decide +kernel)) ?_
  refine fw_ic (cc := .ne) (pc := 22) (off := 5) (by decide +kernel) (by decide) ⟨by omega, by omega⟩ ⟨by decide, by decide⟩ (fun j1 => ?_) (fun j1 => ?_)
  · have j1 : ¬ (tx_k (M1 2) e0 (tx_g (M1 2) e0 0)) = 256 := j1
    refine gm_sz (gm_p_const (pc := 27) (i := .iconst 0) (v := gm_vi 0) (by decide +kernel) (by decide +kernel)) ?_
    refine gm_sz (gm_p_stor (pc := 28) (i := .istore_n 2) (sr := 0) (j := 2) (by decide +kernel) rfl (show 3 ≤ _ from Nat.le_of_ble_eq_true rfl) rfl) ?_
    rw [g_w1 j1, ← hf2] at hq0
    rw [g_w1 j1, show s_law (M1 2) e0 = [] ++ s_txt (M1 2) e0 12 (tx_g (M1 2) e0 0) from tif_f j1, ← hf2] at h1
    have hb9 : 0 ≤ tx_g ((gm_uM M1 216 2 e0) 2) e0 0 ∧ tx_g ((gm_uM M1 216 2 e0) 2) e0 0 ≤ e0 := by rw [hf2]; exact ⟨by omega, gb2⟩
    rw [show tx_g (M1 2) e0 0 = tx_g ((gm_uM M1 216 2 e0) 2) e0 0 by rw [hf2]]
    exact kx_l72 (by omega) hE2 _ 12 0 _ 0 D9 C9 [] [] rfl (Int.le_refl _) hb9 hb9.1 rfl hok hdl (fun us2 D2 C2 b2 Lc2 kc kd g => h1 _ _ _ f2.2.1 (kxf_ct fx0) (ctw_ct kc kd) g rfl) (fun us2 lc2 D2 C2 b2 g => hq0 _ _ _ f2.2.1 (kxf_ct fx0) g)
  · have j1 : (tx_k (M1 2) e0 (tx_g (M1 2) e0 0)) = 256 := Classical.not_not.mp j1
    refine gm_sz (gm_p_const (pc := 25) (i := .iconst (-1)) (v := gm_vi (-1)) (by decide +kernel) (by decide +kernel)) ?_
    rw [g_w0 j1, show s_law (M1 2) e0 = [] from tif_t j1] at h1
    exact gm_r_int (pc := 26) (by decide +kernel) (Or.inl (by decide +kernel)) (h1 _ _ _ f2.2.1 (kxf_ct fx0) (ctw_ct hok hdl) rfl rfl)


end W2A
end
/-! 7a45.w3cl -/
section
/-! THE CLASS'S law(), whole, with its lines (laid by wip/core/w3.py). -/
section W3A
variable {X : Int → Int} {LX d bc bs : Nat} {K : gm_K} {R : gm_R} {M : gm_M} {Q : gm_Q} {N : Int → Int}
theorem cl_64 {x : Int} (hd : 1 ≤ d) (hE : E0 249 K R) (k6 : K 246 = (14, 0)) (k8 : K 248 = (6, 0)) (r8 : R 3 8 = 246) (r6 : R 246 0 = 248) (hx : M 248 3 = x) (hq : Q (.inl (some (gm_vi x))) 249 K R M) : gm_Wp X LX d bc bs 64 0 (gm_ent 64 [gm_vr 1]) [] 249 K R M Q := by
  have k1 := e0k hE (k := 1) (c := 0) (by decide +kernel)
  have k3 := e0k hE (k := 3) (c := 1) (by decide +kernel)
  have h6 : (1 ≤ 246 ∧ 246 ≤ 249) ∧ (K 246).1 = 10 + 4 := ⟨⟨by decide, by decide⟩, by rw [k6]⟩
  have h8 : (1 ≤ 248 ∧ 248 ≤ 249) ∧ (K 248).1 = 2 + 4 := ⟨⟨by decide, by decide⟩, by rw [k8]⟩
  refine gm_sz (gm_p_load (pc := 0) (i := .aload_n 0) (sr := 2) (j := 0) (by decide +kernel) rfl rfl rfl) ?_
  refine gm_sz (fw_gr (pc := 1) (ix := 23) (ci := 0) (j := 3) (r := 3) (by decide +kernel) k1 (by decide +kernel) (by decide +kernel) (e0r hE (k := 1) (j := 3) (r := 3) (by decide +kernel))) ?_
  refine gm_sz (fw_gr (pc := 4) (ix := 146) (ci := 1) (j := 8) (r := 246) (by decide +kernel) k3 (by decide +kernel) (by decide +kernel) r8) ?_
  refine gm_b_nnul (pc := 7) (off := 7) (k0 := 246) (by decide) (by decide +kernel) (by decide) (fun _ => ?_) (fun h => absurd h (by decide))
  refine gm_sz (gm_p_load (pc := 14) (i := .aload_n 0) (sr := 2) (j := 0) (by decide +kernel) rfl rfl rfl) ?_
  refine gm_sz (fw_gr (pc := 15) (ix := 23) (ci := 0) (j := 3) (r := 3) (by decide +kernel) k1 (by decide +kernel) (by decide +kernel) (e0r hE (k := 1) (j := 3) (r := 3) (by decide +kernel))) ?_
  refine gm_sz (fw_gr (pc := 18) (ix := 146) (ci := 1) (j := 8) (r := 246) (by decide +kernel) k3 (by decide +kernel) (by decide +kernel) r8) ?_
  refine gm_sz (fw_gr (pc := 21) (ix := 439) (ci := 10) (j := 0) (r := 248) (by decide +kernel) h6 (by decide +kernel) (by decide +kernel) r6) ?_
  refine gm_c_virt (k := 248) (ci := 2) (mj := 9) (ix := 277) (pc := 24) (as := []) (st := []) (d' := d - 1) (bc' := 0) (bs' := 0) (by decide +kernel) (by decide +kernel) (by decide +kernel) (by decide +kernel) h8.1 h8.2 (by decide) (by decide +kernel) (show 0 = gm_na 9 by decide +kernel) fw_c0 (show 1 ≤ gm_ml 9 by decide +kernel) (Nat.le_of_ble_eq_true rfl) (by omega) (Nat.zero_le _) (Nat.zero_le _) ?_
  refine rw_size h8 hx ?_
  exact gm_r_int (pc := 27) (by decide +kernel) (Or.inl (by decide +kernel)) hq
/-- where law() may write -/
noncomputable def lwr (c : Nat) (j : Int) : Prop := kxw c j ∨ c = 201 ∨ c = 202 ∨ c = 203 ∨ (c = 200 ∧ j = 6) ∨ (c = 42 ∧ j = 2) ∨ (c = 1 ∧ (j = 1 ∨ j = 2 ∨ j = 15))
/-- law() of the class -/
theorem cl_123 (hd : 26 ≤ d) (hbc : 4 ≤ bc) (hbs : 454 ≤ bs) (hF : gm_Fx p2_O 245 K R M) (hT : TQ N M) (hG : GI N) (h0 : 0 ≤ M 1 1 ∧ M 1 1 ≤ 400)
    (q0 : ∀ (K2 : gm_K) (R2 : gm_R) (M2 : gm_M), (∀ c, c ≤ 245 → K2 c = K c) → (∀ c j, c ≤ 245 → R2 c j = R c j) → (∀ (c : Nat) (j : Int), c ≤ 245 → ¬ kxw c j → ¬ (c = 1 ∧ (j = 1 ∨ j = 2)) → M2 c j = M c j) → ¬ (g_law (M 2) (M 1 1)).1 = true → M2 1 2 = (g_law (M 2) (M 1 1)).2 → M2 1 1 = 0 → Q (.inr 0) 245 K2 R2 M2)
    (hq : ∀ (us : Int) (K2 : gm_K) (R2 : gm_R) (M2 : gm_M), (g_law (M 2) (M 1 1)).1 = true → (∀ c, c ≤ 245 → K2 c = K c) → (∀ c j, c ≤ 245 → ¬ (c = 3 ∧ j = 8) → R2 c j = R c j) → (K2 246 = (14, 0) ∧ K2 247 = (0, us.toNat) ∧ K2 248 = (6, 0) ∧ K2 249 = (0, 48)) → (R2 3 8 = 246 ∧ R2 246 0 = 248 ∧ R2 246 1 = 247 ∧ R2 248 2 = 249) → (M2 248 0 = 12 ∧ M2 248 1 = 4 ∧ M2 248 3 = (g_law (M 2) (M 1 1)).2) → (0 ≤ us ∧ us ≤ 400) → ((s_law (M 2) (M 1 1)).length ≤ 12 → cdl (s_law (M 2) (M 1 1)) us (M2 249) (M2 247)) → TI N (hts (N 13)) (spd N) M2 → M2 200 6 = 1 → M2 42 2 = 0 → M2 1 15 = 0 → M2 1 2 = -1 → M2 1 1 = 0 → (∀ (c : Nat) (j : Int), c ≤ 245 → ¬ lwr c j → M2 c j = M c j) → Q (.inl (some (gm_vi (g_law (M 2) (M 1 1)).2))) 249 K2 R2 M2) : gm_Wp X LX d bc bs 123 0 (gm_ent 123 [gm_vr 1]) [] 245 K R M Q := by
  have hE : E0 245 K R := e0_x hF (Nat.le_refl _) (fun _ _ => rfl) (fun _ _ _ => rfl)
  obtain ⟨b0, b1, b2⟩ := g_law_b (f := M 2) h0.1
  have k1 := e0k hE (k := 1) (c := 0) (by decide +kernel)
  have k215 := e0k hE (k := 215) (c := 9) (by decide +kernel)
  refine gm_sz (gm_p_load (pc := 0) (i := .aload_n 0) (sr := 2) (j := 0) (by decide +kernel) rfl rfl rfl) ?_
  refine gm_sz (gm_p_load (pc := 1) (i := .aload_n 0) (sr := 2) (j := 0) (by decide +kernel) rfl rfl rfl) ?_
  refine gm_sz (fw_gr (pc := 2) (ix := 88) (ci := 0) (j := 13) (r := 215) (by decide +kernel) k1 (by decide +kernel) (by decide +kernel) (e0r hE (k := 1) (j := 13) (r := 215) (by decide +kernel))) ?_
  refine gm_sz (gm_p_load (pc := 5) (i := .aload_n 0) (sr := 2) (j := 0) (by decide +kernel) rfl rfl rfl) ?_
  refine gm_sz (fw_gi (pc := 6) (ix := 13) (ci := 0) (j := 1) (x := M 1 1) (by decide +kernel) k1 (by decide +kernel) (by decide +kernel) rfl) ?_
  refine gm_c_up (k := 215) (ci := 9) (mj := 72) (ix := 139) (pc := 9) (as := [gm_vi (M 1 1)]) (st := [gm_vr 1]) (d' := d - 1) (bc' := 0) (bs' := 0) (by decide +kernel) (by decide +kernel) (by decide +kernel) k215.1 k215.2 (show 1 = gm_na 72 by decide +kernel) (fw_c1 fw_si) (show 2 ≤ gm_ml 72 by decide +kernel) (Nat.le_of_ble_eq_true rfl) (by omega) (Nat.zero_le _) (Nat.zero_le _) ?_
  refine kx_c72f (by omega) hF h0 (fun K2 R2 M2 hk hx hw hg hl => ?_) (fun K2 R2 M2 hk hx hg => ?_)
  · show gm_Wp X LX d _ _ 123 12 (gm_ent 123 [gm_vr 1]) [gm_vi (-1), gm_vr 1] 245 K2 R2 M2 Q
    have hE2 : E0 245 K2 R2 := e0_x hF (Nat.le_refl _) hk hx.2
    have j1 := e0k hE2 (k := 1) (c := 0) (by decide +kernel)
    refine gm_sz (fw_pi (pc := 12) (ix := 17) (ci := 0) (j := 2) (M' := gm_uM M2 1 2 (-1)) (by decide +kernel) j1 (by decide +kernel) (by decide +kernel) (by decide +kernel) rfl) ?_
    refine gm_sz (gm_p_load (pc := 15) (i := .aload_n 0) (sr := 2) (j := 0) (by decide +kernel) rfl rfl rfl) ?_
    refine gm_sz (gm_p_const (pc := 16) (i := .iconst 0) (v := gm_vi 0) (by decide +kernel) (by decide +kernel)) ?_
    refine gm_sz (fw_pi (pc := 17) (ix := 13) (ci := 0) (j := 1) (M' := gm_uM (gm_uM M2 1 2 (-1)) 1 1 0) (by decide +kernel) j1 (by decide +kernel) (by decide +kernel) (by decide +kernel) rfl) ?_
    refine gm_sz (gm_p_load (pc := 20) (i := .aload_n 0) (sr := 2) (j := 0) (by decide +kernel) rfl rfl rfl) ?_
    refine gm_sz (fw_gi (pc := 21) (ix := 17) (ci := 0) (j := 2) (x := (-1)) (by decide +kernel) j1 (by decide +kernel) (by decide +kernel) ((uM_ne (by omega)).trans uM_at)) ?_
    refine gm_sz (gm_p_const (pc := 24) (i := .iconst (-1)) (v := gm_vi (-1)) (by decide +kernel) (by decide +kernel)) ?_
    refine fw_ictd (cc := .eq) (pc := 25) (off := 13) (by decide +kernel) (by decide) ⟨by decide, by decide⟩ ⟨by decide, by decide⟩ (by decide) ?_
    obtain ⟨Lc, ⟨hlc, hctk, -⟩, hcd⟩ := hw
    have hu0 := hctk.1.1
    have hu1 := hctk.1.2
    have j215 := e0k hE2 (k := 215) (c := 9) (by decide +kernel)
    refine gm_sz (gm_p_load (pc := 38) (i := .aload_n 0) (sr := 2) (j := 0) (by decide +kernel) rfl rfl rfl) ?_
    refine gm_sz (fw_gr (pc := 39) (ix := 23) (ci := 0) (j := 3) (r := 3) (by decide +kernel) j1 (by decide +kernel) (by decide +kernel) (e0r hE2 (k := 1) (j := 3) (r := 3) (by decide +kernel))) ?_
    refine gm_sz (gm_p_load (pc := 42) (i := .aload_n 0) (sr := 2) (j := 0) (by decide +kernel) rfl rfl rfl) ?_
    refine gm_sz (fw_gr (pc := 43) (ix := 88) (ci := 0) (j := 13) (r := 215) (by decide +kernel) j1 (by decide +kernel) (by decide +kernel) (e0r hE2 (k := 1) (j := 13) (r := 215) (by decide +kernel))) ?_
    refine gm_c_virt (k := 215) (ci := 9) (mj := 124) (ix := 142) (pc := 46) (as := []) (st := [gm_vr 3]) (d' := 3) (bc' := 4) (bs' := 454) (by decide +kernel) (by decide +kernel) (by decide +kernel) (by decide +kernel) j215.1 j215.2 (by decide) (by decide +kernel) (show 0 = gm_na 124 by decide +kernel) fw_c0 (show 1 ≤ gm_ml 124 by decide +kernel) (Nat.le_of_ble_eq_true rfl) (by omega) hbc hbs ?_
    refine mk_124 (N := (M2 215 4).toNat) (z := (g_law (M 2) (M 1 1)).2) hE2 (by omega) ((uM_ne (by omega)).trans ((uM_ne (by omega)).trans (Int.toNat_of_nonneg hu0.1).symm)) ((uM_ne (by omega)).trans ((uM_ne (by omega)).trans hl)) ⟨b0, b1 hg⟩ (fun K3 R3 M3 hm => ?_)
    show gm_Wp X LX d _ _ 123 49 (gm_ent 123 [gm_vr 1]) [gm_vr 246, gm_vr 3] 249 K3 R3 M3 Q
    obtain ⟨⟨hk3, hr3, hm3⟩, ⟨k6, k7, k8, k9⟩, ⟨r60, r61, r82⟩, ⟨m80, m81, m83⟩, hD3, hC3⟩ := hm
    have hE3 : E0 249 K3 R3 := e0_x hF (by decide) (fun c hc => (hk3 c hc).trans (hk c hc)) (fun c j hc => (hr3 c j hc).trans (hx.2 c j hc))
    have i3 := e0k hE3 (k := 3) (c := 1) (by decide +kernel)
    have i1 := e0k hE3 (k := 1) (c := 0) (by decide +kernel)
    refine gm_sz (gm_p_putr (pc := 49) (ix := 146) (ci := 1) (j := 8) (by decide +kernel) i3.1 i3.2 (by decide +kernel) (by decide +kernel) (by decide +kernel)) ?_
    have hE4 : E0 249 K3 (gm_uR R3 3 8 246) := e0h3 hE3
    have w3 : ∀ (c : Nat) (j : Int), c ≤ 245 → ¬ kxw c j → ¬ (c = 1 ∧ (j = 1 ∨ j = 2)) → M3 c j = M c j := fun c j hc h1 h2 => (hm3 c j hc).trans ((uM_ne (by omega)).trans ((uM_ne (by omega)).trans (hx.1 c j hc h1)))
    have t3 : TQ N M3 := by
      refine ⟨fun q hq => ?_, (cs_same fun c j c1 c2 => w3 c j (by omega) (by unfold kxw; omega) (by omega)).trans hT.2⟩
      have e := of_decide_eq_true (List.all_eq_true.mp (show cstL.all (fun q => decide (q.1 ≤ 245 ∧ ¬ (q.1 = 216 ∨ q.1 = 218 ∨ q.1 = 219 ∨ (q.1 = 215 ∧ q.2.1 = 4) ∨ (q.1 = 217 ∧ q.2.1 = 3)) ∧ ¬ (q.1 = 1 ∧ (q.2.1 = 1 ∨ q.2.1 = 2)))) = true by decide +kernel) q hq)
      exact (w3 q.1 q.2.1 e.1 e.2.1 e.2.2).trans (hT.1 q hq)
    refine gm_sz (gm_p_load (pc := 52) (i := .aload_n 0) (sr := 2) (j := 0) (by decide +kernel) rfl rfl rfl) ?_
    refine gm_c_virt (k := 1) (ci := 0) (mj := 61) (ix := 136) (pc := 53) (as := []) (st := []) (d' := d - 1) (bc' := 0) (bs' := 0) (by decide +kernel) (by decide +kernel) (by decide +kernel) (by decide +kernel) i1.1 i1.2 (by decide) (by decide +kernel) (show 0 = gm_na 61 by decide +kernel) fw_c0 (show 1 ≤ gm_ml 61 by decide +kernel) (Nat.le_of_ble_eq_true rfl) (by omega) (Nat.zero_le _) (Nat.zero_le _) ?_
    refine fw_c61 (by omega) hE4 t3 hG.1 hG.2.1 (fun M6 hf6 ht6 h6 h42 h15 => ?_)
    show gm_Wp X LX d _ _ 123 56 (gm_ent 123 [gm_vr 1]) [] 249 K3 (gm_uR R3 3 8 246) M6 Q
    have f6 : ∀ (c : Nat) (j : Int), ¬ (c = 201 ∨ c = 202 ∨ c = 203 ∨ (c = 200 ∧ j = 6) ∨ (c = 42 ∧ j = 2) ∨ (c = 1 ∧ j = 15)) → M6 c j = M3 c j := fun c j h => hf6 c j (by intro hm; simp at hm; omega) (by intro hm; simp at hm; omega)
    refine gm_sz (gm_p_load (pc := 56) (i := .aload_n 0) (sr := 2) (j := 0) (by decide +kernel) rfl rfl rfl) ?_
    refine gm_c_virt (k := 1) (ci := 0) (mj := 64) (ix := 150) (pc := 57) (as := []) (st := []) (d' := d - 1) (bc' := 0) (bs' := 0) (by decide +kernel) (by decide +kernel) (by decide +kernel) (by decide +kernel) i1.1 i1.2 (by decide) (by decide +kernel) (show 0 = gm_na 64 by decide +kernel) fw_c0 (show 1 ≤ gm_ml 64 by decide +kernel) (Nat.le_of_ble_eq_true rfl) (by omega) (Nat.zero_le _) (Nat.zero_le _) ?_
    refine cl_64 (x := (g_law (M 2) (M 1 1)).2) (by omega) hE4 k6 k8 uR_at ((uR_ne (by omega)).trans r60) ((f6 248 3 (by omega)).trans m83) ?_
    have e249 : ∀ j, 0 ≤ j → j < 48 → M6 249 j = M2 218 j := fun j j0 j1 => (f6 249 j (by omega)).trans ((hD3 j j0 j1).trans ((uM_ne (by omega)).trans (uM_ne (by omega))))
    have e247 : ∀ j, 0 ≤ j → j < M2 215 4 → M6 247 j = M2 219 j := fun j j0 j1 => (f6 247 j (by omega)).trans ((hC3 j j0 (by omega)).trans ((uM_ne (by omega)).trans (uM_ne (by omega))))
    exact gm_r_int (pc := 60) (by decide +kernel) (Or.inl (by decide +kernel)) (hq (M2 215 4) K3 _ M6 hg (fun c hc => (hk3 c hc).trans (hk c hc)) (fun c j hc hn => (uR_ne (by omega)).trans ((hr3 c j hc).trans (hx.2 c j hc))) ⟨k6, k7, k8, k9⟩ ⟨uR_at, (uR_ne (by omega)).trans r60, (uR_ne (by omega)).trans r61, (uR_ne (by omega)).trans r82⟩ ⟨(f6 248 0 (by omega)).trans m80, (f6 248 1 (by omega)).trans m81, (f6 248 3 (by omega)).trans m83⟩ hu0 (fun h12 => cdl_same hcd h12 e249 e247) ht6 h6 h42 h15 ((f6 1 2 (by omega)).trans ((hm3 1 2 (by decide)).trans ((uM_ne (by omega)).trans uM_at))) ((f6 1 1 (by omega)).trans ((hm3 1 1 (by decide)).trans uM_at)) (fun c j hc hn => by unfold lwr kxw at hn; exact (f6 c j (by omega)).trans (w3 c j hc (by unfold kxw; omega) (by omega))))
  · show gm_Wp X LX d _ _ 123 12 (gm_ent 123 [gm_vr 1]) [gm_vi (g_law (M 2) (M 1 1)).2, gm_vr 1] 245 K2 R2 M2 Q
    have hv9 := b2 hg
    have hE2 : E0 245 K2 R2 := e0_x hF (Nat.le_refl _) hk hx.2
    have j1 := e0k hE2 (k := 1) (c := 0) (by decide +kernel)
    refine gm_sz (fw_pi (pc := 12) (ix := 17) (ci := 0) (j := 2) (M' := gm_uM M2 1 2 (g_law (M 2) (M 1 1)).2) (by decide +kernel) j1 (by decide +kernel) (by decide +kernel) (by decide +kernel) rfl) ?_
    refine gm_sz (gm_p_load (pc := 15) (i := .aload_n 0) (sr := 2) (j := 0) (by decide +kernel) rfl rfl rfl) ?_
    refine gm_sz (gm_p_const (pc := 16) (i := .iconst 0) (v := gm_vi 0) (by decide +kernel) (by decide +kernel)) ?_
    refine gm_sz (fw_pi (pc := 17) (ix := 13) (ci := 0) (j := 1) (M' := gm_uM (gm_uM M2 1 2 (g_law (M 2) (M 1 1)).2) 1 1 0) (by decide +kernel) j1 (by decide +kernel) (by decide +kernel) (by decide +kernel) rfl) ?_
    refine gm_sz (gm_p_load (pc := 20) (i := .aload_n 0) (sr := 2) (j := 0) (by decide +kernel) rfl rfl rfl) ?_
    refine gm_sz (fw_gi (pc := 21) (ix := 17) (ci := 0) (j := 2) (x := (g_law (M 2) (M 1 1)).2) (by decide +kernel) j1 (by decide +kernel) (by decide +kernel) ((uM_ne (by omega)).trans uM_at)) ?_
    refine gm_sz (gm_p_const (pc := 24) (i := .iconst (-1)) (v := gm_vi (-1)) (by decide +kernel) (by decide +kernel)) ?_
    refine fw_ic (cc := .eq) (pc := 25) (off := 13) (by decide +kernel) (by decide) ⟨by omega, by omega⟩ ⟨by decide, by decide⟩ (fun hp => ?_) (fun hp => ?_)
    · have hp : (g_law (M 2) (M 1 1)).2 = -1 := hp
      exact absurd hp (by omega)
    · exact gm_throw (ik := 121) (is := 140) (ic := 125) (x := 0) (id := 31) (lw := false) (by decide +kernel) (by decide +kernel) (by decide +kernel) (by decide +kernel) (by decide +kernel) (by decide +kernel) (by decide +kernel) (by decide +kernel) (Nat.le_of_ble_eq_true rfl) (by omega) (by omega) (by omega) (q0 _ _ _ hk hx.2 (fun c j hc h1 h2 => (uM_ne (by omega)).trans ((uM_ne (by omega)).trans (hx.1 c j hc h1))) hg ((uM_ne (by omega)).trans uM_at) uM_at)
end W3A
end
/-! 7a46.w4rl -/
section
/-! THE REFERENCE'S law(), whole, with its lines (laid by wip/core/w4.py). -/
section W4A
variable {X : Int → Int} {LX d bc bs n : Nat} {K : gm_K} {R : gm_R} {M : gm_M} {Q : gm_Q} {f : Int → Int} {e y : Int} {N h : Int → Int}
theorem rm_fr {pt bg dp st : Int} {W : Int → Int} : fr [(226, some 9), (226, some 11), (226, some 12), (226, some 15), (227, none)] M (rm M pt bg dp st W) := by
  intro c j h1 h2
  unfold rm
  by_cases hc : c = 226
  · subst hc
    simp at h2
    rw [if_pos rfl, if_neg (by omega), if_neg (by omega), if_neg (by omega), if_neg (by omega)]
  · rw [if_neg hc, if_neg (fun hh => by subst hh; simp at h1)]
theorem rdl_LR2a {ls : List lln} {L : List (Int × Int)} {W0 W H : Int → Int} {st : Int} (h : rdl ls L W0 st W) (hs : st ≤ 400) (hl : ls.length ≤ 12) (hG : ∀ j, 396 ≤ j → j < 1244 → H j = W (j + 849)) : LR ls H := by
  intro k x hx
  have hk : k < ls.length := (List.getElem?_eq_some_iff.mp hx).1
  obtain ⟨a0, a1, a2, a3⟩ := rdl_LR h k x hx
  obtain ⟨-, -, b2, -, b4⟩ := h.2.2 k x hx
  have hst : st = (L.length : Int) := h.2.1.1
  rw [hG (396 + 4 * (k : Int)) (by omega) (by omega), hG (396 + 4 * (k : Int) + 1) (by omega) (by omega), hG (396 + 4 * (k : Int) + 2) (by omega) (by omega), hG (396 + 4 * (k : Int) + 3) (by omega) (by omega)]
  refine ⟨a0, a1, a2, fun t ht => ?_⟩
  obtain ⟨c1, c2⟩ := a3 t ht
  refine ⟨c1, fun j v hv => ?_⟩
  have hj := (List.getElem?_eq_some_iff.mp ((b4 t ht).2 j v hv)).1
  have e9 : (396 + 4 * (k : Int) + 2 + 849) = 1245 + 4 * (k : Int) + 2 := by omega
  have c3 := c2 j v hv
  have c3 : W (444 + 2 * (W (396 + 4 * (k : Int) + 2 + 849) + (j : Int)) + 849) = v.1 ∧ W (444 + 2 * (W (396 + 4 * (k : Int) + 2 + 849) + (j : Int)) + 1 + 849) = v.2 := c3
  rw [e9] at c3 ⊢
  generalize W (1245 + 4 * (k : Int) + 2) = z at b2 hj c3 ⊢
  rw [hG (444 + 2 * (z + (j : Int))) (by omega) (by omega), hG (444 + 2 * (z + (j : Int)) + 1) (by omega) (by omega)]
  exact c3
/-- where its steps lie -/
noncomputable def LRb (ls : List lln) (G : Int → Int) : Prop := ∀ (k : Nat) (x : lln), ls[k]? = some x → 0 ≤ G (396 + 4 * (k : Int) + 2) ∧ ∀ t, x.2.2 = some t → ∀ (j : Nat) (v : Int × Int), (srds t)[j]? = some v → G (396 + 4 * (k : Int) + 2) + (j : Int) < 400
theorem rdl_LR2 {ls : List lln} {L : List (Int × Int)} {W0 W H : Int → Int} {st : Int} (h : rdl ls L W0 st W) (hs : st ≤ 400) (hl : ls.length ≤ 12) (hG : ∀ j, 396 ≤ j → j < 1244 → H j = W (j + 849)) : LR ls H ∧ LRb ls H := by
  refine ⟨rdl_LR2a h hs hl hG, fun k x hx => ?_⟩
  have hk : k < ls.length := (List.getElem?_eq_some_iff.mp hx).1
  obtain ⟨-, -, b2, -, b4⟩ := h.2.2 k x hx
  have hst : st = (L.length : Int) := h.2.1.1
  have e9 : (396 + 4 * (k : Int) + 2 + 849) = 1245 + 4 * (k : Int) + 2 := by omega
  rw [hG (396 + 4 * (k : Int) + 2) (by omega) (by omega), e9]
  refine ⟨b2, fun t ht j v hv => ?_⟩
  have hj := (List.getElem?_eq_some_iff.mp ((b4 t ht).2 j v hv)).1
  omega
theorem rl_243 (hd : 34 ≤ d) (hE : E0 n K R) (hF : VF f e) (hf : M 231 = f) (he : M 226 8 = e) (q1 : ∀ (W2 : Int → Int) (L2 : List (Int × Int)) (st2 : Int) M2, rdl (s_law f e) L2 (M 227) st2 W2 → 0 ≤ st2 ∧ st2 ≤ e → (g_law f e).1 = true → M2 227 = W2 → fr [(226, some 0), (226, some 10), (226, some 8), (226, some 15), (226, some 9), (226, some 11), (226, some 12), (227, none)] M M2 → M2 226 8 = 0 → M2 226 0 = 0 → Q (.inl (some (gm_vi (g_law f e).2))) n K R M2) (q0 : ∀ M2, (∀ j, j < 1245 → M2 227 j = M 227 j) → M2 226 11 = (g_law f e).2 → ¬ (g_law f e).1 = true → fr [(226, some 0), (226, some 10), (226, some 8), (226, some 15), (226, some 9), (226, some 11), (226, some 12), (227, none)] M M2 → M2 226 8 = 0 → M2 226 0 = 0 → Q (.inl (some (gm_vi (-1)))) n K R M2) : gm_Wp X LX d bc bs 243 0 (gm_ent 243 [gm_vr 226, gm_vi 0]) [] n K R M Q := by
  refine gm_sz (gm_p_load (pc := 0) (i := .aload_n 0) (sr := 2) (j := 0) (by decide +kernel) rfl rfl rfl) ?_
  refine gm_c_virt (k := 226) (ci := 11) (mj := 244) (ix := 289) (pc := 1) (as := []) (st := []) (d' := d - 1) (bc' := 0) (bs' := 0) (by decide +kernel) (by decide +kernel) (by decide +kernel) (by decide +kernel) (e0k hE (k := 226) (c := 11) (by decide +kernel)).1 (e0k hE (k := 226) (c := 11) (by decide +kernel)).2 (by decide) (by decide +kernel) (show 0 = gm_na 244 by decide +kernel) fw_c0 (show 1 ≤ gm_ml 244 by decide +kernel) (Nat.le_of_ble_eq_true rfl) (by omega) (Nat.zero_le _) (Nat.zero_le _) ?_
  refine rv_244 hE he ?_
  show gm_Wp X LX d _ _ 243 4 _ [] n K _ _ Q
  refine gm_sz (gm_p_load (pc := 4) (i := .aload_n 0) (sr := 2) (j := 0) (by decide +kernel) rfl rfl rfl) ?_
  refine gm_sz (gm_p_const (pc := 5) (i := .iconst 0) (v := gm_vi 0) (by decide +kernel) (by decide +kernel)) ?_
  refine gm_sz (fw_pi (pc := 6) (ix := 224) (ci := 11) (j := 15) (M' := gm_uM (gm_uM (gm_uM (gm_uM (gm_uM M 226 0 0) 226 10 e) 226 8 0) 226 9 0) 226 15 0) (by decide +kernel) (e0k hE (k := 226) (c := 11) (by decide +kernel)) (by decide +kernel) (by decide +kernel) (by decide +kernel) rfl) ?_
  have z9 : (gm_uM (gm_uM (gm_uM (gm_uM (gm_uM M 226 0 0) 226 10 e) 226 8 0) 226 9 0) 226 15 0) 226 9 = 0 := ((uM_ne (by omega)).trans uM_at)
  have z15 : (gm_uM (gm_uM (gm_uM (gm_uM (gm_uM M 226 0 0) 226 10 e) 226 8 0) 226 9 0) 226 15 0) 226 15 = 0 := uM_at
  have z10 : (gm_uM (gm_uM (gm_uM (gm_uM (gm_uM M 226 0 0) 226 10 e) 226 8 0) 226 9 0) 226 15 0) 226 10 = e := ((uM_ne (by omega)).trans ((uM_ne (by omega)).trans ((uM_ne (by omega)).trans uM_at)))
  have z8 : (gm_uM (gm_uM (gm_uM (gm_uM (gm_uM M 226 0 0) 226 10 e) 226 8 0) 226 9 0) 226 15 0) 226 8 = 0 := ((uM_ne (by omega)).trans ((uM_ne (by omega)).trans uM_at))
  have z0 : (gm_uM (gm_uM (gm_uM (gm_uM (gm_uM M 226 0 0) 226 10 e) 226 8 0) 226 9 0) 226 15 0) 226 0 = 0 := ((uM_ne (by omega)).trans ((uM_ne (by omega)).trans ((uM_ne (by omega)).trans ((uM_ne (by omega)).trans uM_at))))
  have z231 : (gm_uM (gm_uM (gm_uM (gm_uM (gm_uM M 226 0 0) 226 10 e) 226 8 0) 226 9 0) 226 15 0) 231 = f := (funext fun j => (uM_ne (by omega)).trans ((uM_ne (by omega)).trans ((uM_ne (by omega)).trans ((uM_ne (by omega)).trans (uM_ne (by omega)))))).trans hf
  have z227 : (gm_uM (gm_uM (gm_uM (gm_uM (gm_uM M 226 0 0) 226 10 e) 226 8 0) 226 9 0) 226 15 0) 227 = M 227 := (funext fun j => (uM_ne (by omega)).trans ((uM_ne (by omega)).trans ((uM_ne (by omega)).trans ((uM_ne (by omega)).trans (uM_ne (by omega))))))
  have zf : fr [(226, some 0), (226, some 10), (226, some 8), (226, some 15), (226, some 9), (226, some 11), (226, some 12), (227, none)] M (gm_uM (gm_uM (gm_uM (gm_uM (gm_uM M 226 0 0) 226 10 e) 226 8 0) 226 9 0) 226 15 0) := (fr_p (fr_p (fr_p (fr_p (fr_p fr_0 (Or.inr (by decide))) (Or.inr (by decide))) (Or.inr (by decide))) (Or.inr (by decide))) (Or.inr (by decide)))
  generalize (gm_uM (gm_uM (gm_uM (gm_uM (gm_uM M 226 0 0) 226 10 e) 226 8 0) 226 9 0) 226 15 0) = m5 at z9 z15 z10 z8 z0 z231 z227 zf ⊢
  have hT5 := rv_E hE hF (⟨z231, z10, z9⟩ : RW f e 0 m5)
  have ei : rm m5 0 (m5 226 11) (m5 226 12) 0 (m5 227) = m5 := by
    have a := rm_id (M := m5)
    rw [z9, z15] at a
    exact a
  rw [← ei]
  refine sr_a243 (by omega) hT5 none (fun p2 bg2 dp2 st2 W2 L2 a1 a2 a3 => ?_) (fun p2 dp2 st2 W2 a1 a2 => ?_)
  · rw [z231] at a1 a3 ⊢
    rw [z227] at a1
    exact q1 W2 L2 st2 _ a1 a2 a3 rfl (fr_t zf rm_fr (by decide)) z8 z0
  · rw [z231] at a2 ⊢
    rw [z227] at a1
    exact q0 _ a1 rfl a2 (fr_t zf rm_fr (by decide)) z8 z0
theorem cp_283 (hE : E0 n K R) (hq : gm_Wp X LX d bc bs 283 85 [some (gm_vr 226), some (gm_vi y), some (gm_vi 849)] [] n K R (cpk M 227 227 1244 395 849) Q) : ∀ (u : Nat) (k : Int), k + (u : Int) = 849 → 0 ≤ k → gm_Wp X LX d bc bs 283 52 [some (gm_vr 226), some (gm_vi y), some (gm_vi k)] [] n K R (cpk M 227 227 1244 395 k) Q := by
  intro u
  induction u with
  | zero =>
    intro k hk k0
    have ek : k = 849 := by omega
    subst ek
    refine gm_sz (gm_p_load (pc := 52) (i := .iload_n 2) (sr := 0) (j := 2) (by decide +kernel) rfl rfl rfl) ?_
    refine gm_sz (gm_p_const (pc := 53) (i := .sipush 849) (v := gm_vi 849) (by decide +kernel) (by decide +kernel)) ?_
    refine fw_ictd (cc := .ge) (pc := 56) (off := 29) (by decide +kernel) (by decide) ⟨by decide, by decide⟩ ⟨by decide, by decide⟩ (by decide) ?_
    exact hq
  | succ u ih =>
    intro k hk k0
    refine gm_sz (gm_p_load (pc := 52) (i := .iload_n 2) (sr := 0) (j := 2) (by decide +kernel) rfl rfl rfl) ?_
    refine gm_sz (gm_p_const (pc := 53) (i := .sipush 849) (v := gm_vi 849) (by decide +kernel) (by decide +kernel)) ?_
    refine fw_icf (cc := .ge) (pc := 56) (off := 29) (by decide +kernel) (by decide) ⟨by omega, by omega⟩ ⟨by decide, by decide⟩ (show ¬ 849 ≤ k by omega) ?_
    refine gm_sz (gm_p_load (pc := 59) (i := .aload_n 0) (sr := 2) (j := 0) (by decide +kernel) rfl rfl rfl) ?_
    refine gm_sz (fw_gr (pc := 60) (ix := 13) (ci := 11) (j := 1) (r := 227) (by decide +kernel) (e0k hE (k := 226) (c := 11) (by decide +kernel)) (by decide +kernel) (by decide +kernel) (e0r hE (k := 226) (j := 1) (r := 227) (by decide +kernel))) ?_
    refine gm_sz (gm_p_const (pc := 63) (i := .sipush 395) (v := gm_vi 395) (by decide +kernel) (by decide +kernel)) ?_
    refine gm_sz (gm_p_load (pc := 66) (i := .iload_n 2) (sr := 0) (j := 2) (by decide +kernel) rfl rfl rfl) ?_
    refine gm_sz (gm_p_bin (pc := 67) (i := .iadd) (f := fun x y => x + y) (by decide +kernel) rfl) ?_
    refine gm_sz (gm_p_load (pc := 68) (i := .aload_n 0) (sr := 2) (j := 0) (by decide +kernel) rfl rfl rfl) ?_
    refine gm_sz (fw_gr (pc := 69) (ix := 13) (ci := 11) (j := 1) (r := 227) (by decide +kernel) (e0k hE (k := 226) (c := 11) (by decide +kernel)) (by decide +kernel) (by decide +kernel) (e0r hE (k := 226) (j := 1) (r := 227) (by decide +kernel))) ?_
    refine gm_sz (gm_p_const (pc := 72) (i := .sipush 1244) (v := gm_vi 1244) (by decide +kernel) (by decide +kernel)) ?_
    refine gm_sz (gm_p_load (pc := 75) (i := .iload_n 2) (sr := 0) (j := 2) (by decide +kernel) rfl rfl rfl) ?_
    refine gm_sz (gm_p_bin (pc := 76) (i := .iadd) (f := fun x y => x + y) (by decide +kernel) rfl) ?_
    refine gm_sz (fw_ia (pc := 77) (k := 227) (len := 2093) (e0 := 1244 + k) (x := M 227 (1244 + k)) (by decide +kernel) (e0a hE (k := 227) (q := (0, 2093)) (by decide +kernel)).1 (e0a hE (k := 227) (q := (0, 2093)) (by decide +kernel)).2 (by decide) ⟨by omega, by omega⟩ (cpk_o (by omega))) ?_
    refine gm_sz (fw_is (pc := 78) (k := 227) (len := 2093) (e0 := 395 + k) (x := M 227 (1244 + k)) (M' := cpk M 227 227 1244 395 (k + 1)) (by decide +kernel) (e0a hE (k := 227) (q := (0, 2093)) (by decide +kernel)).1 (e0a hE (k := 227) (q := (0, 2093)) (by decide +kernel)).2 (by decide) ⟨by omega, by omega⟩ (cpk_s k0 (by omega) (congrArg (M 227) (by omega)))) ?_
    refine gm_sz (gm_p_iinc (pc := 79) (j := 2) (z := 1) (by decide +kernel) rfl) ?_
    refine gm_sz (gm_p_goto (pc := 82) (off := (-30)) (by decide +kernel) (by decide)) ?_
    exact ih (k + 1) (by omega) (by omega)
theorem cp_283z (hE : E0 n K R) (hq : gm_Wp X LX d bc bs 283 85 [some (gm_vr 226), some (gm_vi y), some (gm_vi 849)] [] n K R (cpk M 227 227 1244 395 849) Q) : gm_Wp X LX d bc bs 283 52 [some (gm_vr 226), some (gm_vi y), some (gm_vi 0)] [] n K R M Q := by
  have h9 := cp_283 hE  hq 849 0 (by omega) (Int.le_refl _)
  rw [cpk_0] at h9
  exact h9
theorem rl_283 (hd : 36 ≤ d) (hE : E0 n K R) (hF : VF f e) (hf : M 231 = f) (he : M 226 8 = e) (hT : TR N h M) (q0 : ∀ M2, fr [(226, some 13), (226, some 0), (226, some 10), (226, some 8), (226, some 15), (226, some 9), (226, some 11), (226, some 12), (227, none)] M M2 → (∀ j, j < 1244 → M2 227 j = M 227 j) → ¬ (g_law f e).1 = true → M2 226 13 = (g_law f e).2 → M2 226 8 = 0 → M2 226 0 = 1 → Q (.inl (some (gm_vi 0))) n K R M2) (hq : ∀ M2, fr [(234, none), (226, some 26), (226, some 6), (226, some 13), (226, some 0), (226, some 10), (226, some 8), (226, some 15), (226, some 9), (226, some 11), (226, some 12), (227, none)] M M2 → (g_law f e).1 = true → ((s_law f e).length ≤ 12 → LR (s_law f e) (M2 227) ∧ LRb (s_law f e) (M2 227)) → M2 227 395 = (g_law f e).2 → M2 227 8 = 1 → TR N (hts (N 13)) M2 → M2 226 13 = -1 → M2 226 8 = 0 → M2 226 0 = 0 → M2 226 6 = 0 → M2 226 26 = -1 → Q (.inl (some (gm_vi (g_law f e).2))) n K R M2) : gm_Wp X LX d bc bs 283 0 (gm_ent 283 [gm_vr 226]) [] n K R M Q := by
  have he9 := hF.1
  obtain ⟨b0, b1, b2⟩ := g_law_b (f := f) hF.1.1
  refine gm_sz (gm_p_load (pc := 0) (i := .aload_n 0) (sr := 2) (j := 0) (by decide +kernel) rfl rfl rfl) ?_
  refine gm_sz (gm_p_const (pc := 1) (i := .iconst 0) (v := gm_vi 0) (by decide +kernel) (by decide +kernel)) ?_
  refine gm_c_virt (k := 226) (ci := 11) (mj := 243) (ix := 296) (pc := 2) (as := [gm_vi 0]) (st := []) (d' := d - 1) (bc' := 0) (bs' := 0) (by decide +kernel) (by decide +kernel) (by decide +kernel) (by decide +kernel) (e0k hE (k := 226) (c := 11) (by decide +kernel)).1 (e0k hE (k := 226) (c := 11) (by decide +kernel)).2 (by decide) (by decide +kernel) (show 1 = gm_na 243 by decide +kernel) (fw_c1 fw_si) (show 2 ≤ gm_ml 243 by decide +kernel) (Nat.le_of_ble_eq_true rfl) (by omega) (Nat.zero_le _) (Nat.zero_le _) ?_
  refine rl_243 (by omega) hE hF hf he (fun W2 L2 st2 M5 hrd hst2 hg hw5 hf5 z8 z0 => ?_) (fun M5 hw5 z11 hg hf5 z8 z0 => ?_)
  · show gm_Wp X LX d _ _ 283 5 _ [gm_vi ((g_law f e).2)] n K _ _ Q
    have hg12 := b1 hg
    refine gm_sz (gm_p_stor (pc := 5) (i := .istore_n 1) (sr := 0) (j := 1) (by decide +kernel) rfl (show 2 ≤ _ from Nat.le_of_ble_eq_true rfl) rfl) ?_
    refine gm_sz (gm_p_load (pc := 6) (i := .aload_n 0) (sr := 2) (j := 0) (by decide +kernel) rfl rfl rfl) ?_
    refine gm_sz (gm_p_load (pc := 7) (i := .iload_n 1) (sr := 0) (j := 1) (by decide +kernel) rfl rfl rfl) ?_
    refine fw_if (cc := .ge) (pc := 8) (off := 10) (by decide +kernel) (by decide) ⟨by omega, by omega⟩ (fun h8 => ?_) (fun h8 => ?_)
    · have h8 : 0 ≤ ((g_law f e).2) := h8
      refine gm_sz (gm_p_const (pc := 18) (i := .iconst (-1)) (v := gm_vi (-1)) (by decide +kernel) (by decide +kernel)) ?_
      refine gm_sz (fw_pi (pc := 19) (ix := 30) (ci := 11) (j := 13) (M' := gm_uM M5 226 13 (-1)) (by decide +kernel) (e0k hE (k := 226) (c := 11) (by decide +kernel)) (by decide +kernel) (by decide +kernel) (by decide +kernel) rfl) ?_
      refine gm_sz (gm_p_load (pc := 22) (i := .aload_n 0) (sr := 2) (j := 0) (by decide +kernel) rfl rfl rfl) ?_
      refine gm_sz (gm_p_load (pc := 23) (i := .iload_n 1) (sr := 0) (j := 1) (by decide +kernel) rfl rfl rfl) ?_
      refine fw_if (cc := .ge) (pc := 24) (off := 7) (by decide +kernel) (by decide) ⟨by omega, by omega⟩ (fun h24 => ?_) (fun h24 => ?_)
      · have h24 : 0 ≤ ((g_law f e).2) := h24
        refine gm_sz (gm_p_const (pc := 31) (i := .iconst 0) (v := gm_vi 0) (by decide +kernel) (by decide +kernel)) ?_
        refine gm_sz (gm_p_const (pc := 32) (i := .iconst 1) (v := gm_vi 1) (by decide +kernel) (by decide +kernel)) ?_
        refine gm_c_virt (k := 226) (ci := 11) (mj := 282) (ix := 300) (pc := 33) (as := [gm_vi 0, gm_vi 1]) (st := []) (d' := d - 1) (bc' := 0) (bs' := 0) (by decide +kernel) (by decide +kernel) (by decide +kernel) (by decide +kernel) (e0k hE (k := 226) (c := 11) (by decide +kernel)).1 (e0k hE (k := 226) (c := 11) (by decide +kernel)).2 (by decide) (by decide +kernel) (show 2 = gm_na 282 by decide +kernel) (fw_c2 fw_si fw_si) (show 3 ≤ gm_ml 282 by decide +kernel) (Nat.le_of_ble_eq_true rfl) (by omega) (Nat.zero_le _) (Nat.zero_le _) ?_
        refine tf_0 hE ?_
        show gm_Wp X LX d _ _ 283 36 _ [gm_vi 0] n K _ _ Q
        refine fw_iftd (cc := .eq) (pc := 36) (off := 5) (by decide +kernel) (by decide) ⟨by decide, by decide⟩ (by decide) ?_
        refine gm_sz (gm_p_load (pc := 41) (i := .aload_n 0) (sr := 2) (j := 0) (by decide +kernel) rfl rfl rfl) ?_
        refine gm_sz (fw_gr (pc := 42) (ix := 13) (ci := 11) (j := 1) (r := 227) (by decide +kernel) (e0k hE (k := 226) (c := 11) (by decide +kernel)) (by decide +kernel) (by decide +kernel) (e0r hE (k := 226) (j := 1) (r := 227) (by decide +kernel))) ?_
        refine gm_sz (gm_p_const (pc := 45) (i := .sipush 1244) (v := gm_vi 1244) (by decide +kernel) (by decide +kernel)) ?_
        refine gm_sz (gm_p_load (pc := 48) (i := .iload_n 1) (sr := 0) (j := 1) (by decide +kernel) rfl rfl rfl) ?_
        refine gm_sz (fw_is (pc := 49) (k := 227) (len := 2093) (e0 := 1244) (x := (g_law f e).2) (M' := gm_uM (gm_uM M5 226 13 (-1)) 227 1244 ((g_law f e).2)) (by decide +kernel) (e0a hE (k := 227) (q := (0, 2093)) (by decide +kernel)).1 (e0a hE (k := 227) (q := (0, 2093)) (by decide +kernel)).2 (by decide) ⟨by omega, by omega⟩ rfl) ?_
        refine gm_sz (gm_p_const (pc := 50) (i := .iconst 0) (v := gm_vi 0) (by decide +kernel) (by decide +kernel)) ?_
        refine gm_sz (gm_p_stor (pc := 51) (i := .istore_n 2) (sr := 0) (j := 2) (by decide +kernel) rfl (show 3 ≤ _ from Nat.le_of_ble_eq_true rfl) rfl) ?_
        have y13 : (gm_uM (gm_uM M5 226 13 (-1)) 227 1244 ((g_law f e).2)) 226 13 = -1 := ((uM_ne (by omega)).trans uM_at)
        have y8 : (gm_uM (gm_uM M5 226 13 (-1)) 227 1244 ((g_law f e).2)) 226 8 = 0 := ((uM_ne (by omega)).trans ((uM_ne (by omega)).trans z8))
        have y0 : (gm_uM (gm_uM M5 226 13 (-1)) 227 1244 ((g_law f e).2)) 226 0 = 0 := ((uM_ne (by omega)).trans ((uM_ne (by omega)).trans z0))
        have yf : fr [(226, some 13), (226, some 0), (226, some 10), (226, some 8), (226, some 15), (226, some 9), (226, some 11), (226, some 12), (227, none)] M (gm_uM (gm_uM M5 226 13 (-1)) 227 1244 ((g_law f e).2)) := (fr_p (fr_p (fr_t fr_0 hf5 (by decide)) (Or.inr (by decide))) (Or.inl (by decide)))
        have yw : (gm_uM (gm_uM M5 226 13 (-1)) 227 1244 ((g_law f e).2)) 227 1244 = (g_law f e).2 := uM_at
        have yo : ∀ j, ¬ j = 1244 → (gm_uM (gm_uM M5 226 13 (-1)) 227 1244 ((g_law f e).2)) 227 j = W2 j := fun j hj => (uM_ne (by omega)).trans ((uM_ne (by omega)).trans (congrFun hw5 j))
        generalize (gm_uM (gm_uM M5 226 13 (-1)) 227 1244 ((g_law f e).2)) = m6 at y13 y8 y0 yf yw yo ⊢
        refine cp_283z (M := m6) (Q := Q) hE ?_
        refine gm_sz (gm_p_load (pc := 85) (i := .aload_n 0) (sr := 2) (j := 0) (by decide +kernel) rfl rfl rfl) ?_
        refine gm_sz (fw_gr (pc := 86) (ix := 13) (ci := 11) (j := 1) (r := 227) (by decide +kernel) (e0k hE (k := 226) (c := 11) (by decide +kernel)) (by decide +kernel) (by decide +kernel) (e0r hE (k := 226) (j := 1) (r := 227) (by decide +kernel))) ?_
        refine gm_sz (gm_p_const (pc := 89) (i := .bipush 8) (v := gm_vi 8) (by decide +kernel) (by decide +kernel)) ?_
        refine gm_sz (gm_p_const (pc := 91) (i := .iconst 1) (v := gm_vi 1) (by decide +kernel) (by decide +kernel)) ?_
        refine gm_sz (fw_is (pc := 92) (k := 227) (len := 2093) (e0 := 8) (x := 1) (M' := gm_uM (cpk m6 227 227 1244 395 849) 227 8 1) (by decide +kernel) (e0a hE (k := 227) (q := (0, 2093)) (by decide +kernel)).1 (e0a hE (k := 227) (q := (0, 2093)) (by decide +kernel)).2 (by decide) ⟨by omega, by omega⟩ rfl) ?_
        refine gm_sz (gm_p_load (pc := 93) (i := .aload_n 0) (sr := 2) (j := 0) (by decide +kernel) rfl rfl rfl) ?_
        refine gm_sz (gm_p_const (pc := 94) (i := .iconst 0) (v := gm_vi 0) (by decide +kernel) (by decide +kernel)) ?_
        refine gm_sz (fw_pi (pc := 95) (ix := 79) (ci := 11) (j := 6) (M' := gm_uM (gm_uM (cpk m6 227 227 1244 395 849) 227 8 1) 226 6 0) (by decide +kernel) (e0k hE (k := 226) (c := 11) (by decide +kernel)) (by decide +kernel) (by decide +kernel) (by decide +kernel) rfl) ?_
        have h98 : ws ((gm_uM (gm_uM (cpk m6 227 227 1244 395 849) 227 8 1) 226 6 0) 227) = N := by
          rw [← hT.1]
          funext i
          unfold ws
          by_cases hi : 0 ≤ i ∧ i < 395 ∧ ¬ i = 8
          · rw [if_pos hi, if_pos hi]
            exact (uM_ne (by omega)).trans ((uM_ne (by omega)).trans ((cpk_o (by omega)).trans ((yo i (by omega)).trans (hrd.1 i (by omega)))))
          · rw [if_neg hi, if_neg hi]
        refine gm_sz (gm_p_load (pc := 98) (i := .aload_n 0) (sr := 2) (j := 0) (by decide +kernel) rfl rfl rfl) ?_
        refine gm_c_virt (k := 226) (ci := 11) (mj := 235) (ix := 72) (pc := 99) (as := []) (st := []) (d' := d - 1) (bc' := 0) (bs' := 0) (by decide +kernel) (by decide +kernel) (by decide +kernel) (by decide +kernel) (e0k hE (k := 226) (c := 11) (by decide +kernel)).1 (e0k hE (k := 226) (c := 11) (by decide +kernel)).2 (by decide) (by decide +kernel) (show 0 = gm_na 235 by decide +kernel) fw_c0 (show 1 ≤ gm_ml 235 by decide +kernel) (Nat.le_of_ble_eq_true rfl) (by omega) (Nat.zero_le _) (Nat.zero_le _) ?_
        refine wa_c235 hE h98 (fun M99 hf99 hh99 h26 => ?_)
        show gm_Wp X LX d _ _ 283 102 _ [] n K _ _ Q
        refine gm_sz (gm_p_load (pc := 102) (i := .iload_n 1) (sr := 0) (j := 1) (by decide +kernel) rfl rfl rfl) ?_
        have f9 : fr [(234, none), (226, some 26), (226, some 6), (226, some 13), (226, some 0), (226, some 10), (226, some 8), (226, some 15), (226, some 9), (226, some 11), (226, some 12), (227, none)] (cpk m6 227 227 1244 395 849) M99 := (fr_t (fr_p (fr_p fr_0 (Or.inl (by decide))) (Or.inr (by decide))) hf99 (by decide))
        refine gm_r_int (pc := 103) (by decide +kernel) (Or.inl (by decide +kernel)) (hq _ (fr_t (fr_t (fr_t fr_0 yf (by decide)) cpk_fr (by decide)) f9 (by decide)) hg (fun h12 => rdl_LR2 hrd (by omega) h12 (fun j j0 j1 => ?_)) ?_ ((fr_c hf99 (by decide)).trans ((uM_ne (by omega)).trans uM_at)) ⟨(congrArg ws (funext fun j => fr_c hf99 (by decide))).trans h98, fun y9 y0 y1 => ⟨hh99 y9 y0 y1, hts_b⟩⟩ ((fr_j hf99 (by decide)).trans ((uM_ne (by omega)).trans ((uM_ne (by omega)).trans ((cpk_o (by omega)).trans y13)))) ((fr_j hf99 (by decide)).trans ((uM_ne (by omega)).trans ((uM_ne (by omega)).trans ((cpk_o (by omega)).trans y8)))) ((fr_j hf99 (by decide)).trans ((uM_ne (by omega)).trans ((uM_ne (by omega)).trans ((cpk_o (by omega)).trans y0)))) ((fr_j hf99 (by decide)).trans uM_at) h26)
        · exact (fr_c hf99 (by decide)).trans ((uM_ne (by omega)).trans ((uM_ne (by omega)).trans ((cpk_i (by omega) (by omega)).trans ((yo _ (by omega)).trans (congrArg W2 (by omega))))))
        · exact (fr_c hf99 (by decide)).trans ((uM_ne (by omega)).trans ((uM_ne (by omega)).trans ((cpk_i (by omega) (by omega)).trans yw)))
      · have h24 : ¬ 0 ≤ ((g_law f e).2) := h24
        exact absurd b0 (by omega)
    · have h8 : ¬ 0 ≤ ((g_law f e).2) := h8
      exact absurd b0 (by omega)
  · show gm_Wp X LX d _ _ 283 5 _ [gm_vi (-1)] n K _ _ Q
    have hge := b2 hg
    refine gm_sz (gm_p_stor (pc := 5) (i := .istore_n 1) (sr := 0) (j := 1) (by decide +kernel) rfl (show 2 ≤ _ from Nat.le_of_ble_eq_true rfl) rfl) ?_
    refine gm_sz (gm_p_load (pc := 6) (i := .aload_n 0) (sr := 2) (j := 0) (by decide +kernel) rfl rfl rfl) ?_
    refine gm_sz (gm_p_load (pc := 7) (i := .iload_n 1) (sr := 0) (j := 1) (by decide +kernel) rfl rfl rfl) ?_
    refine fw_iffd (cc := .ge) (pc := 8) (off := 10) (by decide +kernel) (by decide) ⟨by decide, by decide⟩ (by decide) ?_
    refine gm_sz (gm_p_load (pc := 11) (i := .aload_n 0) (sr := 2) (j := 0) (by decide +kernel) rfl rfl rfl) ?_
    refine gm_sz (fw_gi (pc := 12) (ix := 116) (ci := 11) (j := 11) (x := (g_law f e).2) (by decide +kernel) (e0k hE (k := 226) (c := 11) (by decide +kernel)) (by decide +kernel) (by decide +kernel) z11) ?_
    refine gm_sz (gm_p_goto (pc := 15) (off := 4) (by decide +kernel) (by decide)) ?_
    refine gm_sz (fw_pi (pc := 19) (ix := 30) (ci := 11) (j := 13) (M' := gm_uM M5 226 13 ((g_law f e).2)) (by decide +kernel) (e0k hE (k := 226) (c := 11) (by decide +kernel)) (by decide +kernel) (by decide +kernel) (by decide +kernel) rfl) ?_
    refine gm_sz (gm_p_load (pc := 22) (i := .aload_n 0) (sr := 2) (j := 0) (by decide +kernel) rfl rfl rfl) ?_
    refine gm_sz (gm_p_load (pc := 23) (i := .iload_n 1) (sr := 0) (j := 1) (by decide +kernel) rfl rfl rfl) ?_
    refine fw_iffd (cc := .ge) (pc := 24) (off := 7) (by decide +kernel) (by decide) ⟨by decide, by decide⟩ (by decide) ?_
    refine gm_sz (gm_p_const (pc := 27) (i := .iconst 1) (v := gm_vi 1) (by decide +kernel) (by decide +kernel)) ?_
    refine gm_sz (gm_p_goto (pc := 28) (off := 4) (by decide +kernel) (by decide)) ?_
    refine gm_sz (gm_p_const (pc := 32) (i := .iconst 1) (v := gm_vi 1) (by decide +kernel) (by decide +kernel)) ?_
    refine gm_c_virt (k := 226) (ci := 11) (mj := 282) (ix := 300) (pc := 33) (as := [gm_vi 1, gm_vi 1]) (st := []) (d' := d - 1) (bc' := 0) (bs' := 0) (by decide +kernel) (by decide +kernel) (by decide +kernel) (by decide +kernel) (e0k hE (k := 226) (c := 11) (by decide +kernel)).1 (e0k hE (k := 226) (c := 11) (by decide +kernel)).2 (by decide) (by decide +kernel) (show 2 = gm_na 282 by decide +kernel) (fw_c2 fw_si fw_si) (show 3 ≤ gm_ml 282 by decide +kernel) (Nat.le_of_ble_eq_true rfl) (by omega) (Nat.zero_le _) (Nat.zero_le _) ?_
    refine tf_1 hE ?_
    show gm_Wp X LX d _ _ 283 36 _ [gm_vi 1] n K _ _ Q
    refine fw_iffd (cc := .eq) (pc := 36) (off := 5) (by decide +kernel) (by decide) ⟨by decide, by decide⟩ (by decide) ?_
    refine gm_sz (gm_p_const (pc := 39) (i := .iconst 0) (v := gm_vi 0) (by decide +kernel) (by decide +kernel)) ?_
    exact gm_r_int (pc := 40) (by decide +kernel) (Or.inl (by decide +kernel)) (q0 _ (fr_p (fr_p (fr_t fr_0 hf5 (by decide)) (Or.inr (by decide))) (Or.inr (by decide))) (fun j hj => (uM_ne (by omega)).trans ((uM_ne (by omega)).trans (hw5 j (by omega)))) hg ((uM_ne (by omega)).trans uM_at) ((uM_ne (by omega)).trans ((uM_ne (by omega)).trans z8)) uM_at)
end W4A
end
/-! 7a47.w5sl -/
section
/-! WHAT A RIGHT TEXT OF A LAW TELLS IS A LAW: as many lines as told, each of them well formed. -/
section W5A
variable {f : Int → Int} {e b : Int}
theorem s_txt_len : ∀ (t : Nat) (b : Int), (g_txt f e t b).1 = true → 12 - (t : Int) + ((s_txt f e t b).length : Int) = (g_txt f e t b).2 := by
  intro t
  induction t with
  | zero => intro b h; cases h
  | succ t ih =>
    intro b h
    by_cases j6 : (g_line f e b).1 = true
    · by_cases k6 : tx_k f e (g_line f e b).2 = 256
      · rw [g_t1 j6 k6, s_t1 k6]
        show 12 - ((t + 1 : Nat) : Int) + ((1 : Nat) : Int) = 12 - (t : Int)
        omega
      · by_cases k9 : tx_k f e (g_line f e b).2 = 59
        · rw [g_t3 j6 k6 k9] at h ⊢
          rw [s_t3 k6 k9, List.length_cons]
          have := ih _ h
          omega
        · rw [g_t2 j6 k6 k9] at h
          cases h
    · rw [g_t0 j6] at h
      cases h
theorem s_law_len (h : (g_law f e).1 = true) : ((s_law f e).length : Int) = (g_law f e).2 := by
  by_cases n9 : tx_k f e (tx_g f e 0) = 256
  · rw [g_w0 n9, show s_law f e = [] from tif_t n9]
    rfl
  · rw [g_w1 n9] at h ⊢
    rw [show s_law f e = s_txt f e 12 (tx_g f e 0) from tif_f n9]
    have := s_txt_len 12 _ h
    omega
/-- a line well formed -/
noncomputable def lwf (x : lln) : Prop := (0 ≤ x.1 ∧ x.1 ≤ 2) ∧ (0 ≤ x.2.1 ∧ x.2.1 ≤ 20) ∧ ∀ t, x.2.2 = some t → shg 32 t 0 1
theorem s_if_w (h0 : 0 ≤ b) (h1 : b ≤ e) (h : (g_if f e b).1 = true) : ∀ t, s_if f e b = some t → shg 32 t 0 1 := by
  intro t ht
  by_cases j : tx_is f e b wo_if
  · rw [g_f1 j] at h
    rw [s_f1 j] at ht
    cases ht
    have n1 := tx_nb (f := f) h1
    exact shg_mono (by decide) _ _ ((s_cd_ok (f := f) (e := e) 6 _ (by omega) n1.2.1 h).2 0)
  · rw [s_f0 j] at ht
    cases ht
theorem s_line_w (h0 : 0 ≤ b) (h1 : b ≤ e) (h : (g_line f e b).1 = true) : lwf (s_line f e b) := by
  have n1 := tx_nb (f := f) h1
  have n2 := tx_nb (f := f) n1.2.1
  by_cases jo : tx_is f e b wo_open
  · rw [g_n1 jo] at h
    rw [s_n1 jo]
    exact ⟨⟨(by decide : (0 : Int) ≤ 2), (by decide : (2 : Int) ≤ 2)⟩, ⟨(by decide : (0 : Int) ≤ 0), (by decide : (0 : Int) ≤ 20)⟩, s_if_w (by omega) n1.2.1 h⟩
  · by_cases jf : tx_is f e b wo_fast ∨ tx_is f e b wo_slow
    · by_cases jn : g_nm f e (tx_n f e b)
      · have hg := h
        have e9 : g_line f e b = g_if f e (tx_n f e (tx_n f e b)) := by
          unfold g_line
          rw [tif_f jo, tif_t jf, tif_t jn]
        rw [e9] at hg
        have w := s_if_w (by omega) n2.2.1 hg
        by_cases ja : tx_is f e b wo_fast
        · rw [s_n2 ja]
          exact ⟨⟨(by decide : (0 : Int) ≤ 0), (by decide : (0 : Int) ≤ 2)⟩, jn.2, w⟩
        · rw [s_n3 (jf.resolve_left ja)]
          exact ⟨⟨(by decide : (0 : Int) ≤ 1), (by decide : (1 : Int) ≤ 2)⟩, jn.2, w⟩
      · have e9 : g_line f e b = (false, tx_n f e b) := by
          unfold g_line
          rw [tif_f jo, tif_t jf, tif_f jn]
        rw [e9] at h
        cases h
    · have e9 : g_line f e b = (false, b) := by
        unfold g_line
        rw [tif_f jo, tif_f jf]
      rw [e9] at h
      cases h
theorem s_txt_w : ∀ (t : Nat) (b : Int), 0 ≤ b → b ≤ e → (g_txt f e t b).1 = true → ∀ x ∈ s_txt f e t b, lwf x := by
  intro t
  induction t with
  | zero => intro b _ _ h; cases h
  | succ t ih =>
    intro b h0 h1 h x hx
    by_cases j6 : (g_line f e b).1 = true
    · have w := s_line_w h0 h1 j6
      have l := g_line_in (f := f) h0 h1
      have n1 := tx_nb (f := f) l.2
      by_cases k6 : tx_k f e (g_line f e b).2 = 256
      · rw [s_t1 k6] at hx
        rw [List.mem_singleton.mp hx]
        exact w
      · by_cases k9 : tx_k f e (g_line f e b).2 = 59
        · rw [g_t3 j6 k6 k9] at h
          rw [s_t3 k6 k9] at hx
          rcases List.mem_cons.mp hx with rfl | hx
          · exact w
          · exact ih _ (by omega) n1.2.1 h x hx
        · rw [g_t2 j6 k6 k9] at h
          cases h
    · rw [g_t0 j6] at h
      cases h
/-- the law that is told -/
theorem s_law_w (he : 0 ≤ e) (h : (g_law f e).1 = true) : LW (s_law f e) := by
  have hl := s_law_len h
  have hb := (g_law_b (f := f) he).2.1 h
  refine ⟨by omega, fun k x hx => ?_⟩
  have hm : x ∈ s_law f e := List.mem_of_getElem? hx
  have : lwf x := by
    by_cases n9 : tx_k f e (tx_g f e 0) = 256
    · rw [show s_law f e = [] from tif_t n9] at hm
      cases hm
    · rw [g_w1 n9] at h
      rw [show s_law f e = s_txt f e 12 (tx_g f e 0) from tif_f n9] at hm
      obtain ⟨g1, g2, -⟩ := tx_gb (f := f) he
      exact s_txt_w 12 _ g1 g2 h x hm
  exact this
end W5A
end
