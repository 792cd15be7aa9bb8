/-! END, FIT, and the calls that only ask, told of the world. -/
section EW19
variable {X : Int → Int} {LX : Nat} {O : gm_Or} {g z g1 n : Nat} {la la2 : Nat → Nat} {K K1 K2 : gm_K} {R R1 R2 : gm_R} {M M1 M2 : gm_M} {L : gm_L} {st : List gm_V} {Q : gm_Q} {N N0 : Int → Int} {lw lw0 : Option (List lln)} {A A0 A' : List (Int → Int)} {im im0 : Option ((Int → Int) × Option (List lln))} {t w t0 w0 x : Int} {f f0 a : Int → Int} {o : gm_O} {n1 bc bs pc ix mj : Nat} {l0 l1 l : List ck_Sum} {ds : List (Int × Int)} {xs : List Int} {S : ck_Sum}
theorem bg_up2 (hb : bg g la K R M) (hF : gm_Fx p2_O (245 + 4 * g) K R M2) (hM : ∀ k j, 246 ≤ k → M2 k j = M k j) : bg g la K R M2 := by
  obtain ⟨h1, -, h3, h4⟩ := hb
  refine ⟨h1, hF, fun j hj => ?_, h4⟩
  have h := h3 j hj
  unfold bg_g at h ⊢
  rw [hM _ _ (by omega), hM _ _ (by omega), hM _ _ (by omega)]
  exact h
theorem fe_s {y : Int} : gm_uM M 1 1 y = fe M y (M 2) := by
  funext b j
  unfold gm_uM fe
  by_cases h1 : b = 1 ∧ j = 1
  · rw [if_pos h1, if_pos h1]
  · rw [if_neg h1, if_neg h1]
    by_cases h2 : b = 2
    · rw [if_pos h2, h2]
    · rw [if_neg h2]
/-- class: the TAPE's length is another -/
theorem clv_t {t2 : Int} (hV : CLV N lw A im t w f M) : CLV N lw A im t2 w f (gm_uM M 1 1 t2) := by
  rw [fe_s]
  exact clv_tape hV hV.2.2.2.2.2
theorem ow_end (hb : bg g la K R M) (hR : REL la K M N lw A im t w f) (h : gm_at 370 pc = some (.invokevirtual ix)) (hc : gm_cal (gm_ow 370) ix = some (0, 21)) (hh : gm_hh 370 = []) (hst : (st.map gm_cat).sum ≤ 8) (hx : gm_ir x) (k : mw_K X LX bc bs (pc + 3) L st Q g (some (gm_vi (ap_end x t).1)) none (fun la2 K2 M2 => MID la2 K2 M2 N lw A im (ap_end x t).2 w f N lw A im t w f)) : gm_Wp X LX 280 bc bs 370 pc L (gm_vi x :: gm_vr 1 :: st) (245 + 4 * g) K R M Q := by
  have hE : E0 (245 + 4 * g) K R := e0F hb.2.1
  have kx := k1_e hE
  have ht := hR.2.2.1.2.2.2.2.1.1
  have hb4 := hR.1.2.2.2.2.1
  have no : ap_end x t = (0, t) → gm_Wp X LX 280 (bc - 0) (bs - 0) 370 (pc + 3) L (gm_vi 0 :: st) (245 + 4 * g) K R M Q := fun er => by
    rw [er] at k
    exact gm_Wp_wk (Nat.le_refl _) (by omega) (by omega) (k la K R M hb ⟨hR.1, hR.1, hR.2⟩ (fun v e => nomatch e))
  refine gm_c_virt (k := 1) (ci := 0) (mj := 21) (as := [gm_vi x]) (st := st) (d' := 1) (bc' := 0) (bs' := 0) h hc (by decide +kernel) hh kx.1 kx.2 (by decide) (by decide +kernel) (show 1 = gm_na 21 by decide +kernel) (fw_c1 (by simp [gm_sort])) (show 1 + 1 ≤ gm_ml 21 by decide +kernel) hst (by decide) (Nat.zero_le _) (Nat.zero_le _) ?_
  refine ce_21 hE hx (by rw [ht]; exact ⟨by omega, by omega⟩) (fun h => no (tif_t (Or.inl h))) (fun h1 h2 => ?_) (fun h1 h2 => no (tif_t (Or.inr (by omega))))
  rw [ht] at h2
  have er : ap_end x t = (1, x) := tif_f (by omega)
  have hra := ra_end (x := x) hR.1
  rw [er] at k hra
  show gm_Wp X LX 280 (bc - 0) (bs - 0) 370 (pc + 3) L (gm_vi 1 :: st) (245 + 4 * g) K R (gm_uM M 1 1 x) Q
  exact gm_Wp_wk (Nat.le_refl _) (by omega) (by omega) (k la K R _ (bg_up2 hb (gm_Fx_M hb.2.1 (show gm_tyw p2_O 1 1 1 0 400 = true by decide +kernel) (Int.le_refl 1) (Int.le_refl 1) (by omega) (show x ≤ (400 : Int) by omega)) (fun k j hk => uM_ne (by omega))) ⟨hra, hR.1, lwl_e hR.2.1 hb.2.2.2 (fun _ _ => rfl) (uM_ne (by decide)) (fun _ _ _ => rfl) (fun k j k1 _ => uM_ne (by omega)), clv_t hR.2.2.1, rfv_e hR.2.2.2 (fun k j hk => uM_ne (by have := rk_le hk; omega))⟩ (fun v e => nomatch e))
theorem om_end (hb : bg g la K R M) (hR : MID la K M N lw A im (ap_end x t).2 w f N lw A im t w f) (h : gm_at 370 pc = some (.invokevirtual ix)) (hc : gm_cal (gm_ow 370) ix = some (0, 240)) (hh : gm_hh 370 = []) (hst : (st.map gm_cat).sum ≤ 8) (hx : gm_ir x) (k : mm_K X LX bc bs (pc + 3) L st Q g M (PU (some (gm_vi (ap_end x t).1))) none (fun la2 K2 M2 => REL la2 K2 M2 N lw A im (ap_end x t).2 w f)) : gm_Wp X LX 280 bc bs 370 pc L (gm_vi x :: gm_vr 226 :: st) (245 + 4 * g) K R M Q := by
  have hE : E0 (245 + 4 * g) K R := e0F hb.2.1
  have kx : (1 ≤ 226 ∧ 226 ≤ 245 + 4 * g) ∧ (K 226).1 = 11 + 4 := e0k hE (k := 226) (c := 11) (by decide +kernel)
  obtain ⟨hra, hra0, hL, hC, hV⟩ := hR
  have ht := hV.2.2.2.1.1
  have hb4 := hra0.2.2.2.2.1
  have F1 := gm_Fx_M hb.2.1 (show gm_tyw p2_O 226 0 0 0 0 = true by decide +kernel) (Int.le_refl 0) (Int.le_refl 0) (Int.le_refl 0) (Int.le_refl 0)
  have s0 : RFV N lw A im t w f (gm_uM M 226 0 0) := rfv_fr hV (W := [(226, some 0)]) (fr_p fr_0 (Or.inr (by decide))) (by decide)
  have go : ∀ {M2 : gm_M}, gm_Fx p2_O (245 + 4 * g) K R M2 → (∀ k j, ¬ k = 226 → M2 k j = M k j) → RFV N lw A im (ap_end x t).2 w f M2 → gm_Wp X LX 280 (bc - 0) (bs - 0) 370 (pc + 3) L (gm_vi (ap_end x t).1 :: st) (245 + 4 * g) K R M2 Q := fun {M2} hF e hV2 =>
    gm_Wp_wk (Nat.le_refl _) (by omega) (by omega) (k _ la K R _ rfl (bg_up2 hb hF (fun k j hk => e k j (by omega))) ⟨hra, lwl_e hL hb.2.2.2 (fun _ _ => rfl) (e 42 1 (by decide)) (fun _ _ _ => rfl) (fun k j k1 _ => e k j (by omega)), clv_e hC (cstF hF) (fun k j hk => e k j (by have := ck_le hk; omega)), hV2⟩ (e 245 0 (by decide)) (fun c e => nomatch e))
  refine gm_c_virt (k := 226) (ci := 11) (mj := 240) (as := [gm_vi x]) (st := st) (d' := 1) (bc' := 0) (bs' := 0) h hc (by decide +kernel) hh kx.1 kx.2 (by decide) (by decide +kernel) (show 1 = gm_na 240 by decide +kernel) (fw_c1 (by simp [gm_sort])) (show 1 + 1 ≤ gm_ml 240 by decide +kernel) hst (by decide) (Nat.zero_le _) (Nat.zero_le _) ?_
  refine re_240 hE hx (by rw [ht]; exact ⟨by omega, by omega⟩) (fun h => ?_) (fun h1 h2 => ?_) (fun h1 h2 => ?_)
  · have er : ap_end x t = (0, t) := tif_t (Or.inl h)
    rw [er] at go
    exact go F1 (fun k j hk => uM_ne (by omega)) s0
  · rw [ht] at h2
    have er : ap_end x t = (1, x) := tif_f (by omega)
    rw [er] at go
    exact go (gm_Fx_M F1 (show gm_tyw p2_O 226 8 8 0 400 = true by decide +kernel) (Int.le_refl 8) (Int.le_refl 8) (by omega) (show x ≤ (400 : Int) by omega)) (fun k j hk => (uM_ne (by omega)).trans (uM_ne (by omega))) (rfv_tape s0 uM_at (fun j j0 j1 => (uM_ne (by omega)).trans (s0.2.2.2.2 j j0 j1)) (fun k j h1 h2 h3 => uM_ne h3))
  · rw [ht] at h2
    have er : ap_end x t = (0, t) := tif_t (Or.inr (by omega))
    rw [er] at go
    exact go F1 (fun k j hk => uM_ne (by omega)) s0
/-- a cell that is told of the class, of the reference -/
noncomputable def cKb (w : Nat × Int × Int) : Bool := decide ((w.1 = 1 ∧ (w.2.1 ≤ 15 ∧ 1 ≤ w.2.2)) ∨ (2 ≤ w.1 ∧ w.1 ≤ 15) ∨ (29 ≤ w.1 ∧ w.1 ≤ 199) ∨ (w.1 = 200 ∧ (w.2.1 ≤ 6 ∧ 6 ≤ w.2.2)) ∨ (201 ≤ w.1 ∧ w.1 ≤ 203) ∨ w.1 = 205 ∨ w.1 = 220 ∨ w.1 = 221)
noncomputable def rKb (w : Nat × Int × Int) : Bool := decide (w.1 = 227 ∨ w.1 = 228 ∨ w.1 = 230 ∨ w.1 = 231 ∨ w.1 = 234 ∨ w.1 = 235 ∨ (w.1 = 226 ∧ ((w.2.1 ≤ 5 ∧ 5 ≤ w.2.2) ∨ (w.2.1 ≤ 6 ∧ 6 ≤ w.2.2) ∨ (w.2.1 ≤ 8 ∧ 8 ≤ w.2.2) ∨ (w.2.1 ≤ 13 ∧ 13 ≤ w.2.2) ∨ (w.2.1 ≤ 26 ∧ 26 ≤ w.2.2))))
theorem cKb_s {w : Nat × Int × Int} {k : Nat} {j : Int} (h : cK k j) (h1 : w.1 = k ∧ w.2.1 ≤ j ∧ j ≤ w.2.2) : cKb w = true := by
  unfold cK at h
  exact decide_eq_true (by omega)
theorem rKb_s {w : Nat × Int × Int} {k : Nat} {j : Int} (h : rK k j) (h1 : w.1 = k ∧ w.2.1 ≤ j ∧ j ≤ w.2.2) : rKb w = true := by
  unfold rK at h
  exact decide_eq_true (by omega)
/-- behind a call that only asks: what is told is as it was -/
noncomputable def mq_K (X : Int → Int) (LX bc bs pc : Nat) (L : gm_L) (st : List gm_V) (Q : gm_Q) (g : Nat) (P : (Nat → Nat) → gm_K → gm_M → Prop) (V : Option gm_V → gm_M → Prop) : Prop := ∀ (u : Option gm_V) (la2 : Nat → Nat) (K2 : gm_K) (R2 : gm_R) (M2 : gm_M), V u M2 → bg g la2 K2 R2 M2 → P la2 K2 M2 → gm_Wp X LX 280 (bc - 6) (bs - 600) 370 pc L (u.toList ++ st) (245 + 4 * g) K2 R2 M2 Q
/-- what a row tells of the answer -/
noncomputable def mq_V (S : ck_Sum) (u : Option gm_V) : Prop := ∃ oc ∈ S.2.2.2.2.2, ∃ σ : Nat → Int, ck_ho σ oc.1 (.inl u)
end EW19
