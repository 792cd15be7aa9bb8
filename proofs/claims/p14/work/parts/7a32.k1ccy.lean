/-! THE CLASS'S readText OF A LAW, with what it lays down (laid by wip/core/k1c.py out of p5's texts). -/
section KY
variable {X : Int → Int} {LX d bc bs n : Nat} {K : gm_K} {R : gm_R} {M : gm_M} {Q : gm_Q} {e e0 b w us lc x p k v : Int} {D C : Int → Int}
/-- the law stands read: lines in 218, codes in 219 -/
def ctw (ls : List lln) (M2 : gm_M) : Prop := ∃ (Lc : List Int), ctl Lc (M2 215 4) (M2 217 3) (M2 218) (M2 219) ∧ cdl ls (M2 215 4) (M2 218) (M2 219)
theorem ctw_ct {ls : List lln} {Lc : List Int} {M1 : gm_M} {D2 C2 : Int → Int} (h : ctl Lc us lc D2 C2) (h2 : cdl ls us D2 C2) : ctw ls (ct M1 e b w us lc D2 C2) := ⟨Lc, h, h2⟩
theorem kx_c72 (hd : 25 ≤ d) (hF : gm_Fx p2_O 245 K R M) (h0 : 0 ≤ e0 ∧ e0 ≤ 400) (h1 : ∀ (K2 : gm_K) R2 M2, (∀ k, k ≤ 245 → K2 k = K k) → ctw (s_law (M 2) e0) M2 → (g_law (M 2) e0).1 = true → M2 217 3 = (g_law (M 2) e0).2 → Q (.inl (some (gm_vi (-1)))) 245 K2 R2 M2) (hq0 : ∀ K2 R2 M2, ¬ (g_law (M 2) e0).1 = true → Q (.inl (some (gm_vi (g_law (M 2) e0).2))) 245 K2 R2 M2) : gm_Wp X LX d bc bs 72 0 (gm_ent 72 [gm_vr 215, gm_vi e0]) [] 245 K R M Q := by
  have hE0 := tx_EF hF
  refine gm_sz (gm_p_load (pc := 0) (i := .aload_n 0) (sr := 2) (j := 0) (by decide +kernel) rfl rfl rfl) ?_
  refine gm_c_up (k := 215) (ci := 9) (mj := 73) (ix := 24) (pc := 1) (as := []) (st := []) (d' := d - 1) (bc' := 0) (bs' := 0) (by decide +kernel) (by decide +kernel) (by decide +kernel) (tE215c hE0).1 (tE215c hE0).2 (show 0 = gm_na 73 by decide +kernel) fw_c0 (show 1 ≤ gm_ml 73 by decide +kernel) (Nat.le_of_ble_eq_true rfl) (by omega) (Nat.zero_le _) (Nat.zero_le _) ?_
  refine gm_Wp_mono (fun o n9 K1 R1 M1 h => ?_) (pm_s2_s (d - 1) (ck_sn p2_O (fun _ => 0) M) [gm_vr 215] 245 K R M (show 2 ≤ d - 1 by omega) rfl ⟨_, _, rfl, rfl, rfl⟩ (ck_sn_s p2_nmu) hF ⟨(fun _ h => nomatch h), (fun _ h => nomatch h), (fun _ h => nomatch h)⟩)
  obtain ⟨f1, f2, oc, f3, f4, f5, f6⟩ := h
  rw [List.mem_singleton.mp f3] at f4 f5 f6
  have f5 : n9 = 245 := f5
  subst f5
  rcases o with (_ | v9) | x9
  case inl.some => exact absurd f4 id
  case inr => exact absurd f4 id
  have u0 := ((f6.2.2 (215, 4, 4, ck_one 0) List.mem_cons_self).2 4 (Int.le_refl _) (Int.le_refl _)).2
  have u1 := ((f6.2.2 (217, 3, 3, ck_one 0) (List.mem_cons_of_mem _ List.mem_cons_self)).2 3 (Int.le_refl _) (Int.le_refl _)).2
  have v0 : M1 215 4 = 0 := Int.le_antisymm u0.2.1 u0.1
  have v1 : M1 217 3 = 0 := Int.le_antisymm u1.2.1 u1.1
  have hf : M1 2 = M 2 := funext fun j => f2.2.2.1 2 j (by decide) (fun w hw hh => by
    have := List.all_eq_true.mp (show pm_s2.2.2.2.2.1.1.all (fun w => decide (¬ w.1 = 2)) = true by decide) w hw
    exact absurd hh.1 (of_decide_eq_true this))
  have hE := tx_EF f1
  have hok0 : ctk 0 0 (M1 218) (M1 219) := ⟨⟨⟨by decide, by decide⟩, by decide, by decide⟩, fun j g1 g2 => ((gm_tyr_s f1 (show gm_tyr p2_O 218 0 47 = some (0, 400) by decide +kernel)).2 j g1 (by omega)).2, fun j g1 g2 => ((gm_tyr_s f1 (show gm_tyr p2_O 219 0 399 = some (-2147483648, 2147483647) by decide +kernel)).2 j g1 (by omega)).1⟩
  have hok : ctl [] 0 0 (M1 218) (M1 219) := ⟨rfl, hok0, fun i v h => by simp at h⟩
  have hdl : cdl [] 0 (M1 218) (M1 219) := cdl_0
  show gm_Wp X LX d _ _ 72 4 (gm_ent 72 [gm_vr 215, gm_vi e0]) [] 245 K1 R1 M1 Q
  rw [← cm_id (M := M1), v0, v1]
  rw [← hf] at h1 hq0
  have hE2 := tx_E2 hE h0
  have hf2 : (gm_uM M1 216 2 e0) 2 = M1 2 := funext fun j => uM_ne (by omega)
  obtain ⟨gb1, gb2, -⟩ := tx_gb (f := M1 2) h0.1
  have hkb := tx_kc (f := M1 2) (e := e0) (b := tx_g (M1 2) e0 0) (fun h => tEb hE gb1 (by omega))
  generalize hD : M1 218 = D9 at *
  generalize hC : M1 219 = C9 at *
  refine gm_sz (gm_p_load (pc := 4) (i := .aload_n 0) (sr := 2) (j := 0) (by decide +kernel) rfl rfl rfl) ?_
  refine gm_sz (fw_gr (pc := 5) (ix := 14) (ci := 9) (j := 0) (r := 216) (by decide +kernel) (tE215c hE) (by decide +kernel) (by decide +kernel) (tEr hE).2.1) ?_
  refine gm_sz (gm_p_load (pc := 8) (i := .iload_n 1) (sr := 0) (j := 1) (by decide +kernel) rfl rfl rfl) ?_
  refine gm_c_virt (k := 216) (ci := 8) (mj := 75) (ix := 27) (pc := 9) (as := [gm_vi e0]) (st := []) (d' := d - 1) (bc' := 0) (bs' := 0) (by decide +kernel) (by decide +kernel) (by decide +kernel) (by decide +kernel) (tE216c hE).1 (tE216c hE).2 (by decide) (by decide +kernel) (show 1 = gm_na 75 by decide +kernel) (fw_c1 fw_si) (show 2 ≤ gm_ml 75 by decide +kernel) (Nat.le_of_ble_eq_true rfl) (by omega) (Nat.zero_le _) (Nat.zero_le _) ?_
  refine tx_c75 (by omega) hE h0 ?_
  show gm_Wp X LX d _ _ 72 12 (gm_ent 72 [gm_vr 215, gm_vi e0]) [] 245 K1 R1 (ct (gm_uM M1 216 2 e0) e0 (tx_g (M1 2) e0 0) (-1) 0 0 D9 C9) Q
  refine gm_sz (gm_p_load (pc := 12) (i := .aload_n 0) (sr := 2) (j := 0) (by decide +kernel) rfl rfl rfl) ?_
  refine gm_sz (fw_gr (pc := 13) (ix := 14) (ci := 9) (j := 0) (r := 216) (by decide +kernel) (tE215c hE2) (by decide +kernel) (by decide +kernel) (tEr hE2).2.1) ?_
  refine gm_sz (fw_gi (pc := 16) (ix := 31) (ci := 8) (j := 6) (x := tx_k (M1 2) e0 (tx_g (M1 2) e0 0)) (by decide +kernel) (tE216c hE2) (by decide +kernel) (by decide +kernel) (show tx_k ((gm_uM M1 216 2 e0) 2) e0 (tx_g (M1 2) e0 0) = tx_k (M1 2) e0 (tx_g (M1 2) e0 0) by rw [hf2])) ?_
  refine gm_sz (gm_p_const (pc := 19) (i := .sipush 256) (v := gm_vi 256) (by decide +kernel) (by decide +kernel)) ?_
  refine fw_ic (cc := .ne) (pc := 22) (off := 5) (by decide +kernel) (by decide) ⟨by omega, by omega⟩ ⟨by decide, by decide⟩ (fun j1 => ?_) (fun j1 => ?_)
  · have j1 : ¬ (tx_k (M1 2) e0 (tx_g (M1 2) e0 0)) = 256 := j1
    refine gm_sz (gm_p_const (pc := 27) (i := .iconst 0) (v := gm_vi 0) (by decide +kernel) (by decide +kernel)) ?_
    refine gm_sz (gm_p_stor (pc := 28) (i := .istore_n 2) (sr := 0) (j := 2) (by decide +kernel) rfl (show 3 ≤ _ from Nat.le_of_ble_eq_true rfl) rfl) ?_
    rw [g_w1 j1, ← hf2] at hq0
    rw [g_w1 j1, show s_law (M1 2) e0 = [] ++ s_txt (M1 2) e0 12 (tx_g (M1 2) e0 0) from tif_f j1, ← hf2] at h1
    have hb9 : 0 ≤ tx_g ((gm_uM M1 216 2 e0) 2) e0 0 ∧ tx_g ((gm_uM M1 216 2 e0) 2) e0 0 ≤ e0 := by rw [hf2]; exact ⟨by omega, gb2⟩
    rw [show tx_g (M1 2) e0 0 = tx_g ((gm_uM M1 216 2 e0) 2) e0 0 by rw [hf2]]
    exact kx_l72 (by omega) hE2 _ 12 0 _ 0 D9 C9 [] [] rfl (Int.le_refl _) hb9 hb9.1 rfl hok hdl (fun us2 D2 C2 b2 Lc2 kc kd g => h1 _ _ _ f2.2.1 (ctw_ct kc kd) g rfl) (fun us2 lc2 D2 C2 b2 g => hq0 _ _ _ g)
  · have j1 : (tx_k (M1 2) e0 (tx_g (M1 2) e0 0)) = 256 := Classical.not_not.mp j1
    refine gm_sz (gm_p_const (pc := 25) (i := .iconst (-1)) (v := gm_vi (-1)) (by decide +kernel) (by decide +kernel)) ?_
    rw [g_w0 j1, show s_law (M1 2) e0 = [] from tif_t j1] at h1
    exact gm_r_int (pc := 26) (by decide +kernel) (Or.inl (by decide +kernel)) (h1 _ _ _ f2.2.1 (ctw_ct hok hdl) rfl rfl)

end KY
