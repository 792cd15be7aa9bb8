/-! THE CLASS'S law(), whole, with its lines (laid by wip/core/w3.py). -/
section W3A
variable {X : Int → Int} {LX d bc bs : Nat} {K : gm_K} {R : gm_R} {M : gm_M} {Q : gm_Q} {N : Int → Int}
theorem cl_64 {x : Int} (hd : 1 ≤ d) (hE : E0 249 K R) (k6 : K 246 = (14, 0)) (k8 : K 248 = (6, 0)) (r8 : R 3 8 = 246) (r6 : R 246 0 = 248) (hx : M 248 3 = x) (hq : Q (.inl (some (gm_vi x))) 249 K R M) : gm_Wp X LX d bc bs 64 0 (gm_ent 64 [gm_vr 1]) [] 249 K R M Q := by
  have k1 := e0k hE (k := 1) (c := 0) (by decide +kernel)
  have k3 := e0k hE (k := 3) (c := 1) (by decide +kernel)
  have h6 : (1 ≤ 246 ∧ 246 ≤ 249) ∧ (K 246).1 = 10 + 4 := ⟨⟨by decide, by decide⟩, by rw [k6]⟩
  have h8 : (1 ≤ 248 ∧ 248 ≤ 249) ∧ (K 248).1 = 2 + 4 := ⟨⟨by decide, by decide⟩, by rw [k8]⟩
  refine gm_sz (gm_p_load (pc := 0) (i := .aload_n 0) (sr := 2) (j := 0) (by decide +kernel) rfl rfl rfl) ?_
  refine gm_sz (fw_gr (pc := 1) (ix := 23) (ci := 0) (j := 3) (r := 3) (by decide +kernel) k1 (by decide +kernel) (by decide +kernel) (e0r hE (k := 1) (j := 3) (r := 3) (by decide +kernel))) ?_
  refine gm_sz (fw_gr (pc := 4) (ix := 146) (ci := 1) (j := 8) (r := 246) (by decide +kernel) k3 (by decide +kernel) (by decide +kernel) r8) ?_
  refine gm_b_nnul (pc := 7) (off := 7) (k0 := 246) (by decide) (by decide +kernel) (by decide) (fun _ => ?_) (fun h => absurd h (by decide))
  refine gm_sz (gm_p_load (pc := 14) (i := .aload_n 0) (sr := 2) (j := 0) (by decide +kernel) rfl rfl rfl) ?_
  refine gm_sz (fw_gr (pc := 15) (ix := 23) (ci := 0) (j := 3) (r := 3) (by decide +kernel) k1 (by decide +kernel) (by decide +kernel) (e0r hE (k := 1) (j := 3) (r := 3) (by decide +kernel))) ?_
  refine gm_sz (fw_gr (pc := 18) (ix := 146) (ci := 1) (j := 8) (r := 246) (by decide +kernel) k3 (by decide +kernel) (by decide +kernel) r8) ?_
  refine gm_sz (fw_gr (pc := 21) (ix := 439) (ci := 10) (j := 0) (r := 248) (by decide +kernel) h6 (by decide +kernel) (by decide +kernel) r6) ?_
  refine gm_c_virt (k := 248) (ci := 2) (mj := 9) (ix := 277) (pc := 24) (as := []) (st := []) (d' := d - 1) (bc' := 0) (bs' := 0) (by decide +kernel) (by decide +kernel) (by decide +kernel) (by decide +kernel) h8.1 h8.2 (by decide) (by decide +kernel) (show 0 = gm_na 9 by decide +kernel) fw_c0 (show 1 ≤ gm_ml 9 by decide +kernel) (Nat.le_of_ble_eq_true rfl) (by omega) (Nat.zero_le _) (Nat.zero_le _) ?_
  refine rw_size h8 hx ?_
  exact gm_r_int (pc := 27) (by decide +kernel) (Or.inl (by decide +kernel)) hq
/-- where law() may write -/
def lwr (c : Nat) (j : Int) : Prop := kxw c j ∨ c = 201 ∨ c = 202 ∨ c = 203 ∨ (c = 200 ∧ j = 6) ∨ (c = 42 ∧ j = 2) ∨ (c = 1 ∧ (j = 1 ∨ j = 2 ∨ j = 15))
/-- law() of the class -/
theorem cl_123 (hd : 26 ≤ d) (hbc : 4 ≤ bc) (hbs : 454 ≤ bs) (hF : gm_Fx p2_O 245 K R M) (hT : TQ N M) (hG : GI N) (h0 : 0 ≤ M 1 1 ∧ M 1 1 ≤ 400)
    (q0 : ∀ (K2 : gm_K) (R2 : gm_R) (M2 : gm_M), (∀ c, c ≤ 245 → K2 c = K c) → (∀ c j, c ≤ 245 → R2 c j = R c j) → (∀ (c : Nat) (j : Int), c ≤ 245 → ¬ kxw c j → ¬ (c = 1 ∧ (j = 1 ∨ j = 2)) → M2 c j = M c j) → ¬ (g_law (M 2) (M 1 1)).1 = true → M2 1 2 = (g_law (M 2) (M 1 1)).2 → M2 1 1 = 0 → Q (.inr 0) 245 K2 R2 M2)
    (hq : ∀ (us : Int) (K2 : gm_K) (R2 : gm_R) (M2 : gm_M), (g_law (M 2) (M 1 1)).1 = true → (∀ c, c ≤ 245 → K2 c = K c) → (∀ c j, c ≤ 245 → ¬ (c = 3 ∧ j = 8) → R2 c j = R c j) → (K2 246 = (14, 0) ∧ K2 247 = (0, us.toNat) ∧ K2 248 = (6, 0) ∧ K2 249 = (0, 48)) → (R2 3 8 = 246 ∧ R2 246 0 = 248 ∧ R2 246 1 = 247 ∧ R2 248 2 = 249) → (M2 248 0 = 12 ∧ M2 248 1 = 4 ∧ M2 248 3 = (g_law (M 2) (M 1 1)).2) → (0 ≤ us ∧ us ≤ 400) → ((s_law (M 2) (M 1 1)).length ≤ 12 → cdl (s_law (M 2) (M 1 1)) us (M2 249) (M2 247)) → TI N (hts (N 13)) (spd N) M2 → M2 200 6 = 1 → M2 42 2 = 0 → M2 1 15 = 0 → M2 1 2 = -1 → M2 1 1 = 0 → (∀ (c : Nat) (j : Int), c ≤ 245 → ¬ lwr c j → M2 c j = M c j) → Q (.inl (some (gm_vi (g_law (M 2) (M 1 1)).2))) 249 K2 R2 M2) : gm_Wp X LX d bc bs 123 0 (gm_ent 123 [gm_vr 1]) [] 245 K R M Q := by
  have hE : E0 245 K R := e0_x hF (Nat.le_refl _) (fun _ _ => rfl) (fun _ _ _ => rfl)
  obtain ⟨b0, b1, b2⟩ := g_law_b (f := M 2) h0.1
  have k1 := e0k hE (k := 1) (c := 0) (by decide +kernel)
  have k215 := e0k hE (k := 215) (c := 9) (by decide +kernel)
  refine gm_sz (gm_p_load (pc := 0) (i := .aload_n 0) (sr := 2) (j := 0) (by decide +kernel) rfl rfl rfl) ?_
  refine gm_sz (gm_p_load (pc := 1) (i := .aload_n 0) (sr := 2) (j := 0) (by decide +kernel) rfl rfl rfl) ?_
  refine gm_sz (fw_gr (pc := 2) (ix := 88) (ci := 0) (j := 13) (r := 215) (by decide +kernel) k1 (by decide +kernel) (by decide +kernel) (e0r hE (k := 1) (j := 13) (r := 215) (by decide +kernel))) ?_
  refine gm_sz (gm_p_load (pc := 5) (i := .aload_n 0) (sr := 2) (j := 0) (by decide +kernel) rfl rfl rfl) ?_
  refine gm_sz (fw_gi (pc := 6) (ix := 13) (ci := 0) (j := 1) (x := M 1 1) (by decide +kernel) k1 (by decide +kernel) (by decide +kernel) rfl) ?_
  refine gm_c_up (k := 215) (ci := 9) (mj := 72) (ix := 139) (pc := 9) (as := [gm_vi (M 1 1)]) (st := [gm_vr 1]) (d' := d - 1) (bc' := 0) (bs' := 0) (by decide +kernel) (by decide +kernel) (by decide +kernel) k215.1 k215.2 (show 1 = gm_na 72 by decide +kernel) (fw_c1 fw_si) (show 2 ≤ gm_ml 72 by decide +kernel) (Nat.le_of_ble_eq_true rfl) (by omega) (Nat.zero_le _) (Nat.zero_le _) ?_
  refine kx_c72f (by omega) hF h0 (fun K2 R2 M2 hk hx hw hg hl => ?_) (fun K2 R2 M2 hk hx hg => ?_)
  · show gm_Wp X LX d _ _ 123 12 (gm_ent 123 [gm_vr 1]) [gm_vi (-1), gm_vr 1] 245 K2 R2 M2 Q
    have hE2 : E0 245 K2 R2 := e0_x hF (Nat.le_refl _) hk hx.2
    have j1 := e0k hE2 (k := 1) (c := 0) (by decide +kernel)
    refine gm_sz (fw_pi (pc := 12) (ix := 17) (ci := 0) (j := 2) (M' := gm_uM M2 1 2 (-1)) (by decide +kernel) j1 (by decide +kernel) (by decide +kernel) (by decide +kernel) rfl) ?_
    refine gm_sz (gm_p_load (pc := 15) (i := .aload_n 0) (sr := 2) (j := 0) (by decide +kernel) rfl rfl rfl) ?_
    refine gm_sz (gm_p_const (pc := 16) (i := .iconst 0) (v := gm_vi 0) (by decide +kernel) (by decide +kernel)) ?_
    refine gm_sz (fw_pi (pc := 17) (ix := 13) (ci := 0) (j := 1) (M' := gm_uM (gm_uM M2 1 2 (-1)) 1 1 0) (by decide +kernel) j1 (by decide +kernel) (by decide +kernel) (by decide +kernel) rfl) ?_
    refine gm_sz (gm_p_load (pc := 20) (i := .aload_n 0) (sr := 2) (j := 0) (by decide +kernel) rfl rfl rfl) ?_
    refine gm_sz (fw_gi (pc := 21) (ix := 17) (ci := 0) (j := 2) (x := (-1)) (by decide +kernel) j1 (by decide +kernel) (by decide +kernel) ((uM_ne (by omega)).trans uM_at)) ?_
    refine gm_sz (gm_p_const (pc := 24) (i := .iconst (-1)) (v := gm_vi (-1)) (by decide +kernel) (by decide +kernel)) ?_
    refine fw_ictd (cc := .eq) (pc := 25) (off := 13) (by decide +kernel) (by decide) ⟨by decide, by decide⟩ ⟨by decide, by decide⟩ (by decide) ?_
    obtain ⟨Lc, ⟨hlc, hctk, -⟩, hcd⟩ := hw
    have hu0 := hctk.1.1
    have hu1 := hctk.1.2
    have j215 := e0k hE2 (k := 215) (c := 9) (by decide +kernel)
    refine gm_sz (gm_p_load (pc := 38) (i := .aload_n 0) (sr := 2) (j := 0) (by decide +kernel) rfl rfl rfl) ?_
    refine gm_sz (fw_gr (pc := 39) (ix := 23) (ci := 0) (j := 3) (r := 3) (by decide +kernel) j1 (by decide +kernel) (by decide +kernel) (e0r hE2 (k := 1) (j := 3) (r := 3) (by decide +kernel))) ?_
    refine gm_sz (gm_p_load (pc := 42) (i := .aload_n 0) (sr := 2) (j := 0) (by decide +kernel) rfl rfl rfl) ?_
    refine gm_sz (fw_gr (pc := 43) (ix := 88) (ci := 0) (j := 13) (r := 215) (by decide +kernel) j1 (by decide +kernel) (by decide +kernel) (e0r hE2 (k := 1) (j := 13) (r := 215) (by decide +kernel))) ?_
    refine gm_c_virt (k := 215) (ci := 9) (mj := 124) (ix := 142) (pc := 46) (as := []) (st := [gm_vr 3]) (d' := 3) (bc' := 4) (bs' := 454) (by decide +kernel) (by decide +kernel) (by decide +kernel) (by decide +kernel) j215.1 j215.2 (by decide) (by decide +kernel) (show 0 = gm_na 124 by decide +kernel) fw_c0 (show 1 ≤ gm_ml 124 by decide +kernel) (Nat.le_of_ble_eq_true rfl) (by omega) hbc hbs ?_
    refine mk_124 (N := (M2 215 4).toNat) (z := (g_law (M 2) (M 1 1)).2) hE2 (by omega) ((uM_ne (by omega)).trans ((uM_ne (by omega)).trans (Int.toNat_of_nonneg hu0.1).symm)) ((uM_ne (by omega)).trans ((uM_ne (by omega)).trans hl)) ⟨b0, b1 hg⟩ (fun K3 R3 M3 hm => ?_)
    show gm_Wp X LX d _ _ 123 49 (gm_ent 123 [gm_vr 1]) [gm_vr 246, gm_vr 3] 249 K3 R3 M3 Q
    obtain ⟨⟨hk3, hr3, hm3⟩, ⟨k6, k7, k8, k9⟩, ⟨r60, r61, r82⟩, ⟨m80, m81, m83⟩, hD3, hC3⟩ := hm
    have hE3 : E0 249 K3 R3 := e0_x hF (by decide) (fun c hc => (hk3 c hc).trans (hk c hc)) (fun c j hc => (hr3 c j hc).trans (hx.2 c j hc))
    have i3 := e0k hE3 (k := 3) (c := 1) (by decide +kernel)
    have i1 := e0k hE3 (k := 1) (c := 0) (by decide +kernel)
    refine gm_sz (gm_p_putr (pc := 49) (ix := 146) (ci := 1) (j := 8) (by decide +kernel) i3.1 i3.2 (by decide +kernel) (by decide +kernel) (by decide +kernel)) ?_
    have hE4 : E0 249 K3 (gm_uR R3 3 8 246) := e0h3 hE3
    have w3 : ∀ (c : Nat) (j : Int), c ≤ 245 → ¬ kxw c j → ¬ (c = 1 ∧ (j = 1 ∨ j = 2)) → M3 c j = M c j := fun c j hc h1 h2 => (hm3 c j hc).trans ((uM_ne (by omega)).trans ((uM_ne (by omega)).trans (hx.1 c j hc h1)))
    have t3 : TQ N M3 := by
      refine ⟨fun q hq => ?_, (cs_same fun c j c1 c2 => w3 c j (by omega) (by unfold kxw; omega) (by omega)).trans hT.2⟩
      have e := of_decide_eq_true (List.all_eq_true.mp (show cstL.all (fun q => decide (q.1 ≤ 245 ∧ ¬ (q.1 = 216 ∨ q.1 = 218 ∨ q.1 = 219 ∨ (q.1 = 215 ∧ q.2.1 = 4) ∨ (q.1 = 217 ∧ q.2.1 = 3)) ∧ ¬ (q.1 = 1 ∧ (q.2.1 = 1 ∨ q.2.1 = 2)))) = true by decide +kernel) q hq)
      exact (w3 q.1 q.2.1 e.1 e.2.1 e.2.2).trans (hT.1 q hq)
    refine gm_sz (gm_p_load (pc := 52) (i := .aload_n 0) (sr := 2) (j := 0) (by decide +kernel) rfl rfl rfl) ?_
    refine gm_c_virt (k := 1) (ci := 0) (mj := 61) (ix := 136) (pc := 53) (as := []) (st := []) (d' := d - 1) (bc' := 0) (bs' := 0) (by decide +kernel) (by decide +kernel) (by decide +kernel) (by decide +kernel) i1.1 i1.2 (by decide) (by decide +kernel) (show 0 = gm_na 61 by decide +kernel) fw_c0 (show 1 ≤ gm_ml 61 by decide +kernel) (Nat.le_of_ble_eq_true rfl) (by omega) (Nat.zero_le _) (Nat.zero_le _) ?_
    refine fw_c61 (by omega) hE4 t3 hG.1 hG.2.1 (fun M6 hf6 ht6 h6 h42 h15 => ?_)
    show gm_Wp X LX d _ _ 123 56 (gm_ent 123 [gm_vr 1]) [] 249 K3 (gm_uR R3 3 8 246) M6 Q
    have f6 : ∀ (c : Nat) (j : Int), ¬ (c = 201 ∨ c = 202 ∨ c = 203 ∨ (c = 200 ∧ j = 6) ∨ (c = 42 ∧ j = 2) ∨ (c = 1 ∧ j = 15)) → M6 c j = M3 c j := fun c j h => hf6 c j (by intro hm; simp at hm; omega) (by intro hm; simp at hm; omega)
    refine gm_sz (gm_p_load (pc := 56) (i := .aload_n 0) (sr := 2) (j := 0) (by decide +kernel) rfl rfl rfl) ?_
    refine gm_c_virt (k := 1) (ci := 0) (mj := 64) (ix := 150) (pc := 57) (as := []) (st := []) (d' := d - 1) (bc' := 0) (bs' := 0) (by decide +kernel) (by decide +kernel) (by decide +kernel) (by decide +kernel) i1.1 i1.2 (by decide) (by decide +kernel) (show 0 = gm_na 64 by decide +kernel) fw_c0 (show 1 ≤ gm_ml 64 by decide +kernel) (Nat.le_of_ble_eq_true rfl) (by omega) (Nat.zero_le _) (Nat.zero_le _) ?_
    refine cl_64 (x := (g_law (M 2) (M 1 1)).2) (by omega) hE4 k6 k8 uR_at ((uR_ne (by omega)).trans r60) ((f6 248 3 (by omega)).trans m83) ?_
    have e249 : ∀ j, 0 ≤ j → j < 48 → M6 249 j = M2 218 j := fun j j0 j1 => (f6 249 j (by omega)).trans ((hD3 j j0 j1).trans ((uM_ne (by omega)).trans (uM_ne (by omega))))
    have e247 : ∀ j, 0 ≤ j → j < M2 215 4 → M6 247 j = M2 219 j := fun j j0 j1 => (f6 247 j (by omega)).trans ((hC3 j j0 (by omega)).trans ((uM_ne (by omega)).trans (uM_ne (by omega))))
    exact gm_r_int (pc := 60) (by decide +kernel) (Or.inl (by decide +kernel)) (hq (M2 215 4) K3 _ M6 hg (fun c hc => (hk3 c hc).trans (hk c hc)) (fun c j hc hn => (uR_ne (by omega)).trans ((hr3 c j hc).trans (hx.2 c j hc))) ⟨k6, k7, k8, k9⟩ ⟨uR_at, (uR_ne (by omega)).trans r60, (uR_ne (by omega)).trans r61, (uR_ne (by omega)).trans r82⟩ ⟨(f6 248 0 (by omega)).trans m80, (f6 248 1 (by omega)).trans m81, (f6 248 3 (by omega)).trans m83⟩ hu0 (fun h12 => cdl_same hcd h12 e249 e247) ht6 h6 h42 h15 ((f6 1 2 (by omega)).trans ((hm3 1 2 (by decide)).trans ((uM_ne (by omega)).trans uM_at))) ((f6 1 1 (by omega)).trans ((hm3 1 1 (by decide)).trans uM_at)) (fun c j hc hn => by unfold lwr kxw at hn; exact (f6 c j (by omega)).trans (w3 c j hc (by unfold kxw; omega) (by omega))))
  · show gm_Wp X LX d _ _ 123 12 (gm_ent 123 [gm_vr 1]) [gm_vi (g_law (M 2) (M 1 1)).2, gm_vr 1] 245 K2 R2 M2 Q
    have hv9 := b2 hg
    have hE2 : E0 245 K2 R2 := e0_x hF (Nat.le_refl _) hk hx.2
    have j1 := e0k hE2 (k := 1) (c := 0) (by decide +kernel)
    refine gm_sz (fw_pi (pc := 12) (ix := 17) (ci := 0) (j := 2) (M' := gm_uM M2 1 2 (g_law (M 2) (M 1 1)).2) (by decide +kernel) j1 (by decide +kernel) (by decide +kernel) (by decide +kernel) rfl) ?_
    refine gm_sz (gm_p_load (pc := 15) (i := .aload_n 0) (sr := 2) (j := 0) (by decide +kernel) rfl rfl rfl) ?_
    refine gm_sz (gm_p_const (pc := 16) (i := .iconst 0) (v := gm_vi 0) (by decide +kernel) (by decide +kernel)) ?_
    refine gm_sz (fw_pi (pc := 17) (ix := 13) (ci := 0) (j := 1) (M' := gm_uM (gm_uM M2 1 2 (g_law (M 2) (M 1 1)).2) 1 1 0) (by decide +kernel) j1 (by decide +kernel) (by decide +kernel) (by decide +kernel) rfl) ?_
    refine gm_sz (gm_p_load (pc := 20) (i := .aload_n 0) (sr := 2) (j := 0) (by decide +kernel) rfl rfl rfl) ?_
    refine gm_sz (fw_gi (pc := 21) (ix := 17) (ci := 0) (j := 2) (x := (g_law (M 2) (M 1 1)).2) (by decide +kernel) j1 (by decide +kernel) (by decide +kernel) ((uM_ne (by omega)).trans uM_at)) ?_
    refine gm_sz (gm_p_const (pc := 24) (i := .iconst (-1)) (v := gm_vi (-1)) (by decide +kernel) (by decide +kernel)) ?_
    refine fw_ic (cc := .eq) (pc := 25) (off := 13) (by decide +kernel) (by decide) ⟨by omega, by omega⟩ ⟨by decide, by decide⟩ (fun hp => ?_) (fun hp => ?_)
    · have hp : (g_law (M 2) (M 1 1)).2 = -1 := hp
      exact absurd hp (by omega)
    · exact gm_throw (ik := 121) (is := 140) (ic := 125) (x := 0) (id := 31) (lw := false) (by decide +kernel) (by decide +kernel) (by decide +kernel) (by decide +kernel) (by decide +kernel) (by decide +kernel) (by decide +kernel) (by decide +kernel) (Nat.le_of_ble_eq_true rfl) (by omega) (by omega) (by omega) (q0 _ _ _ hk hx.2 (fun c j hc h1 h2 => (uM_ne (by omega)).trans ((uM_ne (by omega)).trans (hx.1 c j hc h1))) hg ((uM_ne (by omega)).trans uM_at) uM_at)
end W3A
