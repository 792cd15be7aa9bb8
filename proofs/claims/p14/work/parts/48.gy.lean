/-! YEARS of the class: how many there may be is looked at as a difference, by hand. -/
def gy_C (N : Int) (F : ck_F) : ck_C := ([some (.inr (.inr (.inl 1))), some (.inl (ck_one N)), none, none], F, 0, .inl 1, true)
def gy_F (N : Int) (F : ck_F) : ck_F := (F.1, F.2.1, (3, 6, 6, (0, 299 - N, [(10, 0)])) :: F.2.2)
theorem gy_o : (p2_O.1 1 = some (4, 0) ∧ p2_O.1 3 = some (5, 0)) ∧ p2_O.2.1 1 ((3 : Nat) : Int) = some 3 := by decide +kernel
section GY
variable {X : Int → Int} {LX : Nat}
theorem gy_s {N : Int} {E : List (Nat × List ck_Sum)} {S : ck_Sum} {f mc ms : Nat} (hE : ck_nmu p2_O ∧ ck_OkE p2_O X LX E) (hN : 0 ≤ N ∧ N ≤ 50) (hn : S.2.1 = 245) (hmc : mc ≤ S.1.2.1) (hms : ms ≤ S.1.2.2) (hfi : ck_fi S.2.2.2.1 3 6 6 = some (0, 299, [(10, 0)]))
    (ha : (decide (S.2.2.1.length ≤ gm_ml 161) && ck_go p2_O none [] E 161 S.1.1 S.2.1 S.2.2.2.2.1 S.2.2.2.2.2 [(11, gy_C N S.2.2.2.1)] f false [(11, gy_C N S.2.2.2.1, mc, ms, 245)] S.1.2.1 S.1.2.2 0 (S.2.2.1.map some ++ List.replicate (gm_ml 161 - S.2.2.1.length) none) [] S.2.1 S.2.2.2.1) = true)
    (hb : ck_go p2_O none [] E 161 S.1.1 S.2.1 S.2.2.2.2.1 S.2.2.2.2.2 [] f true [] mc ms 26 (gy_C N S.2.2.2.1).1 [] 245 S.2.2.2.1 = true)
    (hc : ck_go p2_O none [] E 161 S.1.1 S.2.1 S.2.2.2.2.1 S.2.2.2.2.2 [] f true [] mc ms 37 (gy_C N S.2.2.2.1).1 [] 245 (gy_F N S.2.2.2.1) = true) : ck_Ok p2_O X LX 161 S := by
  refine ck_ok_st (cuts := [(11, gy_C N S.2.2.2.1)]) (by simp [ck_cu]) hE ha (fun h hm => ?_)
  rw [List.mem_singleton.mp hm]
  refine ⟨List.mem_singleton.mpr rfl, fun σ K0 R0 M0 v _ bc bs L K R M hb1 hb2 hS _ => ?_⟩
  refine gm_Wp_wk (Nat.le_refl _) hb1 hb2 ?_
  obtain ⟨hF, hl, hs, hf, hfr⟩ := id hS
  obtain ⟨u0, l0, g0⟩ := hl.2 0 (.inr (.inr (.inl 1))) rfl
  cases g0
  obtain ⟨u1, l1, x, rfl, -, e1, e2, -⟩ := hl.2 1 (.inl (ck_one N)) rfl
  have e1 : N ≤ x := e1
  have e2 : x ≤ N := e2
  have e3 : x = N := by omega
  subst e3
  obtain ⟨h6, h7⟩ := (ck_fi_s hf hfi).2 6 (Int.le_refl _) (Int.le_refl _)
  have h71 : (0 : Int) ≤ M 3 6 := h7.1
  have h72 : M 3 6 ≤ (299 : Int) := h7.2.1
  obtain ⟨k1, k2, k3⟩ := hF.1 1 _ gy_o.1.1
  obtain ⟨k4, k5, k6⟩ := hF.1 3 _ gy_o.1.2
  have r3 := (hF.2.1 1 _ _ gy_o.2).2
  refine gm_sz (gm_p_load (pc := 11) (i := .iload_n 1) (sr := 0) (j := 1) (by decide +kernel) rfl l1 rfl) ?_
  refine gm_sz (gm_p_const (pc := 12) (i := .sipush 299) (v := gm_vi 299) (by decide +kernel) (by decide +kernel)) ?_
  refine gm_sz (gm_p_load (pc := 15) (i := .aload_n 0) (sr := 2) (j := 0) (by decide +kernel) rfl l0 rfl) ?_
  refine gm_sz (gm_p_get (pc := 16) (ix := 23) (ci := 0) (j := 3) (by decide +kernel) ⟨k1, k2⟩ (by rw [k3]) (by decide +kernel)) ?_
  rw [if_pos (show gm_isr 0 3 = true by decide +kernel), r3]
  refine gm_sz (gm_p_get (pc := 19) (ix := 269) (ci := 1) (j := 6) (by decide +kernel) ⟨k4, k5⟩ (by rw [k6]) (by decide +kernel)) ?_
  rw [if_neg (show ¬ gm_isr 1 6 = true by decide +kernel)]
  refine gm_sz (gm_p_bin (pc := 22) (i := .isub) (f := fun x y => x - y) (by decide +kernel) rfl) ?_
  have h73 : M 3 ((6 : Nat) : Int) = M 3 6 := rfl
  refine gm_b_ic (cc := .le) (pc := 23) (off := 14) (by decide +kernel) (by decide) (fun hp => ?_) (fun _ => ?_)
  · rw [gm_cm_w ⟨by omega, by omega⟩ ⟨by omega, by omega⟩] at hp
    have hp : x ≤ 299 - M 3 6 := hp
    refine ck_go_s (σ0 := σ) (cuts := []) (by decide) hE ck_X0 ck_l0 f true [] mc ms 37 (gy_C x S.2.2.2.1).1 [] 245 (gy_F x S.2.2.2.1) σ L [] K R M (fun _ _ => rfl) (fun _ h => nomatch h) ⟨hF, hl, rfl, ⟨hf.1, hf.2.1, fun q hq => ?_⟩, hfr⟩ hc
    rcases List.mem_cons.mp hq with rfl | hq
    · refine ⟨by show (3 : Nat) ≤ 245; decide, fun j j1 j2 => ?_⟩
      have j1 : (6 : Int) ≤ j := j1
      have j2 : j ≤ (6 : Int) := j2
      have j3 : j = 6 := by omega
      subst j3
      exact ⟨h6, h71, by show M 3 6 ≤ 299 - x; omega, h7.2.2⟩
    · exact hf.2.2 q hq
  · exact ck_go_s (σ0 := σ) (cuts := []) (by decide) hE ck_X0 ck_l0 f true [] mc ms 26 _ [] 245 _ σ L [] K R M (fun _ _ => rfl) (fun _ h => nomatch h) ⟨hF, hl, rfl, hf, hfr⟩ hb
end GY
