/-! The law on one call, laid by wip/am/p1e.py. -/
section P1
variable {X : Int → Int} {LX : Nat} {σ : Nat → Int} {L : gm_L} {K K0 : gm_K} {R R0 : gm_R} {M M0 : gm_M}
theorem p1_st {F : ck_F} {pc : Nat} (h : ∀ (L : gm_L) (K : gm_K) (R : gm_R) (M : gm_M), ck_St p1_O σ p1_W 245 K0 R0 M0 p1_L [] F L [] 245 K R M → gm_Wp X LX 280 1000 2000 370 pc L [] 245 K R M (ck_Q p1_O σ p1_W 245 K0 R0 M0 p1_outs)) : ck_Hy p1_O X LX 370 280 p1_W 245 K0 R0 M0 (ck_Q p1_O σ p1_W 245 K0 R0 M0 p1_outs) σ (pc, (p1_L, F, 0, .inl 4, true), 1000, 2000, 245) := fun _ _ _ _ L K R M h1 h2 hS _ => gm_Wp_wk (Nat.le_refl _) h1 h2 (h L K R M hS)
theorem p1_chs (hLX : 6 = LX) (hX : ∀ j, gm_ir (X j)) : ∀ h ∈ p1_ch, p1_cuts.lookup h.1 = some h.2.1 ∧ ck_Hy p1_O X LX 370 280 p1_W 245 K0 R0 M0 (ck_Q p1_O σ p1_W 245 K0 R0 M0 p1_outs) σ h := by
  unfold p1_ch
  exact List.forall_mem_cons.mpr ⟨⟨rfl, p1_st (fun _ _ _ _ hS => p0_s hLX hX hS)⟩, List.forall_mem_cons.mpr ⟨⟨rfl, p1_st (fun _ _ _ _ hS => p1_s hLX hX hS)⟩, List.forall_mem_cons.mpr ⟨⟨rfl, p1_st (fun _ _ _ _ hS => p2_s hLX hX hS)⟩, List.forall_mem_cons.mpr ⟨⟨rfl, p1_st (fun _ _ _ _ hS => p3_s hLX hX hS)⟩, List.forall_mem_cons.mpr ⟨⟨rfl, p1_st (fun _ _ _ _ hS => p4_s hLX hX hS)⟩, List.forall_mem_cons.mpr ⟨⟨rfl, p1_st (fun _ _ _ _ hS => p5_s hLX hX hS)⟩, List.forall_mem_cons.mpr ⟨⟨rfl, p1_st (fun _ _ _ _ hS => p6_s hLX hX hS)⟩, List.forall_mem_cons.mpr ⟨⟨rfl, p1_st (fun _ _ _ _ hS => p7_s hLX hX hS)⟩, List.forall_mem_cons.mpr ⟨⟨rfl, p1_st (fun _ _ _ _ hS => p8_s hLX hX hS)⟩, List.forall_mem_cons.mpr ⟨⟨rfl, p1_st (fun _ _ _ _ hS => p9_s hLX hX hS)⟩, List.forall_mem_cons.mpr ⟨⟨rfl, p1_st (fun _ _ _ _ hS => p10_s hLX hX hS)⟩, List.forall_mem_cons.mpr ⟨⟨rfl, p1_st (fun _ _ _ _ hS => p11_s hLX hX hS)⟩, List.forall_mem_cons.mpr ⟨⟨rfl, p1_st (fun _ _ _ _ hS => p12_s hLX hX hS)⟩, List.forall_mem_cons.mpr ⟨⟨rfl, p1_st (fun _ _ _ _ hS => p13_s hLX hX hS)⟩, List.forall_mem_cons.mpr ⟨⟨rfl, p1_st (fun _ _ _ _ hS => p14_s hLX hX hS)⟩, List.forall_mem_cons.mpr ⟨⟨rfl, p1_st (fun _ _ _ _ hS => p15_s hLX hX hS)⟩, List.forall_mem_cons.mpr ⟨⟨rfl, p1_st (fun _ _ _ _ hS => p16_s hLX hX hS)⟩, List.forall_mem_cons.mpr ⟨⟨rfl, p1_st (fun _ _ _ _ hS => p17_s hLX hX hS)⟩, List.forall_mem_cons.mpr ⟨⟨rfl, p1_st (fun _ _ _ _ hS => p18_s hLX hX hS)⟩, List.forall_mem_cons.mpr ⟨⟨rfl, p1_st (fun _ _ _ _ hS => p19_s hLX hX hS)⟩, List.forall_mem_cons.mpr ⟨⟨rfl, p1_st (fun _ _ _ _ hS => p20_s hLX hX hS)⟩, List.forall_mem_cons.mpr ⟨⟨rfl, p1_st (fun _ _ _ _ hS => p21_s hLX hX hS)⟩, List.forall_mem_cons.mpr ⟨⟨rfl, p1_st (fun _ _ _ _ hS => p22_s hLX hX hS)⟩, List.forall_mem_cons.mpr ⟨⟨rfl, p1_st (fun _ _ _ _ hS => p23_s hLX hX hS)⟩, List.forall_mem_cons.mpr ⟨⟨rfl, p1_st (fun _ _ _ _ hS => p24_s hLX hX hS)⟩, List.forall_mem_cons.mpr ⟨⟨rfl, p1_st (fun _ _ _ _ hS => p25_s hLX hX hS)⟩, List.forall_mem_cons.mpr ⟨⟨rfl, p1_st (fun _ _ _ _ hS => p26_s hLX hX hS)⟩, List.forall_mem_cons.mpr ⟨⟨rfl, p1_st (fun _ _ _ _ hS => p27_s hLX hX hS)⟩, List.forall_mem_cons.mpr ⟨⟨rfl, p1_st (fun _ _ _ _ hS => p28_s hLX hX hS)⟩, List.forall_mem_cons.mpr ⟨⟨rfl, p1_st (fun _ _ _ _ hS => p29_s hLX hX hS)⟩, List.forall_mem_cons.mpr ⟨⟨rfl, p1_st (fun _ _ _ _ hS => p30_s hLX hX hS)⟩, List.forall_mem_cons.mpr ⟨⟨rfl, p1_st (fun _ _ _ _ hS => p31_s hLX hX hS)⟩, List.forall_mem_cons.mpr ⟨⟨rfl, p1_st (fun _ _ _ _ hS => p32_s hLX hX hS)⟩, List.forall_mem_cons.mpr ⟨⟨rfl, p1_st (fun _ _ _ _ hS => p33_s hLX hX hS)⟩, List.forall_mem_cons.mpr ⟨⟨rfl, p1_st (fun _ _ _ _ hS => p34_s hLX hX hS)⟩, List.forall_mem_cons.mpr ⟨⟨rfl, p1_st (fun _ _ _ _ hS => p35_s hLX hX hS)⟩, List.forall_mem_cons.mpr ⟨⟨rfl, p1_st (fun _ _ _ _ hS => p36_s hLX hX hS)⟩, List.forall_mem_cons.mpr ⟨⟨rfl, p1_st (fun _ _ _ _ hS => p37_s hLX hX hS)⟩, List.forall_mem_cons.mpr ⟨⟨rfl, p1_st (fun _ _ _ _ hS => p38_s hLX hX hS)⟩, List.forall_mem_cons.mpr ⟨⟨rfl, p1_st (fun _ _ _ _ hS => p39_s hLX hX hS)⟩, List.forall_mem_cons.mpr ⟨⟨rfl, p1_st (fun _ _ _ _ hS => p40_s hLX hX hS)⟩, List.forall_mem_cons.mpr ⟨⟨rfl, p1_st (fun _ _ _ _ hS => p41_s hLX hX hS)⟩, List.forall_mem_cons.mpr ⟨⟨rfl, p1_st (fun _ _ _ _ hS => p42_s hLX hX hS)⟩, List.forall_mem_cons.mpr ⟨⟨rfl, p1_st (fun _ _ _ _ hS => p43_s hLX hX hS)⟩, List.forall_mem_cons.mpr ⟨⟨rfl, p1_st (fun _ _ _ _ hS => p44_s hLX hX hS)⟩, List.forall_mem_cons.mpr ⟨⟨rfl, p1_st (fun _ _ _ _ hS => p45_s hLX hX hS)⟩, List.forall_mem_cons.mpr ⟨⟨rfl, p1_st (fun _ _ _ _ hS => p46_s hLX hX hS)⟩, fun _ h => nomatch h⟩⟩⟩⟩⟩⟩⟩⟩⟩⟩⟩⟩⟩⟩⟩⟩⟩⟩⟩⟩⟩⟩⟩⟩⟩⟩⟩⟩⟩⟩⟩⟩⟩⟩⟩⟩⟩⟩⟩⟩⟩⟩⟩⟩⟩⟩⟩
theorem p1_head (hLX : LX ≤ 6) (hX : ∀ j, gm_ir (X j)) (hS : ck_St p1_O σ p1_W 245 K0 R0 M0 p1_L [] p1_F2 L [] 245 K R M) : gm_Wp X LX 280 1000 2000 370 23 L [] 245 K R M (ck_Q p1_O σ p1_W 245 K0 R0 M0 p1_outs) := by
  by_cases h6 : LX = 6
  · exact ck_go_s (σ0 := σ) (cuts := p1_cuts) ck_E0 ck_X0 (fun l e => by cases e; exact h6.symm) 200 true p1_ch 1000 2000 23 p1_L [] 245 p1_F2 σ L [] K R M (fun _ _ => rfl) (fun h hm => p1_chs h6.symm hX h hm) hS p1_hd
  · exact ck_go_s (σ0 := σ) (cuts := []) ck_E0 ck_X0 (fun l e => by cases e; rfl) 60 true [] 1000 2000 23 p1_L [] 245 p1_F2 σ L [] K R M (fun _ _ => rfl) (fun _ h => nomatch h) hS (List.all_eq_true.mp p1_sh LX (List.mem_range.mpr (by omega)))
end P1
set_option maxRecDepth 100000 in
theorem p1_law : gm_Law := by
  intro X LX hLX hX
  refine gm_Wp_mono (Q := ck_Q ck_O0 (fun _ => 0) ([], []) 0 (fun _ => (0, 0)) (fun _ _ => 0) (fun _ _ => 0) p1_outs) (fun o n K R M hq => ?_) ?_
  · obtain ⟨-, -, oc, hm, ho, -⟩ := hq
    have h2 : oc.1 = .inr (some (.inl (ck_one 1))) := by
      unfold p1_outs at hm
      rcases List.mem_cons.mp hm with rfl | hm
      · rfl
      rcases List.mem_cons.mp hm with rfl | hm
      · rfl
      cases hm
    rw [h2] at ho
    match o, ho with
    | .inl (some v), ho =>
      obtain ⟨x, rfl, -, h3, h4, -⟩ := ho
      have h3 : (1 : Int) ≤ x := h3
      have h4 : x ≤ (1 : Int) := h4
      obtain rfl : x = 1 := by omega
      rfl
    | .inl none, ho => exact ho.elim
    | .inr y, ho => exact ho.elim
  · refine ck_to_s p1_E0h (fun L K R M hS => ?_) 60 600002 7302232 0 [some (.inr (.inr (.inr 2000))), none, none, none, none, none, none] [] 0 ([], [], []) _ [] _ _ _ ⟨ck_F0, ⟨rfl, fun j b hb => ?_⟩, rfl, ⟨(fun _ h => nomatch h), (fun _ h => nomatch h), (fun _ h => nomatch h)⟩, ck_fr_0⟩ p1_pre
    · obtain ⟨-, hl, -, hf, hfr⟩ := hS
      have hT : gm_Fx p1_O 245 K R M := ck_leT_s ck_F0 hf p1_toT
      have hf2 := p1_toF hf
      exact gm_Wp_mono (fun o n K' R' M' hq => ck_QJ (n1 := 245) ck_F0 hfr (by decide +kernel) (by decide +kernel) hq) (p1_head hLX hX ⟨hT, hl, rfl, hf2, ck_fr_0⟩)
    · rcases j with _ | _ | _ | _ | _ | _ | _ | j
      · cases hb
        exact ⟨gm_vo 2000, rfl, rfl⟩
      all_goals cases hb
