/-! The facts at the head, put together: laid by wip/am/p1e.py. -/
theorem p1_toF {σ : Nat → Int} {n : Nat} {K : gm_K} {R : gm_R} {M : gm_M} (hf : ck_gf σ p1_F1 n K R M) : ck_gf σ p1_F2 n K R M := by
  have hR : ck_gf σ ([], p1_R, []) n K R M := ck_leF_s ck_F0 hf p1_cR
  have h0 : ck_gf σ ([], [], p1_I0) n K R M := ck_leF_s ck_F0 hf p1_c0
  have h1 : ck_gf σ ([], [], p1_I1) n K R M := ck_leF_s ck_F0 hf p1_c1
  have h2 : ck_gf σ ([], [], p1_I2) n K R M := ck_leF_s ck_F0 hf p1_c2
  have h3 : ck_gf σ ([], [], p1_I3) n K R M := ck_leF_s ck_F0 hf p1_c3
  have h4 : ck_gf σ ([], [], p1_I4) n K R M := ck_leF_s ck_F0 hf p1_c4
  have h5 : ck_gf σ ([], [], p1_I5) n K R M := ck_leF_s ck_F0 hf p1_c5
  have h6 : ck_gf σ ([], [], p1_I6) n K R M := ck_leF_s ck_F0 hf p1_c6
  have h7 : ck_gf σ ([], [], p1_I7) n K R M := ck_leF_s ck_F0 hf p1_c7
  have g0 : ck_gf σ ([], [], p1_J0) n K R M := ck_leF_s ck_F0 hf p1_d0
  have g1 : ck_gf σ ([], [], p1_J1) n K R M := ck_leF_s ck_F0 hf p1_d1
  have hJ : ck_gf σ ([], [], p1_J0 ++ p1_J1) n K R M := ⟨(fun _ h => nomatch h), (fun _ h => nomatch h), List.forall_mem_append.mpr ⟨g0.2.2, g1.2.2⟩⟩
  have hB : ck_gf σ ([], [], p1_B) n K R M := ck_leF_s ck_F0 hJ p1_cB
  exact ⟨(fun _ h => nomatch h), hR.2.1, List.forall_mem_append.mpr ⟨h0.2.2, List.forall_mem_append.mpr ⟨h1.2.2, List.forall_mem_append.mpr ⟨h2.2.2, List.forall_mem_append.mpr ⟨h3.2.2, List.forall_mem_append.mpr ⟨h4.2.2, List.forall_mem_append.mpr ⟨h5.2.2, List.forall_mem_append.mpr ⟨h6.2.2, List.forall_mem_append.mpr ⟨h7.2.2, hB.2.2⟩⟩⟩⟩⟩⟩⟩⟩⟩
