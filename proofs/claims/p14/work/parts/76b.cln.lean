/-! AN ARRAY OF NUMBERS CLONED, and cast to what it is: Arrays.copyOf. -/
set_option maxRecDepth 100000 in
theorem gm_clw1 : Jvm.Cond.methodLink (gm_rn 5) 316 ⟨"[I", "clone", "()Ljava/lang/Object;"⟩ ∈ gm_T := gm_T_in (i := 1174) (by decide +kernel) rfl
set_option maxRecDepth 100000 in
theorem gm_clw2 : Jvm.Cond.sameMethod "[I" "java/lang/Object" "clone" "()Ljava/lang/Object;" ∈ gm_T := gm_T_in (i := 1175) (by decide +kernel) rfl
set_option maxRecDepth 100000 in
theorem gm_clw3 : Jvm.Cond.native ⟨"java/lang/Object", "clone", "()Ljava/lang/Object;"⟩ ∈ gm_T := gm_T_in (i := 1176) (by decide +kernel) rfl
set_option maxRecDepth 100000 in
theorem gm_clw4 : Jvm.Cond.instanceMethod ⟨"java/lang/Object", "clone", "()Ljava/lang/Object;"⟩ ∈ gm_T := gm_T_in (i := 1177) (by decide +kernel) rfl
set_option maxRecDepth 100000 in
theorem gm_clw5 : Jvm.Cond.selects "[I" ⟨"[I", "clone", "()Ljava/lang/Object;"⟩ ⟨"java/lang/Object", "clone", "()Ljava/lang/Object;"⟩ ∈ gm_T := gm_T_in (i := 1178) (by decide +kernel) rfl
set_option maxRecDepth 100000 in
theorem gm_clw6 : Jvm.Cond.classLink (gm_rn 5) 317 "[I" ∈ gm_T := gm_T_in (i := 1180) (by decide +kernel) rfl
/-- the clone's numbers -/
def gm_clM (M : gm_M) (n k : Nat) : gm_M := fun a b => if a = n + 1 then M k b else M a b
theorem gm_wl_clone {ti : Nat → ClassId} {α : Nat → Nat} {n q k len : Nat} {K : gm_K} {R : gm_R} {M : gm_M} (hn : n + 1 < 100000) (hR : gm_Rv n R) : gm_wl ti α n K R M ++ [(q, .inl (ti 0, len, .inl fun j => Int32.ofInt (M k j)))] = gm_wl ti (gm_al α n q) (n + 1) (gm_nK K n 0 len) (gm_nR R n) (gm_clM M n k) := by
  have hold : gm_wl ti α n K R M = gm_wl ti (gm_al α n q) n (gm_nK K n 0 len) (gm_nR R n) (gm_clM M n k) := by
    refine gm_wl_ext fun k' h1 h2 => ⟨by simp [gm_al]; omega, ?_⟩
    have eK : gm_nK K n 0 len k' = K k' := by simp [gm_nK]; omega
    have eM : gm_clM M n k k' = M k' := by funext b; simp [gm_clM]; omega
    have eR : gm_nR R n k' = R k' := by funext b; simp [gm_nR]; omega
    have e1 : ∀ j, gm_rf (gm_al α n q) (R k' j) = gm_rf α (R k' j) := fun j => gm_rf_ext (gm_al_xt hn) (hR.2 k' j)
    have e2 : ∀ j, gm_ro (gm_al α n q) (R k' j) = gm_ro α (R k' j) := fun j => gm_ro_ext (gm_al_xt hn) (hR.2 k' j)
    unfold gm_en gm_fs
    rw [eK, eM, eR]
    simp only [e1, e2]
  have he : gm_en ti (gm_al α n q) (gm_nK K n 0 len) (gm_nR R n) (gm_clM M n k) (n + 1) = .inl (ti 0, len, .inl fun j => Int32.ofInt (M k j)) := by unfold gm_en; simp [gm_nK, gm_clM]
  rw [hold, ← he]
  unfold gm_wl
  rw [List.range_succ, List.map_append]
  simp [gm_al]
section CLN
variable {X : Int → Int} {LX d bc bs mi pc : Nat} {L : gm_L} {st : List gm_V} {n : Nat} {K : gm_K} {R : gm_R} {M : gm_M} {Q : gm_Q}
theorem gm_p_clone {k : Nat} (hn9 : n + 1 < 100000) (hmi : gm_ow mi = 5) (h : gm_at mi pc = some (.invokevirtual 316)) (hk : 1 ≤ k ∧ k ≤ n) (hK : (K k).1 = 0) (hst : (st.map gm_cat).sum ≤ 8) (hd' : 1 ≤ d) : gm_Sp X LX d mi pc L (gm_vr k :: st) n K R M (pc + 3) L (gm_vr (n + 1) :: st) (n + 1) (gm_nK K n 0 (K k).2) (gm_nR R n) (gm_clM M n k) 1 (K k).2 := by
  intro p l e Rm s m args below meth c D ti adK adV A hcx hev hd hd2 hA α H locs cells slots ls sv Q' hc1 hc2 hR hL hS k2
  obtain ⟨w1, sv, rfl, ⟨rfl, -⟩, hS⟩ := hS
  have hdg := gm_dec hcx h rfl
  obtain ⟨hx, hb, hml, hown, -, -, hts, -⟩ := id hcx
  rw [hmi] at hown
  obtain ⟨hKn, hP, hD, hSv, hRv⟩ := id hR
  have he := gm_wl_at (ti := ti) (α := α) (K := K) (R := R) (M := M) hk.1 hk.2
  have e1 : gm_en ti α K R M k = .inl (ti 0, (K k).2, .inl fun j => Int32.ofInt (M k j)) := by unfold gm_en; rw [hK]
  rw [e1] at he
  rw [gm_rf_pos hk.1 (Nat.lt_of_le_of_lt hk.2 hRv.1)]
  have hnm : s.vm.findClass "[I" = some (ti 0) := (hKn.2 0 _ rfl).2
  have hcat := gm_sum_eq hS
  refine va_clone hx hb (hml.trans hL.2.choose_spec.1.1.symm) hown (hts _ gm_clw1) (hts _ gm_clw2) (hts _ gm_clw3) (hts _ gm_clw4) (hts _ gm_clw5) hev.2.2.2.2.2.2.2.2.2.2.1 hKn hP hD hSv hA (k - 1) 0 he rfl hnm (va_fit fun i _ => rfl) (by omega) (by omega) hc1 hc2 hdg fun q H1 p0 p1 p2 p3 => ?_
  rw [gm_wl_clone hn9 hRv] at p1 p2
  exact k2 (gm_al α n q) H1 locs ls _ (gm_al_xt hn9) ⟨hKn, p1, p2, p3, gm_Rv_n hn9 hRv⟩ (gm_lr_ext (gm_al_xt hn9) hL) ⟨_, _, rfl, ⟨(gm_al_self hn9).symm, Or.inl (Nat.le_refl _)⟩, gm_sr_ext (gm_al_xt hn9) hS⟩
theorem gm_p_castA {k : Nat} (hmi : gm_ow mi = 5) (h : gm_at mi pc = some (.checkcast 317)) (hk : 1 ≤ k ∧ k ≤ n) (hK : (K k).1 = 0) : gm_Sp X LX d mi pc L (gm_vr k :: st) n K R M (pc + 3) L (gm_vr k :: st) n K R M 0 0 := by
  intro p l e Rm s m args below meth c D ti adK adV A hcx hev hd hd2 hA α H locs cells slots ls sv Q' hc1 hc2 hR hL hS k2
  obtain ⟨w1, sv, rfl, ⟨rfl, kk⟩, hS⟩ := hS
  have hdg := gm_dec hcx h rfl
  obtain ⟨hx, hb, hml, hown, -, -, hts, -⟩ := id hcx
  rw [hmi] at hown
  obtain ⟨hKn, hP, hD, hSv, hRv⟩ := id hR
  have he := gm_wl_at (ti := ti) (α := α) (K := K) (R := R) (M := M) hk.1 hk.2
  have e1 : gm_en ti α K R M k = .inl (ti 0, (K k).2, .inl fun j => Int32.ofInt (M k j)) := by unfold gm_en; rw [hK]
  rw [e1] at he
  have k3 := k2 α H locs ls _ gm_xt.rf hR hL ⟨_, _, rfl, ⟨rfl, kk⟩, hS⟩
  rw [gm_rf_pos hk.1 (Nat.lt_of_le_of_lt hk.2 hRv.1)] at k3 ⊢
  have hnm : s.vm.findClass "[I" = some (ti 0) := (hKn.2 0 _ rfl).2
  exact va_castA hx hb hown (hts _ gm_clw6) hP (k - 1) he hnm hdg k3
end CLN
