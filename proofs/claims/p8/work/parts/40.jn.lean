/-! PUTTING TOGETHER by hand: stops; the reference's flowAt where it reads one cell twice. -/
noncomputable def ck_O0 : gm_Or := (fun _ => none, fun _ _ => none, ⟨(fun _ => [], fun _ => [], fun _ _ => True, [], none), fun _ _ _ _ _ _ h => h, fun _ h => nomatch h⟩)
theorem ck_F0 {n : Nat} {K : gm_K} {R : gm_R} {M : gm_M} : gm_Fx ck_O0 n K R M := ⟨fun _ _ h => (nomatch h), fun _ _ _ h => (nomatch h), fun _ _ h => (nomatch h), fun _ _ h => (nomatch h), trivial⟩
section JN
variable {O : gm_Or} {X : Int → Int} {LX : Nat} {E : List (Nat × List ck_Sum)} {mi d n0 : Nat} {W : List (Nat × Int × Int) × List (Nat × Int)} {outs : List ck_Oc} {bc bs pc : Nat} {L : gm_L} {n : Nat} {K : gm_K} {R : gm_R} {M : gm_M} {AL : ck_AL} {F : ck_F} {σ : Nat → Int} {K0 : gm_K} {R0 : gm_R} {M0 : gm_M} {Q : gm_Q}
/-- a method walked up to stops -/
theorem ck_ok_st {cuts : List (Nat × ck_C)} {f : Nat} {S : ck_Sum} {ch : List ck_H} (hcu : ck_cu cuts = true) (hE : ck_nmu O ∧ ck_OkE O X LX E) (h : (decide (S.2.2.1.length ≤ gm_ml mi) && ck_go O none [] E mi S.1.1 S.2.1 S.2.2.2.2.1 S.2.2.2.2.2 cuts f false ch S.1.2.1 S.1.2.2 0 (S.2.2.1.map some ++ List.replicate (gm_ml mi - S.2.2.1.length) none) [] S.2.1 S.2.2.2.1) = true)
    (hch : ∀ h ∈ ch, (h.1, h.2.1) ∈ cuts ∧ ∀ (σ : Nat → Int) (K0 : gm_K) (R0 : gm_R) (M0 : gm_M), ck_Hy O X LX mi S.1.1 S.2.2.2.2.1 S.2.1 K0 R0 M0 (ck_Q O σ S.2.2.2.2.1 S.2.1 K0 R0 M0 S.2.2.2.2.2) σ h) : ck_Ok O X LX mi S := by
  intro d σ vs n K R M hd hn hvs _ hF hf
  simp only [Bool.and_eq_true, decide_eq_true_eq] at h
  obtain ⟨h2, h3⟩ := h
  subst hn
  obtain ⟨g1, g2⟩ := ck_ent hvs
  refine gm_Wp_wk hd (Nat.le_refl _) (Nat.le_refl _) (ck_go_s (σ0 := σ) hcu hE ck_X0 ck_l0 f false ch _ _ 0 _ [] _ _ σ _ [] K R M (fun _ _ => rfl) (fun z hz => ⟨(hch z hz).1, (hch z hz).2 σ K R M⟩) ⟨hF, ⟨?_, fun j b hb => ?_⟩, rfl, hf, ck_fr_0⟩ h3)
  · unfold gm_ent
    simp [g1]
  · unfold gm_ent
    rw [List.getElem?_append] at hb ⊢
    simp only [List.length_map] at hb ⊢
    split at hb
    · rename_i e
      rw [if_pos (by rw [← g1]; exact e)]
      rw [List.getElem?_map] at hb ⊢
      cases hq : S.2.2.1[j]? with
      | none => rw [hq] at hb; cases hb
      | some b' =>
        rw [hq] at hb
        cases hb
        obtain ⟨u, h4, h5⟩ := g2 j b hq
        exact ⟨u, by rw [h4]; rfl, h5⟩
    · exfalso
      have := List.mem_of_getElem? hb
      rw [List.mem_replicate] at this
      cases this.2
/-- flowAt of the reference, from its first look at the row to the second -/
theorem ck_flow {k fl : Nat} {t : Int} (hF : gm_Fx O n K R M) (hkk : O.1 k = some (15, 0)) (hfl : O.2.1 k 25 = some fl) (hfk : O.1 fl = some (1, 29700)) (h0 : L[0]? = some (some (gm_vr k))) (h4 : L[4]? = some (some (gm_vi t))) (ht : 0 ≤ t ∧ t < 29700) (hM : 0 ≤ M fl t ∧ M fl t ≤ 127) (hr : 0 < M fl t → Q (.inl (some (gm_vi (M fl t - 1)))) n K R M) (h34 : gm_Wp X LX d bc bs 292 34 L [] n K R M Q) : gm_Wp X LX d bc bs 292 14 L [] n K R M Q := by
  have hK1 := hF.1 k _ hkk
  have hK2 := hF.1 fl _ hfk
  have hR := (hF.2.1 k _ fl hfl).2
  have hw : gm_w t = t := gm_w_id (by omega) (by omega)
  have hkd : (K k).1 = 11 + 4 := by rw [hK1.2.2]
  have hfd : (K fl).1 = 1 := by rw [hK2.2.2]
  have hfi : 0 ≤ gm_w t ∧ gm_w t < (K fl).2 := by rw [hw, hK2.2.2]; exact ht
  have hif : (if gm_isr 11 25 = true then gm_vr (R k ((25 : Nat) : Int)) else gm_vi (M k ((25 : Nat) : Int))) = gm_vr fl := by
    rw [if_pos (by decide +kernel)]
    exact congrArg gm_vr hR
  refine gm_sp (gm_p_load (i := .aload_n 0) (sr := 2) (j := 0) (by decide +kernel) (by decide +kernel) h0 rfl) (Nat.zero_le _) (Nat.zero_le _) ?_
  refine gm_sp (pc' := 18) (gm_p_get (pc := 15) (ix := 42) (ci := 11) (j := 25) (by decide +kernel) ⟨hK1.1, hK1.2.1⟩ hkd (by decide +kernel)) (Nat.zero_le _) (Nat.zero_le _) ?_
  rw [hif]
  refine gm_sp (gm_p_load (i := .iload 4) (sr := 0) (j := 4) (by decide +kernel) (by decide +kernel) h4 rfl) (Nat.zero_le _) (Nat.zero_le _) ?_
  refine gm_sp (pc' := 21) (gm_p_bald (pc := 20) (by decide +kernel) ⟨hK2.1, hK2.2.1⟩ hfd hfi) (Nat.zero_le _) (Nat.zero_le _) ?_
  rw [hw]
  refine gm_b_if (cc := .le) (off := 13) (by decide +kernel) (by decide) (fun _ => h34) (fun hp => ?_)
  have hp : 0 < M fl t := by
    rw [gm_cm_w ⟨by omega, by omega⟩ ⟨by omega, by omega⟩] at hp
    have hp : ¬ M fl t ≤ 0 := hp
    omega
  refine gm_sp (pc' := 25) (gm_p_load (pc := 24) (i := .aload_n 0) (sr := 2) (j := 0) (by decide +kernel) (by decide +kernel) h0 rfl) (Nat.zero_le _) (Nat.zero_le _) ?_
  refine gm_sp (pc' := 28) (gm_p_get (pc := 25) (ix := 42) (ci := 11) (j := 25) (by decide +kernel) ⟨hK1.1, hK1.2.1⟩ hkd (by decide +kernel)) (Nat.zero_le _) (Nat.zero_le _) ?_
  rw [hif]
  refine gm_sp (pc' := 30) (gm_p_load (pc := 28) (i := .iload 4) (sr := 0) (j := 4) (by decide +kernel) (by decide +kernel) h4 rfl) (Nat.zero_le _) (Nat.zero_le _) ?_
  refine gm_sp (pc' := 31) (gm_p_bald (pc := 30) (by decide +kernel) ⟨hK2.1, hK2.2.1⟩ hfd hfi) (Nat.zero_le _) (Nat.zero_le _) ?_
  rw [hw]
  refine gm_sp (pc' := 32) (gm_p_const (pc := 31) (i := .iconst 1) (v := gm_vi 1) (by decide +kernel) rfl) (Nat.zero_le _) (Nat.zero_le _) ?_
  refine gm_sp (pc' := 33) (gm_p_bin (pc := 32) (i := .isub) (f := fun x y => x - y) (by decide +kernel) rfl) (Nat.zero_le _) (Nat.zero_le _) ?_
  exact gm_r_int (by decide +kernel) (Or.inl (by decide +kernel)) (hr hp)
end JN
