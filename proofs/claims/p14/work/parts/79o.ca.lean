/-! A CALL, BY ITS ROW AND BY A JUDGEMENT OF ITS OWN that tells what it answers. -/
theorem dt_w {x y : Int} (h : Int32.ofInt x = Int32.ofInt y) : gm_w x = gm_w y := by
  have h2 := congrArg Int32.toInt h
  rwa [gm_w_toInt, gm_w_toInt] at h2
theorem dt_w6 {x y : Int} (h : Int64.ofInt x = Int64.ofInt y) : gm_w6 x = gm_w6 y := by
  have h2 := congrArg Int64.toInt h
  rwa [gm_w6_toInt, gm_w6_toInt] at h2
/-- a number of an array, of an object, told twice -/
theorem dt_a {n k len : Nat} {K1 K2 : gm_K} {M1 M2 : gm_M} {j : Int} (h : dt_m n K1 M1 K2 M2) (h1 : 1 ≤ k) (h2 : k ≤ n) (hK : K1 k = K2 k) (hk : K1 k = (0, len) ∨ K1 k = (1, len)) (j0 : 0 ≤ j) (j1 : j < (len : Int)) (i1 : gm_ir (M1 k j)) (i2 : gm_ir (M2 k j)) : M1 k j = M2 k j := by
  obtain ⟨i, rfl⟩ : ∃ i : Nat, j = (i : Int) := ⟨j.toNat, by omega⟩
  refine dt_i ((h k h1 h2 hK).1 ?_ i ?_) i1 i2
  · rcases hk with hk | hk <;> rw [hk]
    · exact Or.inl rfl
    · exact Or.inr rfl
  · rcases hk with hk | hk <;> rw [hk] <;> exact Int.ofNat_lt.mp j1
theorem dt_f {n k c j : Nat} {K1 K2 : gm_K} {M1 M2 : gm_M} (h : dt_m n K1 M1 K2 M2) (h1 : 1 ≤ k) (h2 : k ≤ n) (hK : K1 k = K2 k) (hk : (K1 k).1 = c + 4) (hj : j < gm_nf c) (hr : ¬ gm_isr c j = true) (i1 : gm_ir (M1 k (j : Int))) (i2 : gm_ir (M2 k (j : Int))) : M1 k (j : Int) = M2 k (j : Int) := dt_i ((h k h1 h2 hK).2.2 c j hk hj hr) i1 i2
section CAA
variable {X : Int → Int} {LX : Nat} {O : gm_Or} {g z g1 : Nat} {la : Nat → Nat} {K K' K1 : gm_K} {R R' : gm_R} {M M' M1 : gm_M} {S : ck_Sum}
/-- what the row says, what the judgement says, and all that comes behind -/
def bc_KA (X : Int → Int) (LX d bc bs mi pc : Nat) (L : gm_L) (st : List gm_V) (Q : gm_Q) (O : gm_Or) (z g1 g : Nat) (la : Nat → Nat) (K : gm_K) (M : gm_M) (S : ck_Sum) (Qf : gm_Q) : Prop := ∀ oc ∈ S.2.2.2.2.2, ∀ (σ : Nat → Int) (u : Option gm_V) (n' : Nat) (K' : gm_K) (R' : gm_R) (M' : gm_M), (∀ q ∈ O.2.2.nm, σ q.1 = bs_M la M q.2.1 q.2.2) → ck_ho σ oc.1 (.inl u) → ck_gf σ oc.2.2 n' K' R' M' → gm_Fx O n' K' R' M' → ck_fr S.2.2.2.2.1 (245 + 4 * g1) (bs_K la K) (bs_R z g1) (bs_M la M) n' K' R' M' → ∀ (o2 : gm_O) (n2 : Nat) (Ka : gm_K) (Ra : gm_R) (Ma : gm_M), Qf o2 n2 Ka Ra Ma → dt_o (.inl u) o2 → dt_m (245 + 4 * g1) K' M' Ka Ma → ∀ g' la' K2 R2 M2, bg g' la' K2 R2 M2 → g' ≤ g + 1 → (∀ k j, k ≤ 245 → M2 k j = M' k j) → gm_Wp X LX d bc bs mi pc L (u.toList ++ st) (245 + 4 * g') K2 R2 M2 Q
theorem bc_ownA {d bc bs mi pc mj d' bc' bs' : Nat} {L : gm_L} {st : List gm_V} {Q Qf : gm_Q} {vs : List gm_V} (hb : bg g la K R M) (hz : bs_ok la z g1) (hg : g < 10000) (hnm : ck_nmu O) (hO : ∀ n K R M, gm_Fx O n K R M → gm_Fx p2_O n K R M) (hF : gm_Fx O (245 + 4 * g1) (bs_K la K) (bs_R z g1) (bs_M la M)) (hS : ck_Ok O X LX mj S) (hck : bc_ok O z g1 S = true) (h1 : S.1.1 ≤ d') (h2 : S.1.2.1 ≤ bc') (h3 : S.1.2.2 ≤ bs') (hvs : ∀ σ, ck_gas σ S.2.2.1 vs) (hf : gm_Wp X LX d' bc' bs' mj 0 (gm_ent mj vs) [] (245 + 4 * g1) (bs_K la K) (bs_R z g1) (bs_M la M) Qf) (k : bc_KA X LX d bc bs mi pc L st Q O z g1 g la K M S Qf) : gm_Wp X LX d' bc' bs' mj 0 (gm_ent mj vs) [] (245 + 4 * g1) (bs_K la K) (bs_R z g1) (bs_M la M) (gm_owe X LX d bc bs mi pc L st (bg_rho (la 3)) (bg_f la) (245 + 4 * g1) (245 + 4 * g) K R M Q) := by
  have hck2 := hck
  simp only [bc_ok, Bool.and_eq_true, decide_eq_true_eq] at hck2
  have hσ := ck_sn_s (σ := fun _ => 0) (M := bs_M la M) hnm
  refine gm_Wp_mono (fun o n' K' R' M' hq => ?_) (gm_Wp_and (gm_Wp_wk (Nat.le_refl _) h2 h3 (hS d' (ck_sn O (fun _ => 0) (bs_M la M)) vs _ _ _ _ h1 hck2.1.symm (hvs _) hσ hF (bc_f_s hck2.2.1 hF (by omega) hσ))) hf)
  obtain ⟨hq, o2, n2, Ka, Ra, Ma, hqf, hdo, hdm⟩ := hq
  obtain ⟨hrt, oc, hoc, u, rfl, hu, ho, hf⟩ := bc_rt hck hz hO hq
  exact bg_owe hb hz hg hrt hu (fun g' la' K2 R2 M2 hb2 hg2 hM2 => k oc hoc _ u n' K' R' M' hσ ho hf hq.1 hq.2.1 o2 n2 Ka Ra Ma hqf hdo hdm g' la' K2 R2 M2 hb2 hg2 hM2)
/-- a call on the object k1 itself -/
theorem bc_virtA {ix mj k1 ci mi pc d bc bs d' bc' bs' : Nat} {L : gm_L} {st : List gm_V} {Q Qf : gm_Q} {xs : List Int} (hb : bg g la K R M) (hz : bs_ok la z g1) (hg : g < 10000) (hnm : ck_nmu O) (hO : ∀ n K R M, gm_Fx O n K R M → gm_Fx p2_O n K R M) (hF : gm_Fx O (245 + 4 * g1) (bs_K la K) (bs_R z g1) (bs_M la M)) (hk1 : 1 ≤ k1 ∧ k1 ≤ 245) (hK1 : (K k1).1 = ci + 4) (h : gm_at mi pc = some (.invokevirtual ix)) (hc : gm_cal (gm_ow mi) ix = some (0, mj)) (hmx : gm_ow mj ≠ gm_mxi) (hci : ci < 12) (hcn : gm_cn ci = (gm_mn mj).cls) (hna : xs.length = gm_na mj) (hlen : xs.length + 1 ≤ gm_ml mj) (hst : (st.map gm_cat).sum ≤ 8) (hS : ck_Ok O X LX mj S) (hck : bc_ok O z g1 S = true) (h1 : S.1.1 ≤ d') (h2 : S.1.2.1 ≤ bc') (h3 : S.1.2.2 ≤ bs') (hd : d' + 1 ≤ d) (hb1 : bc' ≤ bc) (hb2 : bs' ≤ bs) (hvs : ∀ σ, ck_gas σ S.2.2.1 (gm_vr k1 :: xs.map gm_vi)) (hf : gm_Wp X LX d' bc' bs' mj 0 (gm_ent mj (gm_vr k1 :: xs.map gm_vi)) [] (245 + 4 * g1) (bs_K la K) (bs_R z g1) (bs_M la M) Qf) (k : bc_KA X LX d (bc - bc') (bs - bs') mi (pc + 3) L st Q O z g1 g la K M S Qf) : gm_Wp X LX d bc bs mi pc L ((xs.map gm_vi).reverse ++ gm_vr k1 :: st) (245 + 4 * g) K R M Q := by
  have er : bg_rho (la 3) k1 = k1 := by unfold bg_rho; rw [if_pos (by omega)]
  have := gm_c_virtS (k1 := k1) (as := xs.map gm_vi) (d' := d') (bc' := bc') (bs' := bs') (fun ti α => bg_sbw hb hz ti α) (fun i j a b c d e => bc_hin hz i j a b c d e) (bs_Rv hz) ⟨hk1.1, by omega⟩ (show (bs_K la K k1).1 = ci + 4 by unfold bs_K; rw [er]; exact hK1) h hc hmx hci hcn (by rw [List.length_map]; exact hna) (fun v hv => by obtain ⟨x, -, rfl⟩ := List.mem_map.mp hv; exact ⟨x, rfl⟩) (by rw [List.length_map]; exact hlen) hst hd hb1 hb2 (bc_ownA hb hz hg hnm hO hF hS hck h1 h2 h3 hvs hf k)
  rw [er] at this
  exact this
end CAA
/-! A TAPE'S BYTES beyond its end are nobody's. -/
theorem nM_at {D : va_G} {ti : Nat → ClassId} {α : Nat → Nat} {k a c len : Nat} {K : gm_K} {R : gm_R} {M M' : gm_M} {H : Heap} (hc : K c = (1, len)) (h : ∀ k j, ¬ k = c → M' k j = M k j) (h2 : ∀ j : Nat, j < len → M' c (j : Int) = M c (j : Int)) (hat : va_at D gm_cs (a, gm_en ti α K R M k) H) : va_at D gm_cs (a, gm_en ti α K R M' k) H := by
  by_cases e : k = c
  · subst e
    have e1 : ∀ M : gm_M, gm_en ti α K R M k = .inl (ti 1, len, .inl fun j => Int32.ofInt (M k j)) := fun M => by unfold gm_en; rw [hc]
    rw [e1] at hat ⊢
    have hat : H[a]? = some (arrV (ti 1) len (fun j => .int (Int32.ofInt (M k (j : Int))))) := hat
    show H[a]? = some (arrV (ti 1) len (fun j => .int (Int32.ofInt (M' k (j : Int)))))
    rw [hat]
    unfold arrV
    congr 3
    funext j
    show Value.int (Int32.ofInt (M k ((j.val : Nat) : Int))) = Value.int (Int32.ofInt (M' k ((j.val : Nat) : Int)))
    rw [h2 j.val j.isLt]
  · have e2 : gm_en ti α K R M' k = gm_en ti α K R M k := bg_en rfl (fun j => h k j e) (fun _ => rfl)
    rw [e2]
    exact hat
theorem gm_Wp_nM {X : Int → Int} {LX d bc bs mi pc n c len : Nat} {L : gm_L} {st : List gm_V} {K : gm_K} {R : gm_R} {M M' : gm_M} {Q : gm_Q} (hc : K c = (1, len)) (h : ∀ k j, ¬ k = c → M' k j = M k j) (h0 : ∀ j : Nat, j < len → M' c (j : Int) = M c (j : Int)) (hw : gm_Wp X LX d bc bs mi pc L st n K R M' Q) : gm_Wp X LX d bc bs mi pc L st n K R M Q := by
  intro p l e Rm s m args below meth c9 D ti adK adV A α0 n0 mc ms h1 h2 h3 h4 h5 h6 h7 α H locs cells slots ls sv h8 h9 h10 hR h12 h13
  refine hw p l e Rm s m args below meth c9 D ti adK adV A α0 n0 mc ms h1 h2 h3 h4 h5 h6 h7 α H locs cells slots ls sv h8 h9 h10 ?_ h12 h13
  obtain ⟨a1, a2, a3, a4, a5⟩ := hR
  refine ⟨a1, fun k q hq => ?_, ⟨fun i j p q hp hq e => ?_, fun k q hq => ?_⟩, a4, a5⟩
  · obtain ⟨b1, rfl⟩ := gm_wl_get hq
    exact nM_at hc h h0 (a2 k _ (gm_wl_at (k := k + 1) (by omega) b1))
  · obtain ⟨b1, rfl⟩ := gm_wl_get hp
    obtain ⟨c1, rfl⟩ := gm_wl_get hq
    exact a3.1 i j _ _ (gm_wl_at (k := i + 1) (by omega) b1) (gm_wl_at (k := j + 1) (by omega) c1) e
  · obtain ⟨b1, rfl⟩ := gm_wl_get hq
    have := a3.2 k _ (gm_wl_at (ti := ti) (α := α) (K := K) (R := R) (M := M) (k := k + 1) (by omega) b1)
    exact this
theorem nM_ty : (p2_O.2.2.ty 231).all (fun r => decide (0 ≤ r.1 ∧ r.2.1 ≤ 399)) = true := by decide +kernel
theorem nM_Fx {n : Nat} {K : gm_K} {R : gm_R} {M M' : gm_M} (hF : gm_Fx p2_O n K R M) (h : ∀ k j, ¬ k = 231 → M' k j = M k j) (h0 : ∀ j, 0 ≤ j → j ≤ 399 → M' 231 j = M 231 j) : gm_Fx p2_O n K R M' := by
  refine ⟨hF.1, hF.2.1, fun k r hr => ?_, hF.2.2.2.1, ?_⟩
  · obtain ⟨a, b⟩ := hF.2.2.1 k r hr
    refine ⟨a, fun j j1 j2 => ?_⟩
    have e : M' k j = M k j := by
      by_cases hk : k = 231
      · subst hk
        have := of_decide_eq_true (List.all_eq_true.mp nM_ty r hr)
        exact h0 j (by omega) (by omega)
      · exact h k j hk
    rw [e]
    exact b j j1 j2
  · refine p2_O.2.2.hJ K K M M' (fun _ _ _ => rfl) (fun k r hr j j1 j2 => h k j (fun hk => ?_)) hF.2.2.2.2
    subst hk
    have hr : r ∈ j_fp 231 := hr
    rw [show j_fp 231 = [] by unfold j_fp; rw [if_neg (by decide), if_neg (by decide), if_neg (by decide), if_neg (by decide)]] at hr
    cases hr
