/-! CALLS THAT ONLY ASK, by their row and by a judgement that tells the answer. -/
/-- the class answers c (thrown, or, of its own methods, the answer); out[0] is told -/
noncomputable def CF (c : Int) (ov : Option Int) : gm_Q := fun o _ K1 _ M1 => K1 245 = (2, 1) ∧ o = .inl (some (gm_vi c)) ∧ ∀ v, ov = some v → M1 245 0 = gm_w v
/-- the reference throws c, answers v where it throws nothing -/
noncomputable def RF (c v : Int) : gm_Q := fun o _ K1 _ M1 => K1 226 = (15, 0) ∧ (∃ x, o = .inl (some (gm_vi x)) ∧ (c = 0 → x = v)) ∧ M1 226 0 = c
noncomputable def cF (c : Int) (ov : Option Int) (u : Option gm_V) (M2 : gm_M) : Prop := ∃ y, u = some (gm_vi y) ∧ gm_w y = gm_w c ∧ ∀ v, ov = some v → Int64.ofInt (M2 245 0) = Int64.ofInt (gm_w v)
noncomputable def rF9 (c v : Int) (M : gm_M) (u : Option gm_V) (M2 : gm_M) : Prop := ∃ y, u = some (gm_vi y) ∧ (c = 0 → gm_w y = gm_w v) ∧ gm_w (M2 226 0) = gm_w c ∧ M2 245 0 = M 245 0
section FX45
variable {X : Int → Int} {LX : Nat} {O : gm_Or} {g z g1 n0 ix mj : Nat} {la : Nat → Nat} {K K' K2 : gm_K} {R R' R2 : gm_R} {M M' M2 : gm_M} {L : gm_L} {st : List gm_V} {Q Qf : gm_Q} {N : Int → Int} {lw lw2 : Option (List lln)} {ls : List lln} {A : List (Int → Int)} {im : Option ((Int → Int) × Option (List lln))} {t w c v : Int} {f W : Int → Int} {bc bs pc : Nat} {S : ck_Sum} {l l0 l1 : List ck_Sum} {ds : List (Int × Int)} {xs : List Int} {ov : Option Int} {u : Option gm_V}
/-- what the judgement says beside the row -/
noncomputable def bF (Qf : gm_Q) (n0 : Nat) (u : Option gm_V) (K' : gm_K) (M' : gm_M) : Prop := ∃ (o2 : gm_O) (n2 : Nat) (Ka : gm_K) (Ra : gm_R) (Ma : gm_M), Qf o2 n2 Ka Ra Ma ∧ dt_o (.inl u) o2 ∧ dt_m n0 K' M' Ka Ma
noncomputable def bc_KF (X : Int → Int) (LX d bc bs mi pc : Nat) (L : gm_L) (st : List gm_V) (Q : gm_Q) (O : gm_Or) (z g1 g : Nat) (la : Nat → Nat) (K : gm_K) (M : gm_M) (S : ck_Sum) (Qf : gm_Q) : Prop := ∀ oc ∈ S.2.2.2.2.2, ∀ (σ : Nat → Int) (u : Option gm_V) (n' : Nat) (K' : gm_K) (R' : gm_R) (M' : gm_M), (∀ q ∈ O.2.2.nm, σ q.1 = bs_M la M q.2.1 q.2.2) → ck_ho σ oc.1 (.inl u) → ck_gf σ oc.2.2 n' K' R' M' → gm_Fx O n' K' R' M' → ck_fr S.2.2.2.2.1 (245 + 4 * g1) (bs_K la K) (bs_R z g1) (bs_M la M) n' K' R' M' → bF Qf (245 + 4 * g1) u K' M' → bg g (bg_la la g 0 R') (bg_K g K K') (bg_R g (bg_la la g 0 R')) (bg_M g M M') → gm_Wp X LX d bc bs mi pc L (u.toList ++ st) (245 + 4 * g) (bg_K g K K') (bg_R g (bg_la la g 0 R')) (bg_M g M M') Q
theorem bc_ownF {d bc bs mi pc mj d' bc' bs' : Nat} {vs : List gm_V} (hb : bg g la K R M) (hz : bs_ok la z g1) (hg : g < 10000) (hnm : ck_nmu O) (hO : ∀ n K R M, gm_Fx O n K R M → gm_Fx p2_O n K R M) (hF : gm_Fx O (245 + 4 * g1) (bs_K la K) (bs_R z g1) (bs_M la M)) (hS : ck_Ok O X LX mj S) (hck : bc_ok O z g1 S = true) (h1 : S.1.1 ≤ d') (h2 : S.1.2.1 ≤ bc') (h3 : S.1.2.2 ≤ bs') (hvs : ∀ σ, ck_gas σ S.2.2.1 vs) (hf : gm_Wp X LX d' bc' bs' mj 0 (gm_ent mj vs) [] (245 + 4 * g1) (bs_K la K) (bs_R z g1) (bs_M la M) Qf) (k : bc_KF X LX d bc bs mi pc L st Q O z g1 g la K M S Qf) : gm_Wp X LX d' bc' bs' mj 0 (gm_ent mj vs) [] (245 + 4 * g1) (bs_K la K) (bs_R z g1) (bs_M la M) (gm_owe X LX d bc bs mi pc L st (bg_rho (la 3)) (bg_f la) (245 + 4 * g1) (245 + 4 * g) K R M Q) := by
  have hck2 := hck
  simp only [bc_ok, Bool.and_eq_true, decide_eq_true_eq] at hck2
  have hσ := ck_sn_s (σ := fun _ => 0) (M := bs_M la M) hnm
  refine gm_Wp_mono (fun o n' K' R' M' hq => ?_) (gm_Wp_and (gm_Wp_wk (Nat.le_refl _) h2 h3 (hS d' (ck_sn O (fun _ => 0) (bs_M la M)) vs _ _ _ _ h1 hck2.1.symm (hvs _) hσ hF (bc_f_s hck2.2.1 hF (by omega) hσ))) hf)
  obtain ⟨hq, hex⟩ := hq
  obtain ⟨hrt, oc, hoc, u, rfl, hu, ho, hf⟩ := bc_rt hck hz hO hq
  exact bg_oweX (c := 0) hb hz hg hrt hu (fun hb2 => k oc hoc _ u n' K' R' M' hσ ho hf hq.1 hq.2.1 hex hb2)
theorem bc_virtF {ix mj k1 ci mi pc d bc bs d' bc' bs' : Nat} {xs : List Int} (hb : bg g la K R M) (hz : bs_ok la z g1) (hg : g < 10000) (hnm : ck_nmu O) (hO : ∀ n K R M, gm_Fx O n K R M → gm_Fx p2_O n K R M) (hF : gm_Fx O (245 + 4 * g1) (bs_K la K) (bs_R z g1) (bs_M la M)) (hk1 : 1 ≤ k1 ∧ k1 ≤ 245) (hK1 : (K k1).1 = ci + 4) (h : gm_at mi pc = some (.invokevirtual ix)) (hc : gm_cal (gm_ow mi) ix = some (0, mj)) (hmx : gm_ow mj ≠ gm_mxi) (hci : ci < 12) (hcn : gm_cn ci = (gm_mn mj).cls) (hna : xs.length = gm_na mj) (hlen : xs.length + 1 ≤ gm_ml mj) (hst : (st.map gm_cat).sum ≤ 8) (hS : ck_Ok O X LX mj S) (hck : bc_ok O z g1 S = true) (h1 : S.1.1 ≤ d') (h2 : S.1.2.1 ≤ bc') (h3 : S.1.2.2 ≤ bs') (hd : d' + 1 ≤ d) (hb1 : bc' ≤ bc) (hb2 : bs' ≤ bs) (hvs : ∀ σ, ck_gas σ S.2.2.1 (gm_vr k1 :: xs.map gm_vi)) (hf : gm_Wp X LX d' bc' bs' mj 0 (gm_ent mj (gm_vr k1 :: xs.map gm_vi)) [] (245 + 4 * g1) (bs_K la K) (bs_R z g1) (bs_M la M) Qf) (k : bc_KF X LX d (bc - bc') (bs - bs') mi (pc + 3) L st Q O z g1 g la K M S Qf) : gm_Wp X LX d bc bs mi pc L ((xs.map gm_vi).reverse ++ gm_vr k1 :: st) (245 + 4 * g) K R M Q := by
  have er : bg_rho (la 3) k1 = k1 := by unfold bg_rho; rw [if_pos (by omega)]
  have := gm_c_virtS (k1 := k1) (as := xs.map gm_vi) (d' := d') (bc' := bc') (bs' := bs') (fun ti α => bg_sbw hb hz ti α) (fun i j a b c d e => bc_hin hz i j a b c d e) (bs_Rv hz) ⟨hk1.1, by omega⟩ (show (bs_K la K k1).1 = ci + 4 by unfold bs_K; rw [er]; exact hK1) h hc hmx hci hcn (by rw [List.length_map]; exact hna) (fun v hv => by obtain ⟨x, -, rfl⟩ := List.mem_map.mp hv; exact ⟨x, rfl⟩) (by rw [List.length_map]; exact hlen) hst hd hb1 hb2 (bc_ownF hb hz hg hnm hO hF hS hck h1 h2 h3 hvs hf k)
  rw [er] at this
  exact this
theorem bc_statF {ix mj mi pc d bc bs d' bc' bs' : Nat} {xs : List Int} (hb : bg g la K R M) (hz : bs_ok la z g1) (hg : g < 10000) (hnm : ck_nmu O) (hO : ∀ n K R M, gm_Fx O n K R M → gm_Fx p2_O n K R M) (hF : gm_Fx O (245 + 4 * g1) (bs_K la K) (bs_R z g1) (bs_M la M)) (h : gm_at mi pc = some (.invokestatic ix)) (hc : gm_cal (gm_ow mi) ix = some (5, mj)) (hmx : gm_ow mj ≠ gm_mxi) (hhj : ¬ gm_hh mj = []) (hna : xs.length + 2 = gm_na mj) (hlen : xs.length + 2 ≤ gm_ml mj) (hst : (st.map gm_cat).sum ≤ 8) (hS : ck_Ok O X LX mj S) (hck : bc_ok O z g1 S = true) (h1 : S.1.1 ≤ d') (h2 : S.1.2.1 ≤ bc') (h3 : S.1.2.2 ≤ bs') (hd : d' + 1 ≤ d) (hb1 : bc' ≤ bc) (hb2 : bs' ≤ bs) (hvs : ∀ σ, ck_gas σ S.2.2.1 (gm_vr 1 :: bc_as xs true)) (hf : gm_Wp X LX d' bc' bs' mj 0 (gm_ent mj (gm_vr 1 :: bc_as xs true)) [] (245 + 4 * g1) (bs_K la K) (bs_R z g1) (bs_M la M) Qf) (k : bc_KF X LX d (bc - bc') (bs - bs') mi (pc + 3) L st Q O z g1 g la K M S Qf) : gm_Wp X LX d bc bs mi pc L (gm_vr 245 :: ((xs.map gm_vi).reverse ++ gm_vr 1 :: st)) (245 + 4 * g) K R M Q := by
  have hl : (gm_vr 1 :: bc_as xs true).length = xs.length + 2 := by simp [bc_as]
  have := gm_c_statS (as1 := gm_vr 1 :: bc_as xs true) (as := gm_vr 1 :: bc_as xs true) (d' := d') (bc' := bc') (bs' := bs') (st := st) (fun ti α => bg_sbw hb hz ti α) (fun i j a b c d e => bc_hin hz i j a b c d e) (bs_Rv hz) (bc_arX xs (by omega)) h hc hmx hhj (by rw [hl]; exact hna) (by rw [hl]; exact hlen) hst hd hb1 hb2 (bc_ownF hb hz hg hnm hO hF hS hck h1 h2 h3 hvs hf k)
  rw [show (gm_vr 1 :: bc_as xs true).reverse ++ st = gm_vr 245 :: ((xs.map gm_vi).reverse ++ gm_vr 1 :: st) by simp [bc_as]] at this
  exact this
theorem cF_of (hE : bF (CF c ov) n0 u K' M') (hn : 245 ≤ n0) (hK : K' 245 = (2, 1)) (hu : mn_u true u) : cF c ov u (bg_M g M M') := by
  obtain ⟨o2, n2, Ka, Ra, Ma, ⟨a1, rfl, a2⟩, hdo, hdm⟩ := hE
  obtain ⟨y, rfl⟩ : ∃ y, u = some (gm_vi y) := hu
  refine ⟨y, rfl, dt_w hdo, fun v hv => ?_⟩
  rw [bg_Ms (by decide), ← a2 v hv]
  exact (hdm 245 (by decide) hn (hK.trans a1.symm)).2.1 (by rw [hK]) 0 (by rw [hK]; decide)
theorem rF_of (hE : bF (RF c v) n0 u K' M') (hn : 245 ≤ n0) (hK : K' 226 = (15, 0)) (hu : mn_u true u) (h5 : M' 245 0 = M 245 0) : rF9 c v M u (bg_M g M M') := by
  obtain ⟨o2, n2, Ka, Ra, Ma, ⟨a1, ⟨x, rfl, hx⟩, a2⟩, hdo, hdm⟩ := hE
  obtain ⟨y, rfl⟩ : ∃ y, u = some (gm_vi y) := hu
  refine ⟨y, rfl, fun hc => (dt_w hdo).trans (by rw [hx hc]), ?_, (bg_Ms (by decide) _).trans h5⟩
  rw [bg_Ms (by decide), ← a2]
  exact dt_w ((hdm 226 (by decide) (by omega) (hK.trans a1.symm)).2.2 11 0 (by rw [hK]) (by decide +kernel) (by decide +kernel))
theorem w_r_u {oc : ck_Oc} {σ : Nat → Int} (hw : w_r true S = true) (hok : bc_ok O z g1 S = true) (hoc : oc ∈ S.2.2.2.2.2) (ho : ck_ho σ oc.1 (.inl u)) : mn_u true u := vr_s hw hok ⟨oc, hoc, σ, ho⟩

/-- it does not write k.j -/
noncomputable def bc_keep (S : ck_Sum) (k : Nat) (j : Int) : Bool := S.2.2.2.2.1.1.all fun w => !decide (w.1 = k ∧ w.2.1 ≤ j ∧ j ≤ w.2.2)
theorem bc_keep_s {n0 n k : Nat} {j : Int} {K0 K' : gm_K} {R0 R' : gm_R} {M0 M' : gm_M} (h : bc_keep S k j = true) (hk : k ≤ n0) (hf : ck_fr S.2.2.2.2.1 n0 K0 R0 M0 n K' R' M') : M' k j = M0 k j := by
  refine hf.2.2.1 k j hk fun w hw hh => ?_
  have := List.all_eq_true.mp h w hw
  simp only [Bool.not_eq_true', decide_eq_false_iff_not] at this
  exact this hh

theorem wk0_f {k1 : Nat} {tt : Bool} (hb : bg g la K R M) (h3 : la 3 = 0) (hw : w_r true S = true) (hck : w_k q0_O 0 0 k1 tt S = true) (hR : REL la K M N none A im t w f) (hbc : 6 ≤ bc) (hbs : 600 ≤ bs) (k : mq_K X LX bc bs pc L st Q g (fun la2 K2 M2 => REL la2 K2 M2 N none A im t w f) (fun u M2 => cF c ov u M2)) : bc_KF X LX 280 (bc - 6) (bs - 600) 370 pc L st Q q0_O 0 0 g la K M S (CF c ov) := by
  have hz : bs_ok la 0 0 := Or.inl ⟨rfl, rfl, h3⟩
  simp only [w_k, Bool.and_eq_true, decide_eq_true_eq, List.isEmpty_iff] at hck
  obtain ⟨hok, -, hbd, hR2, hW⟩ := hck
  intro oc hoc σ u n' K' R' M' _ ho hf hF hfr hex hb2
  have eR : ∀ k j, k ≤ 245 + 4 * 0 → R' k j = bs_R 0 0 k j := fun k j hk => hfr.2.2.2 k j hk (by rw [hR2]; exact fun h => nomatch h)
  have e0 : ∀ k j, k ≤ 245 → bg_M g M M' k j = M' k j := fun k j hk => bg_Ms hk j
  have e : ∀ k j, k ≤ 245 → ((cK k j ∧ ¬ kpt k j) ∨ rK k j) → bg_M g M M' k j = M k j := fun k j hk h => by
    rw [bg_Ms hk, wk_e hW hfr (by omega) h, vM hk]
  obtain ⟨-, N2, hq⟩ := hF.2.2.2.2
  have eN : N2 = N := by
    rw [← hq.2.1.1, ← hR.2.2.1.1.1.2.1]
    exact cs_same fun x j h1 h2 => by
      rw [← e0 x j (by omega)]
      exact e x j (by omega) (Or.inl ⟨by unfold cK; omega, by unfold kpt; omega⟩)
  subst eN
  have h15 : bg_M g M M' 1 15 = 0 ∨ (bg_M g M M' 1 15 = 1 ∧ ENDS N2 (hts (N2 13)) (aphi none N2 (hts (N2 13))) (bg_M g M M')) := by
    rw [e0 1 15 (by decide)]
    exact hq.2.2.imp_right fun hh => ⟨hh.1, ends_x hh.2 (fun k j hk => e0 k j (by omega))⟩
  refine gm_Wp_wk (Nat.le_refl _) (by omega) (by omega) (k u _ _ _ _ (cF_of hex (by omega) (hF.1 245 (2, 1) (by decide +kernel)).2.2 (w_r_u hw hok hoc ho)) hb2 ⟨hR.1, lwl_e hR.2.1 hb.2.2.2 (fun s hs => ?_) (e 42 1 (by decide) (Or.inl ⟨by unfold cK; omega, by unfold kpt; omega⟩)) (fun k k1 k2 => bg_Ks k2) (fun k j k1 k2 => bg_oldM k1 k2), clv_k hR.2.2.1 (cstF hb2.2.1) (fun k j hk hn => e k j (by have := ck_le hk; omega) (Or.inl ⟨hk, hn⟩)) h15 (fun hn => absurd rfl hn), rfv_e hR.2.2.2 (fun k j hk => e k j (by have := rk_le hk; omega) (Or.inr hk))⟩)
  show bg_dc la g 0 (R' s 8) = la s
  rw [eR s 8 (by have := bg_ssl hs; omega)]
  exact bg_dcs hz hs

theorem wkL_f {k1 : Nat} {tt : Bool} (hb : bg g la K R M) (h3 : ¬ la 3 = 0) (hw : w_r true S = true) (hck : w_k qL_O 246 1 k1 tt S = true) (hR : REL la K M N (some ls) A im t w f) (hbc : 6 ≤ bc) (hbs : 600 ≤ bs) (k : mq_K X LX bc bs pc L st Q g (fun la2 K2 M2 => REL la2 K2 M2 N (some ls) A im t w f) (fun u M2 => cF c ov u M2)) : bc_KF X LX 280 (bc - 6) (bs - 600) 370 pc L st Q qL_O 246 1 g la K M S (CF c ov) := by
  have hz : bs_ok la 246 1 := Or.inr (Or.inr ⟨rfl, rfl, h3⟩)
  simp only [w_k, Bool.and_eq_true, decide_eq_true_eq, List.isEmpty_iff] at hck
  obtain ⟨hok, -, hbd, hR2, hW⟩ := hck
  intro oc hoc σ u n' K' R' M' _ ho hf hF hfr hex hb2
  have eR : ∀ k j, k ≤ 245 + 4 * 1 → R' k j = bs_R 246 1 k j := fun k j hk => hfr.2.2.2 k j hk (by rw [hR2]; exact fun h => nomatch h)
  have e0 : ∀ k j, k ≤ 245 → bg_M g M M' k j = M' k j := fun k j hk => bg_Ms hk j
  have e : ∀ k j, k ≤ 245 → ((cK k j ∧ ¬ kpt k j) ∨ rK k j) → bg_M g M M' k j = M k j := fun k j hk h => by
    rw [bg_Ms hk, wk_e hW hfr (by omega) h, vM hk]
  obtain ⟨-, N2, ls2, hq, hkk, -, hlr⟩ := hF.2.2.2.2
  have eN : N2 = N := by
    rw [← hq.2.1.1, ← hR.2.2.1.1.1.2.1]
    exact cs_same fun x j h1 h2 => by
      rw [← e0 x j (by omega)]
      exact e x j (by omega) (Or.inl ⟨by unfold cK; omega, by unfold kpt; omega⟩)
  subst eN
  have e7 : M' 227 = M 227 := funext fun j => by
    rw [← e0 227 j (by decide)]
    exact e 227 j (by decide) (Or.inr (by unfold rK; omega))
  rw [e7] at hlr
  have hl2 := hR.2.2.2.1.2.1
  have ea := aphx_u (N := N2) (h := hts (N2 13)) hlr hl2
  have eb := aphi_u (N := N2) (h := hts (N2 13)) hlr hl2
  have h15 : bg_M g M M' 1 15 = 0 ∨ (bg_M g M M' 1 15 = 1 ∧ ENDS N2 (hts (N2 13)) (aphi (some ls) N2 (hts (N2 13))) (bg_M g M M')) := by
    rw [e0 1 15 (by decide), ← eb]
    exact hq.2.2.imp_right fun hh => ⟨hh.1, ends_x hh.2 (fun k j hk => e0 k j (by omega))⟩
  have hk9 : KFL N2 (aphx (some ls) N2 (hts (N2 13))) (bg_M g M M') := by
    rw [← ea]
    exact kfl_e hkk (e0 200 6 (by decide)) (fun j => e0 205 j (by decide))
  refine gm_Wp_wk (Nat.le_refl _) (by omega) (by omega) (k u _ _ _ _ (cF_of hex (by omega) ((qL_p hF).1 245 (2, 1) (by decide +kernel)).2.2 (w_r_u hw hok hoc ho)) hb2 ⟨hR.1, lwl_e hR.2.1 hb.2.2.2 (fun s hs => ?_) (e 42 1 (by decide) (Or.inl ⟨by unfold cK; omega, by unfold kpt; omega⟩)) (fun k k1 k2 => bg_Ks k2) (fun k j k1 k2 => bg_oldM k1 k2), clv_k hR.2.2.1 (cstF hb2.2.1) (fun k j hk hn => e k j (by have := ck_le hk; omega) (Or.inl ⟨hk, hn⟩)) h15 (fun _ => hk9), rfv_e hR.2.2.2 (fun k j hk => e k j (by have := rk_le hk; omega) (Or.inr hk))⟩)
  show bg_dc la g 0 (R' s 8) = la s
  rw [eR s 8 (by have := bg_ssl hs; omega)]
  exact bg_dcs hz hs

theorem wkR_f (hb : bg g la K R M) (hw : w_r true S = true) (h5 : bc_keep S 245 0 = true) (hck : w_kR S = true) (hR : REL la K M N lw A im t w f) (hbc : 6 ≤ bc) (hbs : 600 ≤ bs) (k : mq_K X LX bc bs pc L st Q g (fun la2 K2 M2 => REL la2 K2 M2 N lw A im t w f) (fun u M2 => rF9 c v M u M2)) : bc_KF X LX 280 (bc - 6) (bs - 600) 370 pc L st Q qR_O 100003 0 g la K M S (RF c v) := by
  have hz : bs_ok la 100003 0 := Or.inr (Or.inl ⟨rfl, rfl⟩)
  simp only [w_kR, Bool.and_eq_true, decide_eq_true_eq, List.isEmpty_iff] at hck
  obtain ⟨hok, -, hbd, hR2, hW⟩ := hck
  intro oc hoc σ u n' K' R' M' _ ho hf hF hfr hex hb2
  have eR : ∀ k j, k ≤ 245 + 4 * 0 → R' k j = bs_R 100003 0 k j := fun k j hk => hfr.2.2.2 k j hk (by rw [hR2]; exact fun h => nomatch h)
  have e0 : ∀ k j, k ≤ 245 → bg_M g M M' k j = M' k j := fun k j hk => bg_Ms hk j
  have e : ∀ k j, k ≤ 245 → (cK k j ∨ rK k j) → ¬ k = 235 → ¬ (k = 226 ∧ j = 26) → bg_M g M M' k j = M k j := fun k j hk h n1 n2 => by
    rw [bg_Ms hk, hfr.2.2.1 k j (by omega) (fun w hw hh => ?_), vM hk]
    have := List.all_eq_true.mp hW w hw
    simp only [Bool.or_eq_true, Bool.and_eq_true, Bool.not_eq_true', decide_eq_true_eq] at this
    rcases this with h9 | h9
    · omega
    · rcases h with h | h
      · rw [cKb_s h hh] at h9; exact absurd h9.1 (by decide)
      · rw [rKb_s h hh] at h9; exact absurd h9.2 (by decide)
  obtain ⟨-, N2, lw2, hG2, hT2, hL2, hk2⟩ := hF.2.2.2.2
  have e7 : M' 227 = M 227 := funext fun j => by
    rw [← e0 227 j (by decide)]
    exact e 227 j (by decide) (Or.inr (by unfold rK; omega)) (by decide) (by omega)
  have eN : N2 = N := by rw [← hT2.1, e7]; exact hR.2.2.2.1.1.1
  subst eN
  rw [e7] at hL2
  rw [aphi_v (N := N2) (h := hts (N2 13)) hL2 hR.2.2.2.1.2.1] at hk2
  have hk9 : KFR N2 (aphi lw N2 (hts (N2 13))) (bg_M g M M') := kfr_e hk2 (e0 226 26 (by decide)) (fun j => e0 235 j (by decide))
  refine gm_Wp_wk (Nat.le_refl _) (by omega) (by omega) (k u _ _ _ _ (rF_of hex (by omega) (hF.1 226 (15, 0) (by decide +kernel)).2.2 (w_r_u hw hok hoc ho) ((bc_keep_s h5 (by omega) hfr).trans (vM (by decide)))) hb2 ⟨hR.1, lwl_e hR.2.1 hb.2.2.2 (fun s hs => ?_) (e 42 1 (by decide) (Or.inl (by unfold cK; omega)) (by decide) (by decide)) (fun k k1 k2 => bg_Ks k2) (fun k j k1 k2 => bg_oldM k1 k2), clv_e hR.2.2.1 (cstF hb2.2.1) (fun k j hk => e k j (by have := ck_le hk; omega) (Or.inl hk) (by have := ck_le hk; omega) (by have := ck_le hk; omega)), rfv_k hR.2.2.2 (fun k j hk n1 n2 => e k j (by have := rk_le hk; omega) (Or.inr hk) n1 n2) hk9⟩)
  show bg_dc la g 0 (R' s 8) = la s
  rw [eR s 8 (by have := bg_ssl hs; omega)]
  exact bg_dcs hz hs

theorem rf_x (hb : bg g la K R M) (hg : g < 10000) (hR : REL la K M N lw A im t w f) (h : gm_at 370 pc = some (.invokestatic ix)) (hc : gm_cal (gm_ow 370) ix = some (5, mj)) (hmx : gm_ow mj ≠ gm_mxi) (hhj : ¬ gm_hh mj = []) (hna : xs.length + 2 = gm_na mj) (hlen : xs.length + 2 ≤ gm_ml mj) (hst : (st.map gm_cat).sum ≤ 8) (s0 : ∀ S ∈ l0, ck_Ok q0_O X LX mj S) (s1 : ∀ S ∈ l1, ck_Ok qL_O X LX mj S) (c0 : l0.all (fun S => w_k q0_O 0 0 1 true S && w_r true S) = true) (c1 : l1.all (fun S => w_k qL_O 246 1 1 true S && w_r true S) = true) (v0 : bc_cov 60 ds (l0.map bc_box) = true) (v1 : bc_cov 60 ds (l1.map bc_box) = true) (hx : bc_in ds xs) (hi : ∀ x ∈ xs, gm_ir x) (hbc : 6 ≤ bc) (hbs : 600 ≤ bs) (hf : ∀ z g1, bs_ok la z g1 → ¬ z = 100003 → gm_Wp X LX 279 6 600 mj 0 (gm_ent mj (gm_vr 1 :: bc_as xs true)) [] (245 + 4 * g1) (bs_K la K) (bs_R z g1) (bs_M la M) (CF c ov)) (k : mq_K X LX bc bs (pc + 3) L st Q g (fun la2 K2 M2 => REL la2 K2 M2 N lw A im t w f) (fun u M2 => cF c ov u M2)) : gm_Wp X LX 280 bc bs 370 pc L (gm_vr 245 :: ((xs.map gm_vi).reverse ++ gm_vr 1 :: st)) (245 + 4 * g) K R M Q := by
  by_cases h3 : la 3 = 0
  · have hz : bs_ok la 0 0 := Or.inl ⟨rfl, rfl, h3⟩
    have el := lw_0 hR h3
    subst el
    obtain ⟨S, hS, hin⟩ := mw_in v0 hx
    have hck := List.all_eq_true.mp c0 S hS
    simp only [Bool.and_eq_true] at hck
    obtain ⟨hck, hw⟩ := hck
    have hck2 := hck
    simp only [w_k, Bool.and_eq_true, decide_eq_true_eq] at hck2
    exact bc_statF (d' := 279) (bc' := 6) (bs' := 600) (O := q0_O) (z := 0) (g1 := 0) hb hz hg q0_nmu (fun _ _ _ _ h => q0_p h) (bs_q0 hb hR) h hc hmx hhj hna hlen hst (s0 S hS) hck2.1 (by omega) (by omega) (by omega) (by decide) hbc hbs (fun σ => bc_gas2 hck2.2.1 hin hi) (hf 0 0 hz (by decide)) (wk0_f hb h3 hw hck hR hbc hbs k)
  · have hz : bs_ok la 246 1 := Or.inr (Or.inr ⟨rfl, rfl, h3⟩)
    obtain ⟨ls, rfl⟩ := lw_1 hR h3
    obtain ⟨S, hS, hin⟩ := mw_in v1 hx
    have hck := List.all_eq_true.mp c1 S hS
    simp only [Bool.and_eq_true] at hck
    obtain ⟨hck, hw⟩ := hck
    have hck2 := hck
    simp only [w_k, Bool.and_eq_true, decide_eq_true_eq] at hck2
    exact bc_statF (d' := 279) (bc' := 6) (bs' := 600) (O := qL_O) (z := 246) (g1 := 1) hb hz hg qL_nmu (fun _ _ _ _ h => pl_o (qL_p h)) (bs_qL hb h3 hR) h hc hmx hhj hna hlen hst (s1 S hS) hck2.1 (by omega) (by omega) (by omega) (by decide) hbc hbs (fun σ => bc_gas2 hck2.2.1 hin hi) (hf 246 1 hz (by decide)) (wkL_f hb h3 hw hck hR hbc hbs k)

theorem rf_m (hb : bg g la K R M) (hg : g < 10000) (hR : REL la K M N lw A im t w f) (h : gm_at 370 pc = some (.invokevirtual ix)) (hc : gm_cal (gm_ow 370) ix = some (0, mj)) (hmx : gm_ow mj ≠ gm_mxi) (hcn : gm_cn 11 = (gm_mn mj).cls) (hna : xs.length = gm_na mj) (hlen : xs.length + 1 ≤ gm_ml mj) (hst : (st.map gm_cat).sum ≤ 8) (s0 : ∀ S ∈ l, ck_Ok qR_O X LX mj S) (c0 : l.all (fun S => w_kR S && (w_r true S && bc_keep S 245 0)) = true) (v0 : bc_cov 60 ds (l.map bc_box) = true) (hx : bc_in ds xs) (hi : ∀ x ∈ xs, gm_ir x) (hbc : 6 ≤ bc) (hbs : 600 ≤ bs) (hf : gm_Wp X LX 279 6 600 mj 0 (gm_ent mj (gm_vr 226 :: xs.map gm_vi)) [] 245 (bs_K la K) (bs_R 100003 0) (bs_M la M) (RF c v)) (k : mq_K X LX bc bs (pc + 3) L st Q g (fun la2 K2 M2 => REL la2 K2 M2 N lw A im t w f) (fun u M2 => rF9 c v M u M2)) : gm_Wp X LX 280 bc bs 370 pc L ((xs.map gm_vi).reverse ++ gm_vr 226 :: st) (245 + 4 * g) K R M Q := by
  obtain ⟨S, hS, hin⟩ := mw_in v0 hx
  have hck := List.all_eq_true.mp c0 S hS
  simp only [Bool.and_eq_true] at hck
  obtain ⟨hck, hw, h5⟩ := hck
  have hck2 := hck
  simp only [w_kR, Bool.and_eq_true, decide_eq_true_eq] at hck2
  exact bc_virtF (d' := 279) (bc' := 6) (bs' := 600) (O := qR_O) (z := 100003) (g1 := 0) (k1 := 226) (ci := 11) hb (Or.inr (Or.inl ⟨rfl, rfl⟩)) hg qR_nmu (fun _ _ _ _ h => qR_p h) (bs_qR hb hR) ⟨by decide, by decide⟩ (mw_k1 hb).2 h hc hmx (by decide) hcn hna hlen hst (s0 S hS) hck2.1 (by omega) (by omega) (by omega) (by decide) hbc hbs (rq_as hck2.2.1 hin hi) hf (wkR_f hb hw h5 hck hR hbc hbs k)

theorem qf_cmp {y1 y2 m : Int} (hc : gm_ir c) (h1 : gm_w y1 = gm_w c) (hv : ∀ v2, oV c v = some v2 → Int64.ofInt m = Int64.ofInt (gm_w v2)) (hy : c = 0 → gm_w y2 = gm_w v) : gm_w y1 = gm_w 0 → gm_w6 m = gm_w6 (gm_w y2) := by
  intro h0
  have e : gm_w c = c := dw_i hc
  have hc0 : c = 0 := by rw [h1, e] at h0; exact h0.trans (by decide)
  rw [hy hc0]
  exact dt_w6 (hv v (if_pos hc0))
end FX45
