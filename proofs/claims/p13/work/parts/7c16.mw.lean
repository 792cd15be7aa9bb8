/-! 7c16.mw -/
section
/-! LAWS BY EVERY STEP; a call on the class, a call on the reference, as a step of what is told. -/
/-- class and reference told the same -/
noncomputable def REL (la : Nat → Nat) (K : gm_K) (M : gm_M) (N : Int → Int) (lw : Option (List lln)) (A : List (Int → Int)) (im : Option ((Int → Int) × Option (List lln))) (t w : Int) (f : Int → Int) : Prop := RA N lw A im t w f ∧ LWL la K M lw A im ∧ CLV N lw A im t w f M ∧ RFV N lw A im t w f M
/-- the class has done it, the reference hasn't -/
noncomputable def MID (la : Nat → Nat) (K : gm_K) (M : gm_M) (N : Int → Int) (lw : Option (List lln)) (A : List (Int → Int)) (im : Option ((Int → Int) × Option (List lln))) (t w : Int) (f : Int → Int) (N0 : Int → Int) (lw0 : Option (List lln)) (A0 : List (Int → Int)) (im0 : Option ((Int → Int) × Option (List lln))) (t0 w0 : Int) (f0 : Int → Int) : Prop := RA N lw A im t w f ∧ RA N0 lw0 A0 im0 t0 w0 f0 ∧ LWL la K M lw A im ∧ CLV N lw A im t w f M ∧ RFV N0 lw0 A0 im0 t0 w0 f0 M
section MW16
variable {X : Int → Int} {LX : Nat} {g z g1 : Nat} {la la2 : Nat → Nat} {K K2 : gm_K} {R R1 R2 : gm_R} {M M1 M2 : gm_M} {L : gm_L} {st : List gm_V} {Q : gm_Q} {N N0 : Int → Int} {lw lw0 : Option (List lln)} {A A0 A' : List (Int → Int)} {im im0 : Option ((Int → Int) × Option (List lln))} {t w t0 w0 : Int} {f f0 : Int → Int}
theorem lwl_c (h : LWL la K M lw A im) (hl : ∀ s ∈ bg_ss, la s ≤ g) (e3 : la2 3 = la 3) (eS : ∀ i : Nat, i < A'.length → la2 (slotN (M2 42 1) i) = la 3) (e29 : la2 29 = la 29) (eK : ∀ k, 246 ≤ k → k ≤ 245 + 4 * g → K2 k = K k) (eM : ∀ k j, 246 ≤ k → k ≤ 245 + 4 * g → M2 k j = M k j) : LWL la2 K2 M2 lw A' im := by
  obtain ⟨h1, h2, h3⟩ := h
  refine ⟨by rw [e3]; exact lawc_e h1 (hl 3 (by decide)) eK eM, fun i hi => (eS i hi).trans e3.symm, fun NI lI e => ?_⟩
  rw [e29]
  exact lawc_e (h3 NI lI e) (hl 29 (by decide)) eK eM
theorem lwl_e (h : LWL la K M lw A im) (hl : ∀ s ∈ bg_ss, la s ≤ g) (e : ∀ s ∈ bg_ss, la2 s = la s) (e42 : M2 42 1 = M 42 1) (eK : ∀ k, 246 ≤ k → k ≤ 245 + 4 * g → K2 k = K k) (eM : ∀ k j, 246 ≤ k → k ≤ 245 + 4 * g → M2 k j = M k j) : LWL la2 K2 M2 lw A im :=
  lwl_c h hl (e 3 (by decide)) (fun i hi => by rw [e42, e _ slotN_s]; exact h.2.1 i hi) (e 29 (by decide)) eK eM
theorem la_u {s c c' : Nat} (hz : bs_ok la z g1) (hs : s ∈ bg_ss) (hc' : c' ∈ bg_ss) : bg_la la g 0 (gm_uR (bs_R z g1) c 8 (bs_R z g1 c' 8)) s = if s = c then la c' else la s := by
  show bg_dc la g 0 (gm_uR (bs_R z g1) c 8 (bs_R z g1 c' 8) s 8) = _
  unfold gm_uR
  by_cases e : s = c
  · rw [if_pos ⟨e, rfl⟩, if_pos e]
    exact bg_dcs hz hc'
  · rw [if_neg (fun h => e h.1), if_neg e]
    exact bg_dcs hz hs
theorem lwl_step (h : LWL la K M lw A im) (hl : ∀ s ∈ bg_ss, la s ≤ g) (hz : bs_ok la z g1) (hs : STEP (bs_R z g1) R1 (bs_M la M) M1 A A') (e42 : M2 42 1 = M1 42 1) (eK : ∀ k, 246 ≤ k → k ≤ 245 + 4 * g → K2 k = K k) (eM : ∀ k j, 246 ≤ k → k ≤ 245 + 4 * g → M2 k j = M k j) : LWL (bg_la la g 0 R1) K2 M2 lw A' im := by
  have v42 : bs_M la M 42 1 = M 42 1 := vM (by decide)
  have n3 : ∀ p : Nat, ¬ 3 = 44 + 13 * p := fun p => by omega
  have n29 : ∀ p : Nat, ¬ 29 = 44 + 13 * p := fun p => by omega
  rcases hs with ⟨rfl, h1, rfl⟩ | ⟨p, hp, ⟨h1, h2⟩, rfl, N0, rfl⟩ | ⟨p, hp, ⟨h1, h2⟩, rfl, N0, rfl⟩
  · exact lwl_e h hl (fun s hs => bg_dcs hz hs) (by rw [e42, h1, v42]) eK eM
  · rw [v42] at h1
    refine lwl_c h hl ((la_u hz (by decide) (by decide)).trans (if_neg (n3 p))) (fun i hi => ?_) ((la_u hz (by decide) (by decide)).trans (if_neg (n29 p))) eK eM
    rw [la_u hz slotN_s (by decide)]
    have hi2 : i < 12 ∧ i < A.length + 1 := by
      rw [List.length_take, List.length_cons] at hi
      omega
    rw [e42, h2]
    cases i with
    | zero =>
      rw [if_pos (by unfold slotN; omega)]
    | succ i =>
      rw [if_neg (by unfold slotN; omega), show slotN (((p : Int) + 1) % 12) (i + 1) = slotN (M 42 1) i by rw [h1]; unfold slotN; omega]
      exact h.2.1 i (by omega)
  · rw [v42] at h2
    have e0 : la (44 + 13 * p) = la 3 := by
      have := h.2.1 0 (by rw [List.length_cons]; omega)
      rw [h2, show slotN (((p : Int) + 1) % 12) 0 = 44 + 13 * p by unfold slotN; omega] at this
      exact this
    have e9 : ∀ s ∈ bg_ss, bg_la la g 0 (gm_uR (bs_R z g1) 3 8 (bs_R z g1 (44 + 13 * p) 8)) s = la s := fun s hs => by
      rw [la_u hz hs (slot_s hp)]
      by_cases e : s = 3
      · rw [if_pos e, e, e0]
      · rw [if_neg e]
    refine lwl_c h hl (e9 3 (by decide)) (fun i hi => ?_) (e9 29 (by decide)) eK eM
    rw [e9 _ slotN_s, e42, h1, show slotN (p : Int) i = slotN (M 42 1) (i + 1) by rw [h2]; unfold slotN; omega]
    exact h.2.1 (i + 1) (by rw [List.length_cons]; omega)
theorem lwl_v (h : LWL la K M lw A im) (hl : ∀ s ∈ bg_ss, la s ≤ g) (hz : bs_ok la z g1) (hr : R1 = gm_uR (bs_R z g1) 16 8 (bs_R z g1 3 8) ∨ R1 = gm_uR (gm_uR (bs_R z g1) 16 8 (bs_R z g1 3 8)) 3 8 ((gm_uR (bs_R z g1) 16 8 (bs_R z g1 3 8)) 16 8)) (hA : A' = A ∨ A' = []) (e42 : M2 42 1 = M 42 1) (eK : ∀ k, 246 ≤ k → k ≤ 245 + 4 * g → K2 k = K k) (eM : ∀ k j, 246 ≤ k → k ≤ 245 + 4 * g → M2 k j = M k j) : LWL (bg_la la g 0 R1) K2 M2 lw A' im := by
  have e9 : ∀ s ∈ bg_ss, ¬ s = 16 → bg_la la g 0 R1 s = la s := fun s hs h16 => by
    rcases hr with rfl | rfl
    · rw [la_u hz hs (by decide), if_neg h16]
    · show bg_dc la g 0 (gm_uR (gm_uR (bs_R z g1) 16 8 (bs_R z g1 3 8)) 3 8 ((gm_uR (bs_R z g1) 16 8 (bs_R z g1 3 8)) 16 8) s 8) = _
      by_cases e3 : s = 3
      · subst e3
        rw [show gm_uR (gm_uR (bs_R z g1) 16 8 (bs_R z g1 3 8)) 3 8 ((gm_uR (bs_R z g1) 16 8 (bs_R z g1 3 8)) 16 8) 3 8 = bs_R z g1 3 8 by unfold gm_uR; rw [if_pos ⟨rfl, rfl⟩, if_pos ⟨rfl, rfl⟩]]
        exact bg_dcs hz hs
      · rw [show gm_uR (gm_uR (bs_R z g1) 16 8 (bs_R z g1 3 8)) 3 8 ((gm_uR (bs_R z g1) 16 8 (bs_R z g1 3 8)) 16 8) s 8 = bs_R z g1 s 8 by unfold gm_uR; rw [if_neg (fun h => e3 h.1), if_neg (fun h => h16 h.1)]]
        exact bg_dcs hz hs
  refine lwl_c h hl (e9 3 (by decide) (by decide)) (fun i hi => ?_) (e9 29 (by decide) (by decide)) eK eM
  rcases hA with rfl | rfl
  · rw [e9 _ slotN_s (by unfold slotN; omega), e42]
    exact h.2.1 i hi
  · exact absurd hi (Nat.not_lt_zero _)
theorem lwl_im (h : LWL la K M lw A im) (hl : ∀ s ∈ bg_ss, la s ≤ g) (hz : bs_ok la z g1) (e42 : M2 42 1 = M 42 1) (eK : ∀ k, 246 ≤ k → k ≤ 245 + 4 * g → K2 k = K k) (eM : ∀ k j, 246 ≤ k → k ≤ 245 + 4 * g → M2 k j = M k j) : LWL (bg_la la g 0 (gm_uR (bs_R z g1) 29 8 (bs_R z g1 3 8))) K2 M2 lw A (some (N, lw)) := by
  obtain ⟨h1, h2, h3⟩ := h
  have e3 : bg_la la g 0 (gm_uR (bs_R z g1) 29 8 (bs_R z g1 3 8)) 3 = la 3 := (la_u hz (by decide) (by decide)).trans (if_neg (by decide))
  have e29 : bg_la la g 0 (gm_uR (bs_R z g1) 29 8 (bs_R z g1 3 8)) 29 = la 3 := (la_u hz (by decide) (by decide)).trans (if_pos rfl)
  refine ⟨by rw [e3]; exact lawc_e h1 (hl 3 (by decide)) eK eM, fun i hi => ?_, fun NI lI e => ?_⟩
  · rw [e3, la_u hz slotN_s (by decide), if_neg (by unfold slotN; omega), e42]
    exact h2 i hi
  · cases e
    rw [e29]
    exact lawc_e h1 (hl 3 (by decide)) eK eM
theorem lwl_bk {NI : Int → Int} {lI : Option (List lln)} (h : LWL la K M lw A (some (NI, lI))) (hl : ∀ s ∈ bg_ss, la s ≤ g) (hz : bs_ok la z g1) (eK : ∀ k, 246 ≤ k → k ≤ 245 + 4 * g → K2 k = K k) (eM : ∀ k j, 246 ≤ k → k ≤ 245 + 4 * g → M2 k j = M k j) : LWL (bg_la la g 0 (gm_uR (bs_R z g1) 3 8 (bs_R z g1 29 8))) K2 M2 lI [] (some (NI, lI)) := by
  obtain ⟨h1, h2, h3⟩ := h
  have e3 : bg_la la g 0 (gm_uR (bs_R z g1) 3 8 (bs_R z g1 29 8)) 3 = la 29 := (la_u hz (by decide) (by decide)).trans (if_pos rfl)
  have e29 : bg_la la g 0 (gm_uR (bs_R z g1) 3 8 (bs_R z g1 29 8)) 29 = la 29 := (la_u hz (by decide) (by decide)).trans (if_neg (by decide))
  have h4 := lawc_e (h3 NI lI rfl) (hl 29 (by decide)) eK eM
  refine ⟨by rw [e3]; exact h4, fun i hi => absurd hi (Nat.not_lt_zero _), fun NI2 lI2 e => ?_⟩
  cases e
  rw [e29]
  exact h4
/-- behind a call on the class -/
noncomputable def mw_K (X : Int → Int) (LX bc bs pc : Nat) (L : gm_L) (st : List gm_V) (Q : gm_Q) (g : Nat) (u : Option gm_V) (ov : Option Int) (P : (Nat → Nat) → gm_K → gm_M → Prop) : Prop := ∀ (la2 : Nat → Nat) (K2 : gm_K) (R2 : gm_R) (M2 : gm_M), bg g la2 K2 R2 M2 → P la2 K2 M2 → (∀ v, ov = some v → Int64.ofInt (M2 245 0) = Int64.ofInt (gm_w v)) → gm_Wp X LX 280 (bc - 6) (bs - 600) 370 pc L (u.toList ++ st) (245 + 4 * g) K2 R2 M2 Q
theorem mw_in {l : List ck_Sum} {ds : List (Int × Int)} {xs : List Int} (hv : bc_cov 60 ds (l.map bc_box) = true) (hx : bc_in ds xs) : ∃ S ∈ l, bc_in (bc_box S) xs := by
  obtain ⟨r, hr, h⟩ := bc_cov_s 60 ds _ xs hv hx
  obtain ⟨S, hS, rfl⟩ := List.mem_map.mp hr
  exact ⟨S, hS, h⟩
theorem mw_k1 (hb : bg g la K R M) : (K 1).1 = 0 + 4 ∧ (K 226).1 = 11 + 4 := ⟨(e0k (e0F hb.2.1) (k := 1) (c := 0) (by decide +kernel)).2, (e0k (e0F hb.2.1) (k := 226) (c := 11) (by decide +kernel)).2⟩
section MWX
variable {bc bs pc ix mj : Nat} {l0 l1 l : List ck_Sum} {ds : List (Int × Int)} {xs : List Int} {u : Option gm_V} {ov oc : Option Int} {RR : Nat → Nat → gm_R → gm_M → Prop} {P : Option gm_V → Prop}
theorem wx_go (hR : REL la K M N0 lw0 A0 im0 t0 w0 f0) (hRA : RA N lw A im t w f) (hL : ∀ R1 M1 K2 M2, RR z g1 R1 M1 → (∀ k, 246 ≤ k → k ≤ 245 + 4 * g → K2 k = K k) → (∀ k j, 246 ≤ k → k ≤ 245 + 4 * g → M2 k j = M k j) → M2 42 1 = M1 42 1 → LWL (bg_la la g 0 R1) K2 M2 lw A im) (k : mw_K X LX bc bs pc L st Q g u ov (fun la2 K2 M2 => MID la2 K2 M2 N lw A im t w f N0 lw0 A0 im0 t0 w0 f0)) : wx_K X LX bc bs pc L st Q g z g1 la K M u ov (RR z g1) N lw A im t w f N0 lw0 A0 im0 t0 w0 f0 :=
  fun R1 M1 K2 R2 M2 hrr hb2 eK eM e42 hv hC hF => k _ K2 R2 M2 hb2 ⟨hRA, hR.1, hL R1 M1 K2 M2 hrr eK eM e42, hC, hF⟩ hv
/-- a call on the class by one of the law's own methods -/
theorem mw_x (hb : bg g la K R M) (hg : g < 10000) (hR : REL la K M N0 lw0 A0 im0 t0 w0 f0) (hRA : RA N lw A im t w f) (h : gm_at 370 pc = some (.invokestatic ix)) (hc : gm_cal (gm_ow 370) ix = some (5, mj)) (hmx : gm_ow mj ≠ gm_mxi) (hhj : ¬ gm_hh mj = []) (hna : xs.length + 2 = gm_na mj) (hlen : xs.length + 2 ≤ gm_ml mj) (hst : (st.map gm_cat).sum ≤ 8) (s0 : ∀ S ∈ l0, ck_Ok p2_O X LX mj S) (s1 : ∀ S ∈ l1, ck_Ok p2_OL X LX mj S) (c0 : l0.all (w_x p2_O 0 0 1 true) = true) (c1 : l1.all (w_x p2_OL 246 1 1 true) = true) (v0 : bc_cov 60 ds (l0.map bc_box) = true) (v1 : bc_cov 60 ds (l1.map bc_box) = true) (hx : bc_in ds xs) (hi : ∀ x ∈ xs, gm_ir x) (hbc : 6 ≤ bc) (hbs : 600 ≤ bs) (hu : u = none ∨ ∃ x, u = some (gm_vi x))
    (hf : ∀ z g1, bs_ok la z g1 → ¬ z = 100003 → gm_Wp X LX 279 6 600 mj 0 (gm_ent mj (gm_vr 1 :: bc_as xs true)) [] (245 + 4 * g1) (bs_K la K) (bs_R z g1) (bs_M la M) (DQ (245 + 4 * g1) (bs_K la K) u ov (RR z g1) N lw A im t w f))
    (hRR : ∀ z g1 R1 M1, bs_ok la z g1 → RR z g1 R1 M1 → rvR z g1 R1) (hL : ∀ z g1 R1 M1 K2 M2, bs_ok la z g1 → RR z g1 R1 M1 → (∀ k, 246 ≤ k → k ≤ 245 + 4 * g → K2 k = K k) → (∀ k j, 246 ≤ k → k ≤ 245 + 4 * g → M2 k j = M k j) → M2 42 1 = M1 42 1 → LWL (bg_la la g 0 R1) K2 M2 lw A im)
    (k : mw_K X LX bc bs (pc + 3) L st Q g u ov (fun la2 K2 M2 => MID la2 K2 M2 N lw A im t w f N0 lw0 A0 im0 t0 w0 f0)) : gm_Wp X LX 280 bc bs 370 pc L (gm_vr 245 :: ((xs.map gm_vi).reverse ++ gm_vr 1 :: st)) (245 + 4 * g) K R M Q := by
  by_cases h3 : la 3 = 0
  · have hz : bs_ok la 0 0 := Or.inl ⟨rfl, rfl, h3⟩
    obtain ⟨S, hS, hin⟩ := mw_in v0 hx
    have hck := List.all_eq_true.mp c0 S hS
    have hk2 := wx_s hb hz hg (fun _ _ _ _ h => h) hck hRA hR.2.2.2 hu (fun R1 M1 h => hRR 0 0 R1 M1 hz h) (wx_go hR hRA (fun R1 M1 K2 M2 h a b c => hL 0 0 R1 M1 K2 M2 hz h a b c) k)
    simp only [w_x, bc_ok, Bool.and_eq_true, decide_eq_true_eq] at hck
    exact bc_statM (O := p2_O) (z := 0) (g1 := 0) (d' := 279) (bc' := 6) (bs' := 600) hb hz p2_nmu (bs_F0 hb) h hc hmx hhj hna hlen hst (s0 S hS) hck.1.1 hck.1.2.1 (by omega) (by omega) (by omega) (by decide) hbc hbs (fun σ => bc_gas2 hck.2.1 hin hi) (hf 0 0 hz (by decide)) hk2
  · have hz : bs_ok la 246 1 := Or.inr (Or.inr ⟨rfl, rfl, h3⟩)
    obtain ⟨S, hS, hin⟩ := mw_in v1 hx
    have hck := List.all_eq_true.mp c1 S hS
    have hk2 := wx_s hb hz hg (fun _ _ _ _ h => pl_o h) hck hRA hR.2.2.2 hu (fun R1 M1 h => hRR 246 1 R1 M1 hz h) (wx_go hR hRA (fun R1 M1 K2 M2 h a b c => hL 246 1 R1 M1 K2 M2 hz h a b c) k)
    simp only [w_x, bc_ok, Bool.and_eq_true, decide_eq_true_eq] at hck
    exact bc_statM (O := p2_OL) (z := 246) (g1 := 1) (d' := 279) (bc' := 6) (bs' := 600) hb hz pl_nmu (bs_F1 hb h3) h hc hmx hhj hna hlen hst (s1 S hS) hck.1.1 hck.1.2.1 (by omega) (by omega) (by omega) (by decide) hbc hbs (fun σ => bc_gas2 hck.2.1 hin hi) (hf 246 1 hz (by decide)) hk2
theorem mw_as (xs : List Int) : bc_as xs false = xs.map gm_vi := by simp [bc_as]
/-- a call on the class itself -/
theorem mw_d (hb : bg g la K R M) (hg : g < 10000) (hR : REL la K M N0 lw0 A0 im0 t0 w0 f0) (hRA : RA N lw A im t w f) (h : gm_at 370 pc = some (.invokevirtual ix)) (hc : gm_cal (gm_ow 370) ix = some (0, mj)) (hmx : gm_ow mj ≠ gm_mxi) (hcn : gm_cn 0 = (gm_mn mj).cls) (hna : xs.length = gm_na mj) (hlen : xs.length + 1 ≤ gm_ml mj) (hst : (st.map gm_cat).sum ≤ 8) (s0 : ∀ S ∈ l0, ck_Ok p2_O X LX mj S) (s1 : ∀ S ∈ l1, ck_Ok p2_OL X LX mj S) (c0 : l0.all (w_x p2_O 0 0 1 false) = true) (c1 : l1.all (w_x p2_OL 246 1 1 false) = true) (v0 : bc_cov 60 ds (l0.map bc_box) = true) (v1 : bc_cov 60 ds (l1.map bc_box) = true) (hx : bc_in ds xs) (hi : ∀ x ∈ xs, gm_ir x) (hbc : 6 ≤ bc) (hbs : 600 ≤ bs) (hu : u = none ∨ ∃ x, u = some (gm_vi x))
    (hf : ∀ z g1, bs_ok la z g1 → ¬ z = 100003 → gm_Wp X LX 279 6 600 mj 0 (gm_ent mj (gm_vr 1 :: xs.map gm_vi)) [] (245 + 4 * g1) (bs_K la K) (bs_R z g1) (bs_M la M) (DQ (245 + 4 * g1) (bs_K la K) u ov (RR z g1) N lw A im t w f))
    (hRR : ∀ z g1 R1 M1, bs_ok la z g1 → RR z g1 R1 M1 → rvR z g1 R1) (hL : ∀ z g1 R1 M1 K2 M2, bs_ok la z g1 → RR z g1 R1 M1 → (∀ k, 246 ≤ k → k ≤ 245 + 4 * g → K2 k = K k) → (∀ k j, 246 ≤ k → k ≤ 245 + 4 * g → M2 k j = M k j) → M2 42 1 = M1 42 1 → LWL (bg_la la g 0 R1) K2 M2 lw A im)
    (k : mw_K X LX bc bs (pc + 3) L st Q g u ov (fun la2 K2 M2 => MID la2 K2 M2 N lw A im t w f N0 lw0 A0 im0 t0 w0 f0)) : gm_Wp X LX 280 bc bs 370 pc L ((xs.map gm_vi).reverse ++ gm_vr 1 :: st) (245 + 4 * g) K R M Q := by
  have ea : ∀ {S : ck_Sum}, bc_args S 1 false = true → bc_in (bc_box S) xs → ∀ σ, ck_gas σ S.2.2.1 (gm_vr 1 :: xs.map gm_vi) := fun ha hin σ => by
    have := bc_gas2 (σ := σ) ha hin hi
    rwa [mw_as] at this
  by_cases h3 : la 3 = 0
  · have hz : bs_ok la 0 0 := Or.inl ⟨rfl, rfl, h3⟩
    obtain ⟨S, hS, hin⟩ := mw_in v0 hx
    have hck := List.all_eq_true.mp c0 S hS
    have hk2 := wx_s hb hz hg (fun _ _ _ _ h => h) hck hRA hR.2.2.2 hu (fun R1 M1 h => hRR 0 0 R1 M1 hz h) (wx_go hR hRA (fun R1 M1 K2 M2 h a b c => hL 0 0 R1 M1 K2 M2 hz h a b c) k)
    simp only [w_x, bc_ok, Bool.and_eq_true, decide_eq_true_eq] at hck
    exact bc_virtM (O := p2_O) (z := 0) (g1 := 0) (k1 := 1) (ci := 0) (d' := 279) (bc' := 6) (bs' := 600) hb hz p2_nmu (bs_F0 hb) ⟨by decide, by decide⟩ (mw_k1 hb).1 h hc hmx (by decide) hcn hna hlen hst (s0 S hS) hck.1.1 hck.1.2.1 (by omega) (by omega) (by omega) (by decide) hbc hbs (ea hck.2.1 hin) (hf 0 0 hz (by decide)) hk2
  · have hz : bs_ok la 246 1 := Or.inr (Or.inr ⟨rfl, rfl, h3⟩)
    obtain ⟨S, hS, hin⟩ := mw_in v1 hx
    have hck := List.all_eq_true.mp c1 S hS
    have hk2 := wx_s hb hz hg (fun _ _ _ _ h => pl_o h) hck hRA hR.2.2.2 hu (fun R1 M1 h => hRR 246 1 R1 M1 hz h) (wx_go hR hRA (fun R1 M1 K2 M2 h a b c => hL 246 1 R1 M1 K2 M2 hz h a b c) k)
    simp only [w_x, bc_ok, Bool.and_eq_true, decide_eq_true_eq] at hck
    exact bc_virtM (O := p2_OL) (z := 246) (g1 := 1) (k1 := 1) (ci := 0) (d' := 279) (bc' := 6) (bs' := 600) hb hz pl_nmu (bs_F1 hb h3) ⟨by decide, by decide⟩ (mw_k1 hb).1 h hc hmx (by decide) hcn hna hlen hst (s1 S hS) hck.1.1 hck.1.2.1 (by omega) (by omega) (by omega) (by decide) hbc hbs (ea hck.2.1 hin) (hf 246 1 hz (by decide)) hk2
/-- behind a call on the reference -/
noncomputable def mm_K (X : Int → Int) (LX bc bs pc : Nat) (L : gm_L) (st : List gm_V) (Q : gm_Q) (g : Nat) (M : gm_M) (P : Option gm_V → Prop) (oc : Option Int) (RL : (Nat → Nat) → gm_K → gm_M → Prop) : Prop := ∀ (u : Option gm_V) (la2 : Nat → Nat) (K2 : gm_K) (R2 : gm_R) (M2 : gm_M), P u → bg g la2 K2 R2 M2 → RL la2 K2 M2 → M2 245 0 = M 245 0 → (∀ c, oc = some c → M2 226 0 = c) → gm_Wp X LX 280 (bc - 6) (bs - 600) 370 pc L (u.toList ++ st) (245 + 4 * g) K2 R2 M2 Q
theorem mw_m (hb : bg g la K R M) (hg : g < 10000) (hR : MID la K M N lw A im t w f N0 lw0 A0 im0 t0 w0 f0) (h : gm_at 370 pc = some (.invokevirtual ix)) (hc : gm_cal (gm_ow 370) ix = some (0, mj)) (hmx : gm_ow mj ≠ gm_mxi) (hcn : gm_cn 11 = (gm_mn mj).cls) (hna : xs.length = gm_na mj) (hlen : xs.length + 1 ≤ gm_ml mj) (hst : (st.map gm_cat).sum ≤ 8) (s0 : ∀ S ∈ l, ck_Ok p2_O X LX mj S) (c0 : l.all w_m = true) (v0 : bc_cov 60 ds (l.map bc_box) = true) (hx : bc_in ds xs) (hi : ∀ x ∈ xs, gm_ir x) (hbc : 6 ≤ bc) (hbs : 600 ≤ bs) (hP : ∀ u, P u → u = none ∨ ∃ x, u = some (gm_vi x))
    (hf : gm_Wp X LX 279 6 600 mj 0 (gm_ent mj (gm_vr 226 :: xs.map gm_vi)) [] 245 (bs_K la K) (bs_R 100003 0) (bs_M la M) (RDQ 245 (bs_K la K) (bs_R 100003 0) P oc N lw A im t w f))
    (k : mm_K X LX bc bs (pc + 3) L st Q g M P oc (fun la2 K2 M2 => REL la2 K2 M2 N lw A im t w f)) : gm_Wp X LX 280 bc bs 370 pc L ((xs.map gm_vi).reverse ++ gm_vr 226 :: st) (245 + 4 * g) K R M Q := by
  have ea : ∀ {S : ck_Sum}, bc_args S 226 false = true → bc_in (bc_box S) xs → ∀ σ, ck_gas σ S.2.2.1 (gm_vr 226 :: xs.map gm_vi) := fun ha hin σ => by
    have := bc_gas2 (σ := σ) ha hin hi
    rwa [mw_as] at this
  obtain ⟨hRA, hRA0, hLW, hC, hRf⟩ := hR
  have hl := hb.2.2.2
  obtain ⟨S, hS, hin⟩ := mw_in v0 hx
  have hck := List.all_eq_true.mp c0 S hS
  have hk2 := wm_s (st := st) (L := L) (Q := Q) (X := X) (LX := LX) (pc := pc + 3) (bc := bc) (bs := bs) (P := P) (oc := oc) hb hg hck hRA hC hP (fun u la2 K2 R2 M2 hu e hb2 eK eM e42 e245 hcc hC2 hF2 => k u la2 K2 R2 M2 hu hb2 ⟨hRA, lwl_e hLW hl e e42 eK eM, hC2, hF2⟩ e245 hcc)
  simp only [w_m, bc_ok, Bool.and_eq_true, decide_eq_true_eq] at hck
  exact bc_virtM (O := p2_O) (z := 100003) (g1 := 0) (k1 := 226) (ci := 11) (d' := 279) (bc' := 6) (bs' := 600) hb (Or.inr (Or.inl ⟨rfl, rfl⟩)) p2_nmu (bs_F0 hb) ⟨by decide, by decide⟩ (mw_k1 hb).2 h hc hmx (by decide) hcn hna hlen hst (s0 S hS) hck.1.1 hck.1.2.1 (by omega) (by omega) (by omega) (by decide) hbc hbs (ea hck.2.1 hin) hf hk2
end MWX
end MW16
end
/-! 7c17.op -/
section
/-! THE ACTS, told of the world. -/
section OP17
variable {X : Int → Int} {LX : Nat} {g z g1 n : Nat} {la la2 : Nat → Nat} {K K1 K2 : gm_K} {R R1 R2 : gm_R} {M M1 M2 : gm_M} {L : gm_L} {st : List gm_V} {Q : gm_Q} {N N0 : Int → Int} {lw lw0 : Option (List lln)} {A A0 A' : List (Int → Int)} {im im0 : Option ((Int → Int) × Option (List lln))} {t w t0 w0 : Int} {f f0 : Int → Int} {o : gm_O} {n1 : Nat}
theorem rv_step (hz : bs_ok la z g1) (h : STEP (bs_R z g1) R1 M M1 A A') : rvR z g1 R1 := by
  rcases h with ⟨rfl, -⟩ | ⟨p, hp, -, rfl, -⟩ | ⟨p, hp, -, rfl, -⟩
  · exact rvR_0 hz
  · exact rvR_u (rvR_0 hz) (slot_s hp) (by decide)
  · exact rvR_u (rvR_0 hz) (by decide) (slot_s hp)
theorem rv_v (hz : bs_ok la z g1) (h : R1 = gm_uR (bs_R z g1) 16 8 (bs_R z g1 3 8) ∨ R1 = gm_uR (gm_uR (bs_R z g1) 16 8 (bs_R z g1 3 8)) 3 8 ((gm_uR (bs_R z g1) 16 8 (bs_R z g1 3 8)) 16 8)) : rvR z g1 R1 := by
  have h16 : rvR z g1 (gm_uR (bs_R z g1) 16 8 (bs_R z g1 3 8)) := rvR_u (rvR_0 hz) (by decide) (by decide)
  rcases h with rfl | rfl
  · exact h16
  · exact rvR_u h16 (by decide) (by decide)
/-- what may come of a call: an answer, or which refusal -/
noncomputable def oV (c v : Int) : Option Int := if c = 0 then some v else none
noncomputable def PV (c v : Int) : Option gm_V → Prop := fun u => ∃ x, u = some (gm_vi x) ∧ (c = 0 → x = v)
noncomputable def PU (u0 : Option gm_V) : Option gm_V → Prop := fun u => u = u0
theorem pv_u {c v : Int} : ∀ u, PV c v u → u = none ∨ ∃ x, u = some (gm_vi x) := fun u ⟨x, e, _⟩ => Or.inr ⟨x, e⟩
theorem oV_s {c v y : Int} (h : oV c v = some y) : c = 0 ∧ y = v := by
  unfold oV at h
  by_cases e : c = 0
  · rw [if_pos e] at h
    cases h
    exact ⟨e, rfl⟩
  · rw [if_neg e] at h
    cases h
theorem dq_aq {r : Int × Int × (Int → Int) × List (Int → Int)} (h : AQ n K R M r lw im t w f A o n1 K1 R1 M1) : DQ n K (some (gm_vi r.1)) (oV r.1 r.2.1) (fun R1 M1 => STEP R R1 M M1 A r.2.2.2) r.2.2.1 lw r.2.2.2 im t w f o n1 K1 R1 M1 :=
  ⟨⟨h.1.1, h.1.2.1⟩, h.2.1, fun v hv => by
    obtain ⟨e1, e2⟩ := oV_s hv
    rw [e2]
    exact h.2.2.1 e1, h.2.2.2.1, h.2.2.2.2⟩
theorem rd_rq {r : Int × Int × (Int → Int) × List (Int → Int)} (hc : gm_ir r.1) (h : RQ n K R r lw im t w f o n1 K1 R1 M1) : RDQ n K R (PV r.1 r.2.1) (some r.1) r.2.2.1 lw r.2.2.2 im t w f o n1 K1 R1 M1 := by
  obtain ⟨h1, ⟨v, h2, h3⟩, h4, h5⟩ := h
  exact ⟨h1, ⟨_, h2, v, rfl, h3⟩, fun c e => by cases e; exact ⟨hc, h4⟩, h5⟩
theorem rd_rc {u : Option gm_V} (h : RC n K R (.inl u) N lw A im t w f o n1 K1 R1 M1) : RDQ n K R (PU u) none N lw A im t w f o n1 K1 R1 M1 :=
  ⟨h.1, ⟨u, h.2.1, rfl⟩, (fun c e => nomatch e), h.2.2⟩
theorem rd_rv {c v : Int} (hc : gm_ir c) (h : RV n K R c v N lw A im t w f o n1 K1 R1 M1) : RDQ n K R (PV c v) (some c) N lw A im t w f o n1 K1 R1 M1 := by
  obtain ⟨h1, ⟨v, h2, h3⟩, h4, h5⟩ := h
  exact ⟨h1, ⟨_, h2, v, rfl, h3⟩, fun c e => by cases e; exact ⟨hc, h4⟩, h5⟩
theorem dq_cq {u : Option gm_V} {RR : gm_R → gm_M → Prop} (h : CQ n K M (.inl u) RR N lw A im t w f o n1 K1 R1 M1) : DQ n K u none RR N lw A im t w f o n1 K1 R1 M1 :=
  ⟨⟨h.1.1, h.1.2.1⟩, h.2.1, (fun v e => nomatch e), h.2.2.1, h.2.2.2⟩
theorem dq_vq {r : Int × Int × (Int → Int) × List (Int → Int) × Int} (h : VQ n K R M r lw im f o n1 K1 R1 M1) : DQ n K (some (gm_vi r.1)) (oV r.1 r.2.1) (fun R1 M1 => M1 42 1 = M 42 1 ∧ (R1 = gm_uR R 16 8 (R 3 8) ∨ R1 = gm_uR (gm_uR R 16 8 (R 3 8)) 3 8 ((gm_uR R 16 8 (R 3 8)) 16 8))) r.2.2.1 lw r.2.2.2.1 im 0 r.2.2.2.2 f o n1 K1 R1 M1 :=
  ⟨⟨h.1.1, h.1.2.1⟩, h.2.1, fun v hv => by
    obtain ⟨e1, e2⟩ := oV_s hv
    rw [e2]
    exact h.2.2.1 e1, h.2.2.2.1, h.2.2.2.2⟩
theorem k245 (hE : E0 n K R) : 245 ≤ n ∧ K 245 = (2, 1) := ⟨(hE.1 245 (2, 1) (by decide +kernel)).1.2, (hE.1 245 (2, 1) (by decide +kernel)).2⟩
theorem k1_e (hE : E0 n K R) : (1 ≤ 1 ∧ 1 ≤ n) ∧ (K 1).1 = 0 + 4 := e0k hE (k := 1) (c := 0) (by decide +kernel)
theorem ns6_c : (List.range 8).all (fun s => (match gm_tyr p2_O 227 (15 + 7 * (s : Int)) (15 + 7 * (s : Int)) with
  | some q => decide (0 ≤ q.1 ∧ q.2 ≤ 98)
  | none => false) && (match gm_tyr p2_O 227 (16 + 7 * (s : Int)) (21 + 7 * (s : Int)) with
  | some q => decide (0 ≤ q.1 ∧ q.2 ≤ 20)
  | none => false)) = true := by decide +kernel
/-- speeds of all LANES that there may be -/
theorem ns6 (hF : gm_Fx p2_O n K R M) (hT : ws (M 227) = N) (hN : NR N) : NSb 6 N := fun s s0 s1 => by
  have h2 := hN.2.1.1
  obtain ⟨u, rfl⟩ : ∃ u : Nat, s = (u : Int) := ⟨s.toNat, by omega⟩
  have hc := List.all_eq_true.mp ns6_c u (List.mem_range.mpr (by omega))
  simp only [Bool.and_eq_true] at hc
  have e : ∀ j : Int, 0 ≤ j → j < 395 → ¬ j = 8 → N j = M 227 j := fun j j0 j1 j8 => by
    rw [← hT]
    exact if_pos ⟨j0, j1, j8⟩
  obtain ⟨c1, c2⟩ := hc
  constructor
  · cases h : gm_tyr p2_O 227 (15 + 7 * (u : Int)) (15 + 7 * (u : Int)) with
    | none => rw [h] at c1; cases c1
    | some q =>
      rw [h] at c1
      have c1 := of_decide_eq_true c1
      have := ((gm_tyr_s hF h).2 (15 + 7 * (u : Int)) (Int.le_refl _) (Int.le_refl _)).2
      rw [e _ (by omega) (by omega) (by omega)]
      omega
  · intro l l0 l1
    cases h : gm_tyr p2_O 227 (16 + 7 * (u : Int)) (21 + 7 * (u : Int)) with
    | none => rw [h] at c2; cases c2
    | some q =>
      rw [h] at c2
      have c2 := of_decide_eq_true c2
      have := ((gm_tyr_s hF h).2 (15 + 7 * (u : Int) + 1 + l) (by omega) (by omega)).2
      rw [e _ (by omega) (by omega) (by omega)]
      omega
theorem gJ_w (hb : bg g la K R M) : jT fun j => bs_M la M 227 (395 + j) := (bs_F0 (z := 100003) hb).2.2.2.2.2.2.1

section OPX
variable {bc bs pc ix : Nat} {l0 l1 l9 : List ck_Sum} {ds : List (Int × Int)} {a b p l y x : Int}
theorem ic_post : gm_ir (ap_post N A a b).1 := by
  have T : ∀ {P : Prop} {u v : Int × Int × (Int → Int) × List (Int → Int)}, gm_ir u.1 → gm_ir v.1 → gm_ir (tif P u v).1 := fun hu hv => tif_i (C := fun q : Int × Int × (Int → Int) × List (Int → Int) => gm_ir q.1) hu hv
  unfold ap_post
  exact T (show (-2147483648 : Int) ≤ 1 ∧ (1 : Int) < 2147483648 from by decide) (T (show (-2147483648 : Int) ≤ 2 ∧ (2 : Int) < 2147483648 from by decide) (T (show (-2147483648 : Int) ≤ 3 ∧ (3 : Int) < 2147483648 from by decide) ((show (-2147483648 : Int) ≤ 0 ∧ (0 : Int) < 2147483648 from by decide))))
theorem ow_post (hb : bg g la K R M) (hg : g < 10000) (hR : REL la K M N lw A im t w f) (h : gm_at 370 pc = some (.invokestatic ix)) (hc : gm_cal (gm_ow 370) ix = some (5, 151)) (hst : (st.map gm_cat).sum ≤ 8) (s0 : ∀ S ∈ l0, ck_Ok p2_O X LX 151 S) (s1 : ∀ S ∈ l1, ck_Ok p2_OL X LX 151 S) (c0 : l0.all (w_x p2_O 0 0 1 true) = true) (c1 : l1.all (w_x p2_OL 246 1 1 true) = true) (v0 : bc_cov 60 ds (l0.map bc_box) = true) (v1 : bc_cov 60 ds (l1.map bc_box) = true) (hx : bc_in ds [a, b]) (ha : gm_ir a) (hb2 : gm_ir b) (hbc : 6 ≤ bc) (hbs : 600 ≤ bs) (k : mw_K X LX bc bs (pc + 3) L st Q g (some (gm_vi (ap_post N A a b).1)) (oV (ap_post N A a b).1 (ap_post N A a b).2.1) (fun la2 K2 M2 => MID la2 K2 M2 (ap_post N A a b).2.2.1 lw (ap_post N A a b).2.2.2 im t w f N lw A im t w f)) : gm_Wp X LX 280 bc bs 370 pc L (gm_vr 245 :: gm_vi b :: gm_vi a :: gm_vr 1 :: st) (245 + 4 * g) K R M Q := by
  refine mw_x (xs := [a, b]) (mj := 151) (u := some (gm_vi (ap_post N A a b).1)) (ov := oV (ap_post N A a b).1 (ap_post N A a b).2.1) (RR := fun z g1 R1 M1 => STEP (bs_R z g1) R1 (bs_M la M) M1 A (ap_post N A a b).2.2.2) hb hg hR (ra_post hR.1 ha hb2) h hc (by decide +kernel) (by decide +kernel) (show 2 + 2 = gm_na 151 by decide +kernel) (show 2 + 2 ≤ gm_ml 151 by decide +kernel) hst s0 s1 c0 c1 v0 v1 hx (by intro v hv; simp only [List.mem_cons, List.not_mem_nil, or_false] at hv; rcases hv with rfl | rfl <;> assumption) hbc hbs (Or.inr ⟨_, rfl⟩) (fun z g1 hz hz3 => ?_) (fun z g1 R1 M1 hz hs => rv_step hz hs) (fun z g1 R1 M1 K2 M2 hz hs eK eM e42 => lwl_step hR.2.1 hb.2.2.2 hz hs e42 eK eM) k
  have hE := e0_w hb hz
  exact hl_151 (k1_e hE) (gm_Wp_mono (fun o n1 K1 R1 M1 hq => ⟨hq.1, hq.2.imp (fun ⟨v, e, q⟩ => ⟨v, e, dq_aq q⟩) (fun ⟨i, hi, e, q⟩ => ⟨i, hi, e, dq_aq q⟩)⟩) (ca_post (d := 278) (bc := 6) (bs := 600) (by decide) (by decide) (by decide) hE (k245 hE).1 (k245 hE).2 hR.1.1 (clv_w hb hR.2.2.1) ha hb2))
theorem om_post (hb : bg g la K R M) (hg : g < 10000) (hR : MID la K M (ap_post N A a b).2.2.1 lw (ap_post N A a b).2.2.2 im t w f N lw A im t w f) (h : gm_at 370 pc = some (.invokevirtual ix)) (hc : gm_cal (gm_ow 370) ix = some (0, 315)) (hst : (st.map gm_cat).sum ≤ 8) (s0 : ∀ S ∈ l9, ck_Ok p2_O X LX 315 S) (c0 : l9.all w_m = true) (v0 : bc_cov 60 ds (l9.map bc_box) = true) (hx : bc_in ds [a, b]) (ha : gm_ir a) (hb2 : gm_ir b) (hbc : 6 ≤ bc) (hbs : 600 ≤ bs) (k : mm_K X LX bc bs (pc + 3) L st Q g M (PV (ap_post N A a b).1 (ap_post N A a b).2.1) (some (ap_post N A a b).1) (fun la2 K2 M2 => REL la2 K2 M2 (ap_post N A a b).2.2.1 lw (ap_post N A a b).2.2.2 im t w f)) : gm_Wp X LX 280 bc bs 370 pc L (gm_vi b :: gm_vi a :: gm_vr 226 :: st) (245 + 4 * g) K R M Q := by
  refine mw_m (xs := [a, b]) (mj := 315) (P := PV (ap_post N A a b).1 (ap_post N A a b).2.1) (oc := some (ap_post N A a b).1) hb hg hR h hc (by decide +kernel) (by decide +kernel) (show 2 = gm_na 315 by decide +kernel) (show 2 + 1 ≤ gm_ml 315 by decide +kernel) hst s0 c0 v0 hx (by intro v hv; simp only [List.mem_cons, List.not_mem_nil, or_false] at hv; rcases hv with rfl | rfl <;> assumption) hbc hbs pv_u ?_ k
  exact gm_Wp_mono (fun o n1 K1 R1 M1 hq => rd_rq ic_post hq) (rr_post (by decide) (e0_w hb (Or.inr (Or.inl ⟨rfl, rfl⟩))) hR.2.1.1 (rfv_w hR.2.2.2.2) ha hb2)
theorem ic_watch : gm_ir (ap_watch N A p l).1 := by
  have T : ∀ {P : Prop} {u v : Int × Int × (Int → Int) × List (Int → Int)}, gm_ir u.1 → gm_ir v.1 → gm_ir (tif P u v).1 := fun hu hv => tif_i (C := fun q : Int × Int × (Int → Int) × List (Int → Int) => gm_ir q.1) hu hv
  unfold ap_watch
  exact T (show (-2147483648 : Int) ≤ 1 ∧ (1 : Int) < 2147483648 from by decide) ((show (-2147483648 : Int) ≤ 0 ∧ (0 : Int) < 2147483648 from by decide))
theorem ow_watch (hb : bg g la K R M) (hg : g < 10000) (hR : REL la K M N lw A im t w f) (h : gm_at 370 pc = some (.invokestatic ix)) (hc : gm_cal (gm_ow 370) ix = some (5, 155)) (hst : (st.map gm_cat).sum ≤ 8) (s0 : ∀ S ∈ l0, ck_Ok p2_O X LX 155 S) (s1 : ∀ S ∈ l1, ck_Ok p2_OL X LX 155 S) (c0 : l0.all (w_x p2_O 0 0 1 true) = true) (c1 : l1.all (w_x p2_OL 246 1 1 true) = true) (v0 : bc_cov 60 ds (l0.map bc_box) = true) (v1 : bc_cov 60 ds (l1.map bc_box) = true) (hx : bc_in ds [p, l]) (hp : gm_ir p) (hl : gm_ir l) (hbc : 6 ≤ bc) (hbs : 600 ≤ bs) (k : mw_K X LX bc bs (pc + 3) L st Q g (some (gm_vi (ap_watch N A p l).1)) (oV (ap_watch N A p l).1 (ap_watch N A p l).2.1) (fun la2 K2 M2 => MID la2 K2 M2 (ap_watch N A p l).2.2.1 lw (ap_watch N A p l).2.2.2 im t w f N lw A im t w f)) : gm_Wp X LX 280 bc bs 370 pc L (gm_vr 245 :: gm_vi l :: gm_vi p :: gm_vr 1 :: st) (245 + 4 * g) K R M Q := by
  refine mw_x (xs := [p, l]) (mj := 155) (u := some (gm_vi (ap_watch N A p l).1)) (ov := oV (ap_watch N A p l).1 (ap_watch N A p l).2.1) (RR := fun z g1 R1 M1 => STEP (bs_R z g1) R1 (bs_M la M) M1 A (ap_watch N A p l).2.2.2) hb hg hR (ra_watch hR.1 hl) h hc (by decide +kernel) (by decide +kernel) (show 2 + 2 = gm_na 155 by decide +kernel) (show 2 + 2 ≤ gm_ml 155 by decide +kernel) hst s0 s1 c0 c1 v0 v1 hx (by intro v hv; simp only [List.mem_cons, List.not_mem_nil, or_false] at hv; rcases hv with rfl | rfl <;> assumption) hbc hbs (Or.inr ⟨_, rfl⟩) (fun z g1 hz hz3 => ?_) (fun z g1 R1 M1 hz hs => rv_step hz hs) (fun z g1 R1 M1 K2 M2 hz hs eK eM e42 => lwl_step hR.2.1 hb.2.2.2 hz hs e42 eK eM) k
  have hE := e0_w hb hz
  exact hl_155 (k1_e hE) (gm_Wp_mono (fun o n1 K1 R1 M1 hq => ⟨hq.1, hq.2.imp (fun ⟨v, e, q⟩ => ⟨v, e, dq_aq q⟩) (fun ⟨i, hi, e, q⟩ => ⟨i, hi, e, dq_aq q⟩)⟩) (ca_watch (d := 278) (bc := 6) (bs := 600) (by decide) (by decide) (by decide) hE (k245 hE).1 (k245 hE).2 hR.1.1 (clv_w hb hR.2.2.1) hp hl))
theorem om_watch (hb : bg g la K R M) (hg : g < 10000) (hR : MID la K M (ap_watch N A p l).2.2.1 lw (ap_watch N A p l).2.2.2 im t w f N lw A im t w f) (h : gm_at 370 pc = some (.invokevirtual ix)) (hc : gm_cal (gm_ow 370) ix = some (0, 317)) (hst : (st.map gm_cat).sum ≤ 8) (s0 : ∀ S ∈ l9, ck_Ok p2_O X LX 317 S) (c0 : l9.all w_m = true) (v0 : bc_cov 60 ds (l9.map bc_box) = true) (hx : bc_in ds [p, l]) (hp : gm_ir p) (hl : gm_ir l) (hbc : 6 ≤ bc) (hbs : 600 ≤ bs) (k : mm_K X LX bc bs (pc + 3) L st Q g M (PV (ap_watch N A p l).1 (ap_watch N A p l).2.1) (some (ap_watch N A p l).1) (fun la2 K2 M2 => REL la2 K2 M2 (ap_watch N A p l).2.2.1 lw (ap_watch N A p l).2.2.2 im t w f)) : gm_Wp X LX 280 bc bs 370 pc L (gm_vi l :: gm_vi p :: gm_vr 226 :: st) (245 + 4 * g) K R M Q := by
  refine mw_m (xs := [p, l]) (mj := 317) (P := PV (ap_watch N A p l).1 (ap_watch N A p l).2.1) (oc := some (ap_watch N A p l).1) hb hg hR h hc (by decide +kernel) (by decide +kernel) (show 2 = gm_na 317 by decide +kernel) (show 2 + 1 ≤ gm_ml 317 by decide +kernel) hst s0 c0 v0 hx (by intro v hv; simp only [List.mem_cons, List.not_mem_nil, or_false] at hv; rcases hv with rfl | rfl <;> assumption) hbc hbs pv_u ?_ k
  exact gm_Wp_mono (fun o n1 K1 R1 M1 hq => rd_rq ic_watch hq) (rr_watch (by decide) (e0_w hb (Or.inr (Or.inl ⟨rfl, rfl⟩))) hR.2.1.1 (rfv_w hR.2.2.2.2) hp hl)
theorem ic_open : gm_ir (ap_open lw N A l).1 := by
  have T : ∀ {P : Prop} {u v : Int × Int × (Int → Int) × List (Int → Int)}, gm_ir u.1 → gm_ir v.1 → gm_ir (tif P u v).1 := fun hu hv => tif_i (C := fun q : Int × Int × (Int → Int) × List (Int → Int) => gm_ir q.1) hu hv
  unfold ap_open
  exact T (show (-2147483648 : Int) ≤ 1 ∧ (1 : Int) < 2147483648 from by decide) (T (show (-2147483648 : Int) ≤ 2 ∧ (2 : Int) < 2147483648 from by decide) ((show (-2147483648 : Int) ≤ 0 ∧ (0 : Int) < 2147483648 from by decide)))
theorem ow_open (hb : bg g la K R M) (hg : g < 10000) (hR : REL la K M N lw A im t w f) (h : gm_at 370 pc = some (.invokestatic ix)) (hc : gm_cal (gm_ow 370) ix = some (5, 157)) (hst : (st.map gm_cat).sum ≤ 8) (s0 : ∀ S ∈ l0, ck_Ok p2_O X LX 157 S) (s1 : ∀ S ∈ l1, ck_Ok p2_OL X LX 157 S) (c0 : l0.all (w_x p2_O 0 0 1 true) = true) (c1 : l1.all (w_x p2_OL 246 1 1 true) = true) (v0 : bc_cov 60 ds (l0.map bc_box) = true) (v1 : bc_cov 60 ds (l1.map bc_box) = true) (hx : bc_in ds [l]) (hl : gm_ir l) (hbc : 6 ≤ bc) (hbs : 600 ≤ bs) (k : mw_K X LX bc bs (pc + 3) L st Q g (some (gm_vi (ap_open lw N A l).1)) (oV (ap_open lw N A l).1 (ap_open lw N A l).2.1) (fun la2 K2 M2 => MID la2 K2 M2 (ap_open lw N A l).2.2.1 lw (ap_open lw N A l).2.2.2 im t w f N lw A im t w f)) : gm_Wp X LX 280 bc bs 370 pc L (gm_vr 245 :: gm_vi l :: gm_vr 1 :: st) (245 + 4 * g) K R M Q := by
  refine mw_x (xs := [l]) (mj := 157) (u := some (gm_vi (ap_open lw N A l).1)) (ov := oV (ap_open lw N A l).1 (ap_open lw N A l).2.1) (RR := fun z g1 R1 M1 => STEP (bs_R z g1) R1 (bs_M la M) M1 A (ap_open lw N A l).2.2.2) hb hg hR (ra_open hR.1) h hc (by decide +kernel) (by decide +kernel) (show 1 + 2 = gm_na 157 by decide +kernel) (show 1 + 2 ≤ gm_ml 157 by decide +kernel) hst s0 s1 c0 c1 v0 v1 hx (by intro v hv; simp only [List.mem_cons, List.not_mem_nil, or_false] at hv; rcases hv with rfl <;> assumption) hbc hbs (Or.inr ⟨_, rfl⟩) (fun z g1 hz hz3 => ?_) (fun z g1 R1 M1 hz hs => rv_step hz hs) (fun z g1 R1 M1 K2 M2 hz hs eK eM e42 => lwl_step hR.2.1 hb.2.2.2 hz hs e42 eK eM) k
  have hE := e0_w hb hz
  obtain ⟨NC, C, Ln, hcc, hlb⟩ := cc_w hb hz hz3 hR.2.1.1 hR.2.2.2.1.2.1
  exact hl_157 (k1_e hE) (gm_Wp_mono (fun o n1 K1 R1 M1 hq => ⟨hq.1, hq.2.imp (fun ⟨v, e, q⟩ => ⟨v, e, dq_aq q⟩) (fun ⟨i, hi, e, q⟩ => ⟨i, hi, e, dq_aq q⟩)⟩) (ca_open (d := 278) (bc := 6) (bs := 600) (by decide) (by decide) (by decide) hE (k245 hE).1 (k245 hE).2 hcc hlb hR.1.1 (clv_w hb hR.2.2.1) hl))
theorem om_open (hb : bg g la K R M) (hg : g < 10000) (hR : MID la K M (ap_open lw N A l).2.2.1 lw (ap_open lw N A l).2.2.2 im t w f N lw A im t w f) (h : gm_at 370 pc = some (.invokevirtual ix)) (hc : gm_cal (gm_ow 370) ix = some (0, 318)) (hst : (st.map gm_cat).sum ≤ 8) (s0 : ∀ S ∈ l9, ck_Ok p2_O X LX 318 S) (c0 : l9.all w_m = true) (v0 : bc_cov 60 ds (l9.map bc_box) = true) (hx : bc_in ds [l]) (hl : gm_ir l) (hbc : 6 ≤ bc) (hbs : 600 ≤ bs) (k : mm_K X LX bc bs (pc + 3) L st Q g M (PV (ap_open lw N A l).1 (ap_open lw N A l).2.1) (some (ap_open lw N A l).1) (fun la2 K2 M2 => REL la2 K2 M2 (ap_open lw N A l).2.2.1 lw (ap_open lw N A l).2.2.2 im t w f)) : gm_Wp X LX 280 bc bs 370 pc L (gm_vi l :: gm_vr 226 :: st) (245 + 4 * g) K R M Q := by
  refine mw_m (xs := [l]) (mj := 318) (P := PV (ap_open lw N A l).1 (ap_open lw N A l).2.1) (oc := some (ap_open lw N A l).1) hb hg hR h hc (by decide +kernel) (by decide +kernel) (show 1 = gm_na 318 by decide +kernel) (show 1 + 1 ≤ gm_ml 318 by decide +kernel) hst s0 c0 v0 hx (by intro v hv; simp only [List.mem_cons, List.not_mem_nil, or_false] at hv; rcases hv with rfl <;> assumption) hbc hbs pv_u ?_ k
  exact gm_Wp_mono (fun o n1 K1 R1 M1 hq => rd_rq ic_open hq) (rr_open (by decide) (e0_w hb (Or.inr (Or.inl ⟨rfl, rfl⟩))) (gJ_w hb) (ns6 (bs_F0 (z := 100003) hb) (rfv_w (la := la) hR.2.2.2.2).1.1.1 hR.2.1.1.1.1) hR.2.1.1 (rfv_w hR.2.2.2.2) hl)
theorem ic_years : gm_ir (ap_years lw N A y).1 := by
  have T : ∀ {P : Prop} {u v : Int × Int × (Int → Int) × List (Int → Int)}, gm_ir u.1 → gm_ir v.1 → gm_ir (tif P u v).1 := fun hu hv => tif_i (C := fun q : Int × Int × (Int → Int) × List (Int → Int) => gm_ir q.1) hu hv
  unfold ap_years
  exact T (show (-2147483648 : Int) ≤ 1 ∧ (1 : Int) < 2147483648 from by decide) ((show (-2147483648 : Int) ≤ 0 ∧ (0 : Int) < 2147483648 from by decide))
theorem ow_years (hb : bg g la K R M) (hg : g < 10000) (hR : REL la K M N lw A im t w f) (h : gm_at 370 pc = some (.invokestatic ix)) (hc : gm_cal (gm_ow 370) ix = some (5, 160)) (hst : (st.map gm_cat).sum ≤ 8) (s0 : ∀ S ∈ l0, ck_Ok p2_O X LX 160 S) (s1 : ∀ S ∈ l1, ck_Ok p2_OL X LX 160 S) (c0 : l0.all (w_x p2_O 0 0 1 true) = true) (c1 : l1.all (w_x p2_OL 246 1 1 true) = true) (v0 : bc_cov 60 ds (l0.map bc_box) = true) (v1 : bc_cov 60 ds (l1.map bc_box) = true) (hx : bc_in ds [y]) (hy : gm_ir y) (hbc : 6 ≤ bc) (hbs : 600 ≤ bs) (k : mw_K X LX bc bs (pc + 3) L st Q g (some (gm_vi (ap_years lw N A y).1)) (oV (ap_years lw N A y).1 (ap_years lw N A y).2.1) (fun la2 K2 M2 => MID la2 K2 M2 (ap_years lw N A y).2.2.1 lw (ap_years lw N A y).2.2.2 im t w f N lw A im t w f)) : gm_Wp X LX 280 bc bs 370 pc L (gm_vr 245 :: gm_vi y :: gm_vr 1 :: st) (245 + 4 * g) K R M Q := by
  refine mw_x (xs := [y]) (mj := 160) (u := some (gm_vi (ap_years lw N A y).1)) (ov := oV (ap_years lw N A y).1 (ap_years lw N A y).2.1) (RR := fun z g1 R1 M1 => STEP (bs_R z g1) R1 (bs_M la M) M1 A (ap_years lw N A y).2.2.2) hb hg hR (ra_years hR.1) h hc (by decide +kernel) (by decide +kernel) (show 1 + 2 = gm_na 160 by decide +kernel) (show 1 + 2 ≤ gm_ml 160 by decide +kernel) hst s0 s1 c0 c1 v0 v1 hx (by intro v hv; simp only [List.mem_cons, List.not_mem_nil, or_false] at hv; rcases hv with rfl <;> assumption) hbc hbs (Or.inr ⟨_, rfl⟩) (fun z g1 hz hz3 => ?_) (fun z g1 R1 M1 hz hs => rv_step hz hs) (fun z g1 R1 M1 K2 M2 hz hs eK eM e42 => lwl_step hR.2.1 hb.2.2.2 hz hs e42 eK eM) k
  have hE := e0_w hb hz
  obtain ⟨NC, C, Ln, hcc, hlb⟩ := cc_w hb hz hz3 hR.2.1.1 hR.2.2.2.1.2.1
  exact hl_160 (k1_e hE) (gm_Wp_mono (fun o n1 K1 R1 M1 hq => ⟨hq.1, hq.2.imp (fun ⟨v, e, q⟩ => ⟨v, e, dq_aq q⟩) (fun ⟨i, hi, e, q⟩ => ⟨i, hi, e, dq_aq q⟩)⟩) (ca_years (d := 278) (bc := 6) (bs := 600) (by decide) (by decide) (by decide) hE (k245 hE).1 (k245 hE).2 hcc hlb hR.1.1 (clv_w hb hR.2.2.1) hy))
theorem om_years (hb : bg g la K R M) (hg : g < 10000) (hR : MID la K M (ap_years lw N A y).2.2.1 lw (ap_years lw N A y).2.2.2 im t w f N lw A im t w f) (h : gm_at 370 pc = some (.invokevirtual ix)) (hc : gm_cal (gm_ow 370) ix = some (0, 320)) (hst : (st.map gm_cat).sum ≤ 8) (s0 : ∀ S ∈ l9, ck_Ok p2_O X LX 320 S) (c0 : l9.all w_m = true) (v0 : bc_cov 60 ds (l9.map bc_box) = true) (hx : bc_in ds [y]) (hy : gm_ir y) (hbc : 6 ≤ bc) (hbs : 600 ≤ bs) (k : mm_K X LX bc bs (pc + 3) L st Q g M (PV (ap_years lw N A y).1 (ap_years lw N A y).2.1) (some (ap_years lw N A y).1) (fun la2 K2 M2 => REL la2 K2 M2 (ap_years lw N A y).2.2.1 lw (ap_years lw N A y).2.2.2 im t w f)) : gm_Wp X LX 280 bc bs 370 pc L (gm_vi y :: gm_vr 226 :: st) (245 + 4 * g) K R M Q := by
  refine mw_m (xs := [y]) (mj := 320) (P := PV (ap_years lw N A y).1 (ap_years lw N A y).2.1) (oc := some (ap_years lw N A y).1) hb hg hR h hc (by decide +kernel) (by decide +kernel) (show 1 = gm_na 320 by decide +kernel) (show 1 + 1 ≤ gm_ml 320 by decide +kernel) hst s0 c0 v0 hx (by intro v hv; simp only [List.mem_cons, List.not_mem_nil, or_false] at hv; rcases hv with rfl <;> assumption) hbc hbs pv_u ?_ k
  exact gm_Wp_mono (fun o n1 K1 R1 M1 hq => rd_rq ic_years hq) (rr_years (by decide) (e0_w hb (Or.inr (Or.inl ⟨rfl, rfl⟩))) (gJ_w hb) (ns6 (bs_F0 (z := 100003) hb) (rfv_w (la := la) hR.2.2.2.2).1.1.1 hR.2.1.1.1.1) hR.2.1.1 (rfv_w hR.2.2.2.2) hy)
end OPX
end OP17
end
/-! 7c18.ov -/
section
/-! A TEXT OF THE VALLEY, UNDO, THE IMAGE, BACK, FEED, told of the world. -/
section OV18
variable {X : Int → Int} {LX : Nat} {g z g1 n : Nat} {la la2 : Nat → Nat} {K K1 K2 : gm_K} {R R1 R2 : gm_R} {M M1 M2 : gm_M} {L : gm_L} {st : List gm_V} {Q : gm_Q} {N N0 : Int → Int} {lw lw0 : Option (List lln)} {A A0 A' : List (Int → Int)} {im im0 : Option ((Int → Int) × Option (List lln))} {t w t0 w0 : Int} {f f0 a : Int → Int} {o : gm_O} {n1 bc bs pc ix : Nat} {l0 l1 l9 : List ck_Sum} {ds : List (Int × Int)}
theorem vf_ra (h : RA N lw A im t w f) : VF f t := ⟨h.2.2.2.2.1, h.2.2.2.2.2.2⟩
theorem ov_A : (ap_valley f t N A).2.2.2.1 = A ∨ (ap_valley f t N A).2.2.2.1 = [] := by
  unfold ap_valley
  by_cases h1 : ¬ (v_val f t N).1 = true
  · rw [tif_t h1]; exact Or.inl rfl
  rw [tif_f h1]
  by_cases h2 : N 7 = 12
  · rw [tif_t h2]; exact Or.inl rfl
  rw [tif_f h2]
  exact Or.inr rfl
theorem ic_valley : gm_ir (ap_valley f t N A).1 := by
  unfold ap_valley
  by_cases h1 : ¬ (v_val f t N).1 = true
  · rw [tif_t h1]; exact (show (-2147483648 : Int) ≤ 1 ∧ (1 : Int) < 2147483648 from by decide)
  rw [tif_f h1]
  by_cases h2 : N 7 = 12
  · rw [tif_t h2]; exact (show (-2147483648 : Int) ≤ 2 ∧ (2 : Int) < 2147483648 from by decide)
  rw [tif_f h2]
  exact (show (-2147483648 : Int) ≤ 0 ∧ (0 : Int) < 2147483648 from by decide)
theorem ic_law : gm_ir (ap_law f t lw A).1 := by
  unfold ap_law
  by_cases h1 : ¬ (g_law f t).1 = true
  · rw [tif_t h1]; exact (show (-2147483648 : Int) ≤ 1 ∧ (1 : Int) < 2147483648 from by decide)
  rw [tif_f h1]
  exact (show (-2147483648 : Int) ≤ 0 ∧ (0 : Int) < 2147483648 from by decide)
/-- the class's TAPE, told exactly -/
theorem fe_ne (h : M 1 1 = t) {k : Nat} {j : Int} (hk : ¬ k = 2) : fe M t f k j = M k j := by
  by_cases e : k = 1 ∧ j = 1
  · obtain ⟨rfl, rfl⟩ := e
    exact fe_11.trans h.symm
  · exact fe_x e hk
theorem ow_valley (hb : bg g la K R M) (hg : g < 10000) (hR : REL la K M N lw A im t w f) (h : gm_at 370 pc = some (.invokestatic ix)) (hc : gm_cal (gm_ow 370) ix = some (5, 70)) (hst : (st.map gm_cat).sum ≤ 8) (s0 : ∀ S ∈ l0, ck_Ok p2_O X LX 70 S) (s1 : ∀ S ∈ l1, ck_Ok p2_OL X LX 70 S) (c0 : l0.all (w_x p2_O 0 0 1 true) = true) (c1 : l1.all (w_x p2_OL 246 1 1 true) = true) (v0 : bc_cov 60 ds (l0.map bc_box) = true) (v1 : bc_cov 60 ds (l1.map bc_box) = true) (hx : bc_in ds []) (hbc : 6 ≤ bc) (hbs : 600 ≤ bs) (k : mw_K X LX bc bs (pc + 3) L st Q g (some (gm_vi (ap_valley f t N A).1)) (oV (ap_valley f t N A).1 (ap_valley f t N A).2.1) (fun la2 K2 M2 => MID la2 K2 M2 (ap_valley f t N A).2.2.1 lw (ap_valley f t N A).2.2.2.1 im 0 (ap_valley f t N A).2.2.2.2 f N lw A im t w f)) : gm_Wp X LX 280 bc bs 370 pc L (gm_vr 245 :: gm_vr 1 :: st) (245 + 4 * g) K R M Q := by
  refine mw_x (xs := []) (mj := 70) (u := some (gm_vi (ap_valley f t N A).1)) (ov := oV (ap_valley f t N A).1 (ap_valley f t N A).2.1) (RR := fun z g1 R1 M1 => M1 42 1 = M 42 1 ∧ (R1 = gm_uR (bs_R z g1) 16 8 (bs_R z g1 3 8) ∨ R1 = gm_uR (gm_uR (bs_R z g1) 16 8 (bs_R z g1 3 8)) 3 8 ((gm_uR (bs_R z g1) 16 8 (bs_R z g1 3 8)) 16 8))) hb hg hR (ra_valley hR.1) h hc (by decide +kernel) (by decide +kernel) (show 0 + 2 = gm_na 70 by decide +kernel) (show 0 + 2 ≤ gm_ml 70 by decide +kernel) hst s0 s1 c0 c1 v0 v1 hx (fun _ h => nomatch h) hbc hbs (Or.inr ⟨_, rfl⟩) (fun z g1 hz hz3 => ?_) (fun z g1 R1 M1 hz hs => rv_v hz hs.2) (fun z g1 R1 M1 K2 M2 hz hs eK eM e42 => lwl_v hR.2.1 hb.2.2.2 hz hs.2 ov_A (e42.trans hs.1) eK eM) k
  have hE := e0_w hb hz
  have hV := clv_w hb hR.2.2.1
  have F0 := bs_F0 (z := 0) hb
  have k2 := (hE.1 2 (1, 400) (by decide +kernel)).2
  have m214 : bs_M la M 214 1 = 4 := by
    have := ((gm_tyr_s F0 (show gm_tyr p2_O 214 1 1 = some (4, 4) by decide +kernel)).2 1 (Int.le_refl _) (Int.le_refl _)).2
    omega
  have m213 : bs_M la M 213 1 = 14 := by
    have := ((gm_tyr_s F0 (show gm_tyr p2_O 213 1 1 = some (14, 14) by decide +kernel)).2 1 (Int.le_refl _) (Int.le_refl _)).2
    omega
  have e42 : fe (bs_M la M) t f 42 1 = M 42 1 := (fe_ne hV.2.2.2.2.1.1 (by decide)).trans (vM (by decide))
  refine gm_Wp_nM (c := 2) (len := 400) (M' := fe (bs_M la M) t f) k2 (fun k j hk => fe_ne hV.2.2.2.2.1.1 hk) (fun j hj => fe_2.trans (hV.2.2.2.2.2 (j : Int) (by omega) (by omega)).symm) ?_
  have cv := fun {o : gm_O} {n1 : Nat} {K1 : gm_K} {R1 : gm_R} {M1 : gm_M} (q : VQ (245 + 4 * g1) (bs_K la K) (bs_R z g1) (fe (bs_M la M) t f) (ap_valley f t N A) lw im f o n1 K1 R1 M1) => (show DQ (245 + 4 * g1) (bs_K la K) (some (gm_vi (ap_valley f t N A).1)) (oV (ap_valley f t N A).1 (ap_valley f t N A).2.1) (fun R1 M1 => M1 42 1 = M 42 1 ∧ (R1 = gm_uR (bs_R z g1) 16 8 (bs_R z g1 3 8) ∨ R1 = gm_uR (gm_uR (bs_R z g1) 16 8 (bs_R z g1 3 8)) 3 8 ((gm_uR (bs_R z g1) 16 8 (bs_R z g1 3 8)) 16 8))) (ap_valley f t N A).2.2.1 lw (ap_valley f t N A).2.2.2.1 im 0 (ap_valley f t N A).2.2.2.2 f o n1 K1 R1 M1 from ⟨(dq_vq q).1, (dq_vq q).2.1, (dq_vq q).2.2.1, (dq_vq q).2.2.2.1, (dq_vq q).2.2.2.2.1.trans e42, (dq_vq q).2.2.2.2.2⟩)
  exact hl_70 (k1_e hE) (gm_Wp_mono (fun o n1 K1 R1 M1 hq => ⟨hq.1, hq.2.imp (fun ⟨v, e, q⟩ => ⟨v, e, cv q⟩) (fun ⟨i, hi, e, q⟩ => ⟨i, hi, e, cv q⟩)⟩) (ca_valley (d := 278) (bc := 6) (bs := 600) (by decide) (by decide) (by decide) hE (k245 hE).1 (k245 hE).2 (vf_ra hR.1) (funext fun j => fe_2) ((fe_x (by omega) (by decide)).trans m214) ((fe_x (by omega) (by decide)).trans m213) hR.1.1 (clv_tape hV (fun _ _ _ => rfl))))
theorem rf_exact (hV : RFV N lw A im t w f M) : RFV N lw A im t w f (fun k j => if k = 231 then f j else M k j) := rfv_tape hV ((if_neg (by decide)).trans hV.2.2.2.1.1) (fun j _ _ => if_pos rfl) (fun k j _ hk _ => if_neg hk)
theorem om_valley (hb : bg g la K R M) (hg : g < 10000) (hR : MID la K M (ap_valley f t N A).2.2.1 lw (ap_valley f t N A).2.2.2.1 im 0 (ap_valley f t N A).2.2.2.2 f N lw A im t w f) (h : gm_at 370 pc = some (.invokevirtual ix)) (hc : gm_cal (gm_ow 370) ix = some (0, 242)) (hst : (st.map gm_cat).sum ≤ 8) (s0 : ∀ S ∈ l9, ck_Ok p2_O X LX 242 S) (c0 : l9.all w_m = true) (v0 : bc_cov 60 ds (l9.map bc_box) = true) (hx : bc_in ds []) (hbc : 6 ≤ bc) (hbs : 600 ≤ bs) (k : mm_K X LX bc bs (pc + 3) L st Q g M (PV (ap_valley f t N A).1 (ap_valley f t N A).2.1) (some (ap_valley f t N A).1) (fun la2 K2 M2 => REL la2 K2 M2 (ap_valley f t N A).2.2.1 lw (ap_valley f t N A).2.2.2.1 im 0 (ap_valley f t N A).2.2.2.2 f)) : gm_Wp X LX 280 bc bs 370 pc L (gm_vr 226 :: st) (245 + 4 * g) K R M Q := by
  refine mw_m (xs := []) (mj := 242) (P := PV (ap_valley f t N A).1 (ap_valley f t N A).2.1) (oc := some (ap_valley f t N A).1) hb hg hR h hc (by decide +kernel) (by decide +kernel) (show 0 = gm_na 242 by decide +kernel) (show 0 + 1 ≤ gm_ml 242 by decide +kernel) hst s0 c0 v0 hx (fun _ h => nomatch h) hbc hbs pv_u ?_ k
  have hE : E0 245 (bs_K la K) (bs_R 100003 0) := e0_w hb (Or.inr (Or.inl ⟨rfl, rfl⟩))
  have hV := rfv_w (la := la) hR.2.2.2.2
  have k231 := (hE.1 231 (1, 400) (by decide +kernel)).2
  refine gm_Wp_nM (c := 231) (len := 400) (M' := fun k j => if k = 231 then f j else bs_M la M k j) k231 (fun k j hk => if_neg hk) (fun j hj => (if_pos rfl).trans (hV.2.2.2.2 (j : Int) (by omega) (by omega)).symm) ?_
  exact gm_Wp_mono (fun o n1 K1 R1 M1 hq => rd_rv ic_valley hq) (rr_valley (by decide) hE (vf_ra hR.2.1) (funext fun j => if_pos rfl) hR.2.1.1 (rf_exact hV))
theorem ow_undo (hb : bg g la K R M) (hg : g < 10000) (hR : REL la K M N lw A im t w f) (h : gm_at 370 pc = some (.invokevirtual ix)) (hc : gm_cal (gm_ow 370) ix = some (0, 54)) (hst : (st.map gm_cat).sum ≤ 8) (s0 : ∀ S ∈ l0, ck_Ok p2_O X LX 54 S) (s1 : ∀ S ∈ l1, ck_Ok p2_OL X LX 54 S) (c0 : l0.all (w_x p2_O 0 0 1 false) = true) (c1 : l1.all (w_x p2_OL 246 1 1 false) = true) (v0 : bc_cov 60 ds (l0.map bc_box) = true) (v1 : bc_cov 60 ds (l1.map bc_box) = true) (hx : bc_in ds []) (hbc : 6 ≤ bc) (hbs : 600 ≤ bs) (k : mw_K X LX bc bs (pc + 3) L st Q g (some (gm_vi (ap_undo N A).1)) none (fun la2 K2 M2 => MID la2 K2 M2 (ap_undo N A).2.1 lw (ap_undo N A).2.2 im t w f N lw A im t w f)) : gm_Wp X LX 280 bc bs 370 pc L (gm_vr 1 :: st) (245 + 4 * g) K R M Q :=
  mw_d (xs := []) (mj := 54) (u := some (gm_vi (ap_undo N A).1)) (ov := none) (RR := fun z g1 R1 M1 => STEP (bs_R z g1) R1 (bs_M la M) M1 A (ap_undo N A).2.2) hb hg hR (ra_undo hR.1) h hc (by decide +kernel) (by decide +kernel) (show 0 = gm_na 54 by decide +kernel) (show 0 + 1 ≤ gm_ml 54 by decide +kernel) hst s0 s1 c0 c1 v0 v1 hx (fun _ h => nomatch h) hbc hbs (Or.inr ⟨_, rfl⟩) (fun z g1 hz hz3 => gm_Wp_mono (fun o n1 K1 R1 M1 hq => dq_cq hq) (ca_undo (by decide) (e0_w hb hz) hR.1.1 hR.1.2.2.1 (clv_w hb hR.2.2.1))) (fun z g1 R1 M1 hz hs => rv_step hz hs) (fun z g1 R1 M1 K2 M2 hz hs eK eM e42 => lwl_step hR.2.1 hb.2.2.2 hz hs e42 eK eM) k
theorem pu_u {v : Int} : ∀ u, PU (some (gm_vi v)) u → u = none ∨ ∃ x, u = some (gm_vi x) := fun u e => Or.inr ⟨v, e⟩
theorem pu_n : ∀ u, PU none u → u = none ∨ ∃ x, u = some (gm_vi x) := fun u e => Or.inl e
theorem om_undo (hb : bg g la K R M) (hg : g < 10000) (hR : MID la K M (ap_undo N A).2.1 lw (ap_undo N A).2.2 im t w f N lw A im t w f) (h : gm_at 370 pc = some (.invokevirtual ix)) (hc : gm_cal (gm_ow 370) ix = some (0, 238)) (hst : (st.map gm_cat).sum ≤ 8) (s0 : ∀ S ∈ l9, ck_Ok p2_O X LX 238 S) (c0 : l9.all w_m = true) (v0 : bc_cov 60 ds (l9.map bc_box) = true) (hx : bc_in ds []) (hbc : 6 ≤ bc) (hbs : 600 ≤ bs) (k : mm_K X LX bc bs (pc + 3) L st Q g M (PU (some (gm_vi (ap_undo N A).1))) none (fun la2 K2 M2 => REL la2 K2 M2 (ap_undo N A).2.1 lw (ap_undo N A).2.2 im t w f)) : gm_Wp X LX 280 bc bs 370 pc L (gm_vr 226 :: st) (245 + 4 * g) K R M Q :=
  mw_m (xs := []) (mj := 238) hb hg hR h hc (by decide +kernel) (by decide +kernel) (show 0 = gm_na 238 by decide +kernel) (show 0 + 1 ≤ gm_ml 238 by decide +kernel) hst s0 c0 v0 hx (fun _ h => nomatch h) hbc hbs pu_u (gm_Wp_mono (fun o n1 K1 R1 M1 hq => rd_rc hq) (rr_undo (e0_w hb (Or.inr (Or.inl ⟨rfl, rfl⟩))) hR.2.1.1 hR.2.1.2.2.1 (rfv_w hR.2.2.2.2))) k
theorem ow_image (hb : bg g la K R M) (hg : g < 10000) (hR : REL la K M N lw A im t w f) (h : gm_at 370 pc = some (.invokevirtual ix)) (hc : gm_cal (gm_ow 370) ix = some (0, 59)) (hst : (st.map gm_cat).sum ≤ 8) (s0 : ∀ S ∈ l0, ck_Ok p2_O X LX 59 S) (s1 : ∀ S ∈ l1, ck_Ok p2_OL X LX 59 S) (c0 : l0.all (w_x p2_O 0 0 1 false) = true) (c1 : l1.all (w_x p2_OL 246 1 1 false) = true) (v0 : bc_cov 60 ds (l0.map bc_box) = true) (v1 : bc_cov 60 ds (l1.map bc_box) = true) (hx : bc_in ds []) (hbc : 6 ≤ bc) (hbs : 600 ≤ bs) (k : mw_K X LX bc bs (pc + 3) L st Q g none none (fun la2 K2 M2 => MID la2 K2 M2 N lw A (some (N, lw)) t w f N lw A im t w f)) : gm_Wp X LX 280 bc bs 370 pc L (gm_vr 1 :: st) (245 + 4 * g) K R M Q :=
  mw_d (xs := []) (mj := 59) (u := none) (ov := none) (RR := fun z g1 R1 M1 => R1 = gm_uR (bs_R z g1) 29 8 (bs_R z g1 3 8) ∧ M1 42 1 = bs_M la M 42 1) hb hg hR (ra_image hR.1) h hc (by decide +kernel) (by decide +kernel) (show 0 = gm_na 59 by decide +kernel) (show 0 + 1 ≤ gm_ml 59 by decide +kernel) hst s0 s1 c0 c1 v0 v1 hx (fun _ h => nomatch h) hbc hbs (Or.inl rfl) (fun z g1 hz hz3 => gm_Wp_mono (fun o n1 K1 R1 M1 hq => dq_cq hq) (ca_image (by decide) (e0_w hb hz) hR.1.1 (clv_w hb hR.2.2.1))) (fun z g1 R1 M1 hz hs => by rw [hs.1]; exact rvR_u (rvR_0 hz) (by decide) (by decide)) (fun z g1 R1 M1 K2 M2 hz hs eK eM e42 => by rw [hs.1]; exact lwl_im hR.2.1 hb.2.2.2 hz (e42.trans (hs.2.trans (vM (by decide)))) eK eM) k
theorem om_image (hb : bg g la K R M) (hg : g < 10000) (hR : MID la K M N lw A (some (N, lw)) t w f N lw A im t w f) (h : gm_at 370 pc = some (.invokevirtual ix)) (hc : gm_cal (gm_ow 370) ix = some (0, 236)) (hst : (st.map gm_cat).sum ≤ 8) (s0 : ∀ S ∈ l9, ck_Ok p2_O X LX 236 S) (c0 : l9.all w_m = true) (v0 : bc_cov 60 ds (l9.map bc_box) = true) (hx : bc_in ds []) (hbc : 6 ≤ bc) (hbs : 600 ≤ bs) (k : mm_K X LX bc bs (pc + 3) L st Q g M (PU none) none (fun la2 K2 M2 => REL la2 K2 M2 N lw A (some (N, lw)) t w f)) : gm_Wp X LX 280 bc bs 370 pc L (gm_vr 226 :: st) (245 + 4 * g) K R M Q :=
  mw_m (xs := []) (mj := 236) hb hg hR h hc (by decide +kernel) (by decide +kernel) (show 0 = gm_na 236 by decide +kernel) (show 0 + 1 ≤ gm_ml 236 by decide +kernel) hst s0 c0 v0 hx (fun _ h => nomatch h) hbc hbs pu_n (gm_Wp_mono (fun o n1 K1 R1 M1 hq => rd_rc hq) (rr_image (e0_w hb (Or.inr (Or.inl ⟨rfl, rfl⟩))) (rfv_w hR.2.2.2.2))) k
theorem ow_back (hb : bg g la K R M) (hg : g < 10000) (hR : REL la K M N lw A im t w f) (h : gm_at 370 pc = some (.invokevirtual ix)) (hc : gm_cal (gm_ow 370) ix = some (0, 60)) (hst : (st.map gm_cat).sum ≤ 8) (s0 : ∀ S ∈ l0, ck_Ok p2_O X LX 60 S) (s1 : ∀ S ∈ l1, ck_Ok p2_OL X LX 60 S) (c0 : l0.all (w_x p2_O 0 0 1 false) = true) (c1 : l1.all (w_x p2_OL 246 1 1 false) = true) (v0 : bc_cov 60 ds (l0.map bc_box) = true) (v1 : bc_cov 60 ds (l1.map bc_box) = true) (hx : bc_in ds []) (hbc : 6 ≤ bc) (hbs : 600 ≤ bs) (k : mw_K X LX bc bs (pc + 3) L st Q g (some (gm_vi (ap_back N lw A im).1)) none (fun la2 K2 M2 => MID la2 K2 M2 (ap_back N lw A im).2.1 (ap_back N lw A im).2.2.1 (ap_back N lw A im).2.2.2 im t w f N lw A im t w f)) : gm_Wp X LX 280 bc bs 370 pc L (gm_vr 1 :: st) (245 + 4 * g) K R M Q := by
  refine mw_d (xs := []) (mj := 60) (u := some (gm_vi (ap_back N lw A im).1)) (ov := none) (RR := fun z g1 R1 M1 => M1 42 1 = bs_M la M 42 1 ∧ ((im = none ∧ R1 = bs_R z g1) ∨ ((∃ q, im = some q) ∧ R1 = gm_uR (bs_R z g1) 3 8 (bs_R z g1 29 8)))) hb hg hR (ra_back hR.1) h hc (by decide +kernel) (by decide +kernel) (show 0 = gm_na 60 by decide +kernel) (show 0 + 1 ≤ gm_ml 60 by decide +kernel) hst s0 s1 c0 c1 v0 v1 hx (fun _ h => nomatch h) hbc hbs (Or.inr ⟨_, rfl⟩) (fun z g1 hz hz3 => gm_Wp_mono (fun o n1 K1 R1 M1 hq => dq_cq hq) (ca_back (by decide) (e0_w hb hz) hR.1.1 (fun NI lI e => (hR.1.2.2.2.1 NI lI e).1) (clv_w hb hR.2.2.1))) (fun z g1 R1 M1 hz hs => ?_) (fun z g1 R1 M1 K2 M2 hz hs eK eM e42 => ?_) k
  · rcases hs.2 with ⟨-, e⟩ | ⟨-, e⟩
    · rw [e]; exact rvR_0 hz
    · rw [e]; exact rvR_u (rvR_0 hz) (by decide) (by decide)
  · rcases hs.2 with ⟨e0, e⟩ | ⟨⟨q, e0⟩, e⟩
    · rw [e]
      have e42 := e42.trans (hs.1.trans (vM (by decide)))
      have hLW := hR.2.1
      subst e0
      exact lwl_e hLW hb.2.2.2 (fun s hs => bg_dcs hz hs) e42 eK eM
    · rw [e]
      have hLW := hR.2.1
      obtain ⟨NI, lI⟩ := q
      subst e0
      exact lwl_bk hLW hb.2.2.2 hz eK eM
theorem om_back (hb : bg g la K R M) (hg : g < 10000) (hR : MID la K M (ap_back N lw A im).2.1 (ap_back N lw A im).2.2.1 (ap_back N lw A im).2.2.2 im t w f N lw A im t w f) (h : gm_at 370 pc = some (.invokevirtual ix)) (hc : gm_cal (gm_ow 370) ix = some (0, 237)) (hst : (st.map gm_cat).sum ≤ 8) (s0 : ∀ S ∈ l9, ck_Ok p2_O X LX 237 S) (c0 : l9.all w_m = true) (v0 : bc_cov 60 ds (l9.map bc_box) = true) (hx : bc_in ds []) (hbc : 6 ≤ bc) (hbs : 600 ≤ bs) (k : mm_K X LX bc bs (pc + 3) L st Q g M (PU (some (gm_vi (ap_back N lw A im).1))) none (fun la2 K2 M2 => REL la2 K2 M2 (ap_back N lw A im).2.1 (ap_back N lw A im).2.2.1 (ap_back N lw A im).2.2.2 im t w f)) : gm_Wp X LX 280 bc bs 370 pc L (gm_vr 226 :: st) (245 + 4 * g) K R M Q :=
  mw_m (xs := []) (mj := 237) hb hg hR h hc (by decide +kernel) (by decide +kernel) (show 0 = gm_na 237 by decide +kernel) (show 0 + 1 ≤ gm_ml 237 by decide +kernel) hst s0 c0 v0 hx (fun _ h => nomatch h) hbc hbs pu_u (gm_Wp_mono (fun o n1 K1 R1 M1 hq => rd_rc hq) (rr_back (by decide) (e0_w hb (Or.inr (Or.inl ⟨rfl, rfl⟩))) (rfv_w hR.2.2.2.2))) k
theorem ow_feed (hb : bg g la K R M) (hg : g < 10000) (hR : REL la K M N lw A im t w f) (h : gm_at 370 pc = some (.invokevirtual ix)) (hc : gm_cal (gm_ow 370) ix = some (0, 19)) (hst : (st.map gm_cat).sum ≤ 8) (s0 : ∀ S ∈ l0, ck_Ok p2_O X LX 19 S) (s1 : ∀ S ∈ l1, ck_Ok p2_OL X LX 19 S) (c0 : l0.all (w_x p2_O 0 0 1 false) = true) (c1 : l1.all (w_x p2_OL 246 1 1 false) = true) (v0 : bc_cov 60 ds (l0.map bc_box) = true) (v1 : bc_cov 60 ds (l1.map bc_box) = true) (hx : bc_in ds [a 0, a 1, a 2, a 3, a 4]) (hi : ∀ j, gm_ir (a j)) (hbc : 6 ≤ bc) (hbs : 600 ≤ bs) (k : mw_K X LX bc bs (pc + 3) L st Q g (some (gm_vi (ap_feed a t f).1)) none (fun la2 K2 M2 => MID la2 K2 M2 N lw A im (ap_feed a t f).2.1 w (ap_feed a t f).2.2 N lw A im t w f)) : gm_Wp X LX 280 bc bs 370 pc L (gm_vi (a 4) :: gm_vi (a 3) :: gm_vi (a 2) :: gm_vi (a 1) :: gm_vi (a 0) :: gm_vr 1 :: st) (245 + 4 * g) K R M Q :=
  mw_d (xs := [a 0, a 1, a 2, a 3, a 4]) (mj := 19) (u := some (gm_vi (ap_feed a t f).1)) (ov := none) (RR := fun z g1 R1 M1 => R1 = bs_R z g1 ∧ M1 42 1 = bs_M la M 42 1) hb hg hR (ra_feed hR.1) h hc (by decide +kernel) (by decide +kernel) (show 5 = gm_na 19 by decide +kernel) (show 5 + 1 ≤ gm_ml 19 by decide +kernel) hst s0 s1 c0 c1 v0 v1 hx (by intro v hv; simp only [List.mem_cons, List.not_mem_nil, or_false] at hv; rcases hv with rfl | rfl | rfl | rfl | rfl <;> exact hi _) hbc hbs (Or.inr ⟨_, rfl⟩) (fun z g1 hz hz3 => gm_Wp_mono (fun o n1 K1 R1 M1 hq => dq_cq hq) (ca_feed (by decide) (e0_w hb hz) hR.1.2.2.2.2.1 (clv_w hb hR.2.2.1))) (fun z g1 R1 M1 hz hs => by rw [hs.1]; exact rvR_0 hz) (fun z g1 R1 M1 K2 M2 hz hs eK eM e42 => by rw [hs.1]; exact lwl_e hR.2.1 hb.2.2.2 (fun s hs => bg_dcs hz hs) (e42.trans (hs.2.trans (vM (by decide)))) eK eM) k
theorem om_feed (hb : bg g la K R M) (hg : g < 10000) (hR : MID la K M N lw A im (ap_feed a t f).2.1 w (ap_feed a t f).2.2 N lw A im t w f) (h : gm_at 370 pc = some (.invokevirtual ix)) (hc : gm_cal (gm_ow 370) ix = some (0, 239)) (hst : (st.map gm_cat).sum ≤ 8) (s0 : ∀ S ∈ l9, ck_Ok p2_O X LX 239 S) (c0 : l9.all w_m = true) (v0 : bc_cov 60 ds (l9.map bc_box) = true) (hx : bc_in ds [a 0, a 1, a 2, a 3, a 4]) (hi : ∀ j, gm_ir (a j)) (hbc : 6 ≤ bc) (hbs : 600 ≤ bs) (k : mm_K X LX bc bs (pc + 3) L st Q g M (PU (some (gm_vi (ap_feed a t f).1))) none (fun la2 K2 M2 => REL la2 K2 M2 N lw A im (ap_feed a t f).2.1 w (ap_feed a t f).2.2)) : gm_Wp X LX 280 bc bs 370 pc L (gm_vi (a 4) :: gm_vi (a 3) :: gm_vi (a 2) :: gm_vi (a 1) :: gm_vi (a 0) :: gm_vr 226 :: st) (245 + 4 * g) K R M Q :=
  mw_m (xs := [a 0, a 1, a 2, a 3, a 4]) (mj := 239) hb hg hR h hc (by decide +kernel) (by decide +kernel) (show 5 = gm_na 239 by decide +kernel) (show 5 + 1 ≤ gm_ml 239 by decide +kernel) hst s0 c0 v0 hx (by intro v hv; simp only [List.mem_cons, List.not_mem_nil, or_false] at hv; rcases hv with rfl | rfl | rfl | rfl | rfl <;> exact hi _) hbc hbs pu_u (gm_Wp_mono (fun o n1 K1 R1 M1 hq => rd_rc hq) (rr_feed (e0_w hb (Or.inr (Or.inl ⟨rfl, rfl⟩))) hR.2.1.2.2.2.2.1 (rfv_w hR.2.2.2.2))) k
end OV18
end
/-! 7c19.ew -/
section
/-! END, FIT, and the calls that only ask, told of the world. -/
section EW19
variable {X : Int → Int} {LX : Nat} {O : gm_Or} {g z g1 n : Nat} {la la2 : Nat → Nat} {K K1 K2 : gm_K} {R R1 R2 : gm_R} {M M1 M2 : gm_M} {L : gm_L} {st : List gm_V} {Q : gm_Q} {N N0 : Int → Int} {lw lw0 : Option (List lln)} {A A0 A' : List (Int → Int)} {im im0 : Option ((Int → Int) × Option (List lln))} {t w t0 w0 x : Int} {f f0 a : Int → Int} {o : gm_O} {n1 bc bs pc ix mj : Nat} {l0 l1 l : List ck_Sum} {ds : List (Int × Int)} {xs : List Int} {S : ck_Sum}
theorem bg_up2 (hb : bg g la K R M) (hF : gm_Fx p2_O (245 + 4 * g) K R M2) (hM : ∀ k j, 246 ≤ k → M2 k j = M k j) : bg g la K R M2 := by
  obtain ⟨h1, -, h3, h4⟩ := hb
  refine ⟨h1, hF, fun j hj => ?_, h4⟩
  have h := h3 j hj
  unfold bg_g at h ⊢
  rw [hM _ _ (by omega), hM _ _ (by omega), hM _ _ (by omega)]
  exact h
theorem fe_s {y : Int} : gm_uM M 1 1 y = fe M y (M 2) := by
  funext b j
  unfold gm_uM fe
  by_cases h1 : b = 1 ∧ j = 1
  · rw [if_pos h1, if_pos h1]
  · rw [if_neg h1, if_neg h1]
    by_cases h2 : b = 2
    · rw [if_pos h2, h2]
    · rw [if_neg h2]
/-- class: the TAPE's length is another -/
theorem clv_t {t2 : Int} (hV : CLV N lw A im t w f M) : CLV N lw A im t2 w f (gm_uM M 1 1 t2) := by
  rw [fe_s]
  exact clv_tape hV hV.2.2.2.2.2
theorem ow_end (hb : bg g la K R M) (hR : REL la K M N lw A im t w f) (h : gm_at 370 pc = some (.invokevirtual ix)) (hc : gm_cal (gm_ow 370) ix = some (0, 21)) (hh : gm_hh 370 = []) (hst : (st.map gm_cat).sum ≤ 8) (hx : gm_ir x) (k : mw_K X LX bc bs (pc + 3) L st Q g (some (gm_vi (ap_end x t).1)) none (fun la2 K2 M2 => MID la2 K2 M2 N lw A im (ap_end x t).2 w f N lw A im t w f)) : gm_Wp X LX 280 bc bs 370 pc L (gm_vi x :: gm_vr 1 :: st) (245 + 4 * g) K R M Q := by
  have hE : E0 (245 + 4 * g) K R := e0F hb.2.1
  have kx := k1_e hE
  have ht := hR.2.2.1.2.2.2.2.1.1
  have hb4 := hR.1.2.2.2.2.1
  have no : ap_end x t = (0, t) → gm_Wp X LX 280 (bc - 0) (bs - 0) 370 (pc + 3) L (gm_vi 0 :: st) (245 + 4 * g) K R M Q := fun er => by
    rw [er] at k
    exact gm_Wp_wk (Nat.le_refl _) (by omega) (by omega) (k la K R M hb ⟨hR.1, hR.1, hR.2⟩ (fun v e => nomatch e))
  refine gm_c_virt (k := 1) (ci := 0) (mj := 21) (as := [gm_vi x]) (st := st) (d' := 1) (bc' := 0) (bs' := 0) h hc (by decide +kernel) hh kx.1 kx.2 (by decide) (by decide +kernel) (show 1 = gm_na 21 by decide +kernel) (fw_c1 (by simp [gm_sort])) (show 1 + 1 ≤ gm_ml 21 by decide +kernel) hst (by decide) (Nat.zero_le _) (Nat.zero_le _) ?_
  refine ce_21 hE hx (by rw [ht]; exact ⟨by omega, by omega⟩) (fun h => no (tif_t (Or.inl h))) (fun h1 h2 => ?_) (fun h1 h2 => no (tif_t (Or.inr (by omega))))
  rw [ht] at h2
  have er : ap_end x t = (1, x) := tif_f (by omega)
  have hra := ra_end (x := x) hR.1
  rw [er] at k hra
  show gm_Wp X LX 280 (bc - 0) (bs - 0) 370 (pc + 3) L (gm_vi 1 :: st) (245 + 4 * g) K R (gm_uM M 1 1 x) Q
  exact gm_Wp_wk (Nat.le_refl _) (by omega) (by omega) (k la K R _ (bg_up2 hb (gm_Fx_M hb.2.1 (show gm_tyw p2_O 1 1 1 0 400 = true by decide +kernel) (Int.le_refl 1) (Int.le_refl 1) (by omega) (show x ≤ (400 : Int) by omega)) (fun k j hk => uM_ne (by omega))) ⟨hra, hR.1, lwl_e hR.2.1 hb.2.2.2 (fun _ _ => rfl) (uM_ne (by decide)) (fun _ _ _ => rfl) (fun k j k1 _ => uM_ne (by omega)), clv_t hR.2.2.1, rfv_e hR.2.2.2 (fun k j hk => uM_ne (by have := rk_le hk; omega))⟩ (fun v e => nomatch e))
theorem om_end (hb : bg g la K R M) (hR : MID la K M N lw A im (ap_end x t).2 w f N lw A im t w f) (h : gm_at 370 pc = some (.invokevirtual ix)) (hc : gm_cal (gm_ow 370) ix = some (0, 240)) (hh : gm_hh 370 = []) (hst : (st.map gm_cat).sum ≤ 8) (hx : gm_ir x) (k : mm_K X LX bc bs (pc + 3) L st Q g M (PU (some (gm_vi (ap_end x t).1))) none (fun la2 K2 M2 => REL la2 K2 M2 N lw A im (ap_end x t).2 w f)) : gm_Wp X LX 280 bc bs 370 pc L (gm_vi x :: gm_vr 226 :: st) (245 + 4 * g) K R M Q := by
  have hE : E0 (245 + 4 * g) K R := e0F hb.2.1
  have kx : (1 ≤ 226 ∧ 226 ≤ 245 + 4 * g) ∧ (K 226).1 = 11 + 4 := e0k hE (k := 226) (c := 11) (by decide +kernel)
  obtain ⟨hra, hra0, hL, hC, hV⟩ := hR
  have ht := hV.2.2.2.1.1
  have hb4 := hra0.2.2.2.2.1
  have F1 := gm_Fx_M hb.2.1 (show gm_tyw p2_O 226 0 0 0 0 = true by decide +kernel) (Int.le_refl 0) (Int.le_refl 0) (Int.le_refl 0) (Int.le_refl 0)
  have s0 : RFV N lw A im t w f (gm_uM M 226 0 0) := rfv_fr hV (W := [((226 : Nat), some (0 : Int))]) (fr_p fr_0 (Or.inr (by decide))) (by decide)
  have go : ∀ {M2 : gm_M}, gm_Fx p2_O (245 + 4 * g) K R M2 → (∀ k j, ¬ k = 226 → M2 k j = M k j) → RFV N lw A im (ap_end x t).2 w f M2 → gm_Wp X LX 280 (bc - 0) (bs - 0) 370 (pc + 3) L (gm_vi (ap_end x t).1 :: st) (245 + 4 * g) K R M2 Q := fun {M2} hF e hV2 =>
    gm_Wp_wk (Nat.le_refl _) (by omega) (by omega) (k _ la K R _ rfl (bg_up2 hb hF (fun k j hk => e k j (by omega))) ⟨hra, lwl_e hL hb.2.2.2 (fun _ _ => rfl) (e 42 1 (by decide)) (fun _ _ _ => rfl) (fun k j k1 _ => e k j (by omega)), clv_e hC (cstF hF) (fun k j hk => e k j (by have := ck_le hk; omega)), hV2⟩ (e 245 0 (by decide)) (fun c e => nomatch e))
  refine gm_c_virt (k := 226) (ci := 11) (mj := 240) (as := [gm_vi x]) (st := st) (d' := 1) (bc' := 0) (bs' := 0) h hc (by decide +kernel) hh kx.1 kx.2 (by decide) (by decide +kernel) (show 1 = gm_na 240 by decide +kernel) (fw_c1 (by simp [gm_sort])) (show 1 + 1 ≤ gm_ml 240 by decide +kernel) hst (by decide) (Nat.zero_le _) (Nat.zero_le _) ?_
  refine re_240 hE hx (by rw [ht]; exact ⟨by omega, by omega⟩) (fun h => ?_) (fun h1 h2 => ?_) (fun h1 h2 => ?_)
  · have er : ap_end x t = (0, t) := tif_t (Or.inl h)
    rw [er] at go
    exact go F1 (fun k j hk => uM_ne (by omega)) s0
  · rw [ht] at h2
    have er : ap_end x t = (1, x) := tif_f (by omega)
    rw [er] at go
    exact go (gm_Fx_M F1 (show gm_tyw p2_O 226 8 8 0 400 = true by decide +kernel) (Int.le_refl 8) (Int.le_refl 8) (by omega) (show x ≤ (400 : Int) by omega)) (fun k j hk => (uM_ne (by omega)).trans (uM_ne (by omega))) (rfv_tape s0 uM_at (fun j j0 j1 => (uM_ne (by omega)).trans (s0.2.2.2.2 j j0 j1)) (fun k j h1 h2 h3 => uM_ne h3))
  · rw [ht] at h2
    have er : ap_end x t = (0, t) := tif_t (Or.inr (by omega))
    rw [er] at go
    exact go F1 (fun k j hk => uM_ne (by omega)) s0
/-- a cell that is told of the class, of the reference -/
noncomputable def cKb (w : Nat × Int × Int) : Bool := decide ((w.1 = 1 ∧ (w.2.1 ≤ 15 ∧ 1 ≤ w.2.2)) ∨ (2 ≤ w.1 ∧ w.1 ≤ 15) ∨ (29 ≤ w.1 ∧ w.1 ≤ 199) ∨ (w.1 = 200 ∧ (w.2.1 ≤ 6 ∧ 6 ≤ w.2.2)) ∨ (201 ≤ w.1 ∧ w.1 ≤ 203) ∨ w.1 = 205 ∨ w.1 = 220 ∨ w.1 = 221)
noncomputable def rKb (w : Nat × Int × Int) : Bool := decide (w.1 = 227 ∨ w.1 = 228 ∨ w.1 = 230 ∨ w.1 = 231 ∨ w.1 = 234 ∨ w.1 = 235 ∨ (w.1 = 226 ∧ ((w.2.1 ≤ 5 ∧ 5 ≤ w.2.2) ∨ (w.2.1 ≤ 6 ∧ 6 ≤ w.2.2) ∨ (w.2.1 ≤ 8 ∧ 8 ≤ w.2.2) ∨ (w.2.1 ≤ 13 ∧ 13 ≤ w.2.2) ∨ (w.2.1 ≤ 26 ∧ 26 ≤ w.2.2))))
theorem cKb_s {w : Nat × Int × Int} {k : Nat} {j : Int} (h : cK k j) (h1 : w.1 = k ∧ w.2.1 ≤ j ∧ j ≤ w.2.2) : cKb w = true := by
  unfold cK at h
  exact decide_eq_true (by omega)
theorem rKb_s {w : Nat × Int × Int} {k : Nat} {j : Int} (h : rK k j) (h1 : w.1 = k ∧ w.2.1 ≤ j ∧ j ≤ w.2.2) : rKb w = true := by
  unfold rK at h
  exact decide_eq_true (by omega)
/-- behind a call that only asks: what is told is as it was -/
noncomputable def mq_K (X : Int → Int) (LX bc bs pc : Nat) (L : gm_L) (st : List gm_V) (Q : gm_Q) (g : Nat) (P : (Nat → Nat) → gm_K → gm_M → Prop) (V : Option gm_V → gm_M → Prop) : Prop := ∀ (u : Option gm_V) (la2 : Nat → Nat) (K2 : gm_K) (R2 : gm_R) (M2 : gm_M), V u M2 → bg g la2 K2 R2 M2 → P la2 K2 M2 → gm_Wp X LX 280 (bc - 6) (bs - 600) 370 pc L (u.toList ++ st) (245 + 4 * g) K2 R2 M2 Q
/-- what a row tells of the answer -/
noncomputable def mq_V (S : ck_Sum) (u : Option gm_V) : Prop := ∃ oc ∈ S.2.2.2.2.2, ∃ σ : Nat → Int, ck_ho σ oc.1 (.inl u)
end EW19
end
/-! 7c20.lw -/
section
/-! THE CLASS'S law(), THE REFERENCE'S, told of the world. -/
section LW20
variable {X : Int → Int} {LX : Nat} {g n : Nat} {la la2 : Nat → Nat} {K K1 K2 : gm_K} {R R1 R2 : gm_R} {M M1 M2 : gm_M} {L : gm_L} {st : List gm_V} {Q : gm_Q} {N N0 : Int → Int} {lw lw0 : Option (List lln)} {A A0 A' : List (Int → Int)} {im im0 : Option ((Int → Int) × Option (List lln))} {t w t0 w0 x : Int} {f f0 a : Int → Int} {bc bs pc ix : Nat} {ls : List lln}
/-- the law that was just read -/
theorem lawc_new (h : NL ls K1 R1 M1) (eK : ∀ k, 247 ≤ k → k ≤ 249 → K2 (k + 4 * g) = K1 k) (eM : ∀ k, 247 ≤ k → k ≤ 249 → M2 (k + 4 * g) = M1 k) : LAWC (g + 1) (some ls) K2 M2 := by
  refine ⟨(fun e => nomatch e), fun ls2 e => ?_⟩
  cases e
  obtain ⟨us, hu, hk, -, hL, hC, hW⟩ := h
  have r : ∀ k, 247 ≤ k → bg_rho (g + 1) k = k + 4 * g := fun k k1 => by unfold bg_rho; rw [if_neg (by omega)]; omega
  have r7 := r 247 (by decide)
  have r8 := r 248 (by decide)
  have r9 := r 249 (by decide)
  have e7 := eM 247 (by decide) (by decide)
  have e8 := eM 248 (by decide) (by decide)
  have e9 := eM 249 (by decide) (by decide)
  refine ⟨by omega, hW, us.toNat, by omega, by rw [r7, eK 247 (by decide) (by decide)]; exact hk.2.1, ?_, by rw [r7, r9, e7, e9]; exact hC⟩
  unfold LB LM at hL ⊢
  simpa only [r7, r8, r9, e7, e8, e9] using hL
/-- behind the class's law() -/
noncomputable def ml_K (X : Int → Int) (LX bc bs pc : Nat) (L : gm_L) (st : List gm_V) (Q : gm_Q) (g : Nat) (u : Option gm_V) (ov : Option Int) (P : (Nat → Nat) → gm_K → gm_M → Prop) : Prop := ∀ (g2 : Nat) (la2 : Nat → Nat) (K2 : gm_K) (R2 : gm_R) (M2 : gm_M), g2 ≤ g + 1 → bg g2 la2 K2 R2 M2 → P la2 K2 M2 → (∀ v, ov = some v → Int64.ofInt (M2 245 0) = Int64.ofInt (gm_w v)) → gm_Wp X LX 280 (bc - 6) (bs - 600) 370 pc L (u.toList ++ st) (245 + 4 * g2) K2 R2 M2 Q
theorem fx_tape (hF : gm_Fx p2_O n K R M) (h1 : M 1 1 = t) (hf : ∀ j, 0 ≤ j → j < 400 → M 2 j = f j) : gm_Fx p2_O n K R (fe M t f) := by
  refine ⟨hF.1, hF.2.1, fun k r hq => ⟨(hF.2.2.1 k r hq).1, fun j j1 j2 => ?_⟩, hF.2.2.2.1, ?_⟩
  · have h := (hF.2.2.1 k r hq).2 j j1 j2
    by_cases e : k = 2
    · subst e
      have hb := of_decide_eq_true (List.all_eq_true.mp (show (p2_O.2.2.ty 2).all (fun r => decide (0 ≤ r.1 ∧ r.2.1 < 400)) = true by decide +kernel) r hq)
      rw [fe_2, ← hf j (by omega) (by omega)]
      exact h
    · rw [fe_ne h1 e]
      exact h
  · have hJ : jP p2_ty (M 227) (M 228) (M 229) (M 230) := hF.2.2.2.2
    have e : ∀ k, ¬ k = 2 → fe M t f k = M k := fun k hk => funext fun j => fe_ne h1 hk
    show jP p2_ty (fe M t f 227) (fe M t f 228) (fe M t f 229) (fe M t f 230)
    rw [e 227 (by decide), e 228 (by decide), e 229 (by decide), e 230 (by decide)]
    exact hJ
theorem lqw_c : lq_W.1.all (fun w => decide (w.1 < 226)) = true := by decide +kernel
theorem dt_u {v : Int} (hd : dt_m n K1 M1 K2 M2) : dt_m n K1 (gm_uM M1 245 0 v) K2 (gm_uM M2 245 0 v) := fun k h1 h2 he => by
  obtain ⟨a1, a2, a3⟩ := hd k h1 h2 he
  have u : ∀ j : Int, (gm_uM M1 245 0 v k j = v ∧ gm_uM M2 245 0 v k j = v) ∨ (gm_uM M1 245 0 v k j = M1 k j ∧ gm_uM M2 245 0 v k j = M2 k j) := fun j => by
    unfold gm_uM
    by_cases e : k = 245 ∧ j = 0
    · rw [if_pos e, if_pos e]; exact Or.inl ⟨rfl, rfl⟩
    · rw [if_neg e, if_neg e]; exact Or.inr ⟨rfl, rfl⟩
  refine ⟨fun h j hj => ?_, fun h j hj => ?_, fun c j hc hj hr => ?_⟩
  · rcases u (j : Int) with ⟨e1, e2⟩ | ⟨e1, e2⟩
    · rw [e1, e2]
    · rw [e1, e2]; exact a1 h j hj
  · rcases u (j : Int) with ⟨e1, e2⟩ | ⟨e1, e2⟩
    · rw [e1, e2]
    · rw [e1, e2]; exact a2 h j hj
  · rcases u (j : Int) with ⟨e1, e2⟩ | ⟨e1, e2⟩
    · rw [e1, e2]
    · rw [e1, e2]; exact a3 c j hc hj hr
theorem mx_u {v : Int} : mxM 245 (gm_uM M2 245 0 v) (gm_uM M1 245 0 v) = gm_uM (mxM 245 M2 M1) 245 0 v := by
  funext k j
  show (if k ≤ 245 then (if k = 245 ∧ j = 0 then v else M2 k j) else (if k = 245 ∧ j = 0 then v else M1 k j)) = if k = 245 ∧ j = 0 then v else (if k ≤ 245 then M2 k j else M1 k j)
  by_cases e : k = 245 ∧ j = 0
  · rw [if_pos e, if_pos e, if_pos e, ite_self]
  · rw [if_neg e, if_neg e, if_neg e]
/-- types and all, by the row, in the cells that were there -/
theorem fx_mx {n1 n2 : Nat} {z g1 : Nat} (hF : gm_Fx p2_O n2 K2 R2 M2) (hn : 245 ≤ n1) (eK : ∀ k, k ≤ 245 → K1 k = K2 k) (eR : ∀ k j, k ≤ 245 → ¬ (k = 3 ∧ j = 8) → R1 k j = bs_R z g1 k j) : gm_Fx p2_O n1 K1 R1 (mxM 245 M2 M1) := by
  have eM : ∀ k, k ≤ 245 → mxM 245 M2 M1 k = M2 k := fun k h => funext fun j => mxM_o h
  refine ⟨fun k q hq => ?_, fun k j r hq => ?_, fun k r hq => ?_, fun k r hq => ?_, ?_⟩
  · obtain ⟨a1, a2, a3⟩ := hF.1 k q hq
    have := bg_O1 hq
    exact ⟨a1, by omega, (eK k (by omega)).trans a3⟩
  · obtain ⟨-, a2, a3⟩ := bg_rfo hq
    refine ⟨by omega, (eR k j a2 (fun e => a3 ⟨by rw [e.1]; decide, e.2⟩)).trans ?_⟩
    unfold bs_R
    rw [hq]
  · obtain ⟨a1, a2⟩ := hF.2.2.1 k r hq
    have := bg_tyk hq
    refine ⟨by omega, fun j j1 j2 => ?_⟩
    rw [eM k (by omega)]
    exact a2 j j1 j2
  · have := jfp_b hq
    by_cases hk9 : k ≤ 245
    · omega
    · have hq : r ∈ j_fp k := hq
      rw [show j_fp k = [] by unfold j_fp; rw [if_neg (by omega), if_neg (by omega), if_neg (by omega), if_neg (by omega)]] at hq
      cases hq
  · have hJ : jP p2_ty (M2 227) (M2 228) (M2 229) (M2 230) := hF.2.2.2.2
    show jP p2_ty (mxM 245 M2 M1 227) (mxM 245 M2 M1 228) (mxM 245 M2 M1 229) (mxM 245 M2 M1 230)
    rw [eM 227 (by decide), eM 228 (by decide), eM 229 (by decide), eM 230 (by decide)]
    exact hJ
theorem lw_key {n1 n2 : Nat} {o : gm_O} (hb : bg g la K R M) (hg : g < 10000) (hR : REL la K M N lw A im t w f) (hbc : 6 ≤ bc) (hbs : 600 ≤ bs) (k : ml_K X LX bc bs pc L st Q g (some (gm_vi (ap_law f t lw A).1)) (oV (ap_law f t lw A).1 (ap_law f t lw A).2.1) (fun la2 K2 M2 => MID la2 K2 M2 N (ap_law f t lw A).2.2.1 (ap_law f t lw A).2.2.2.1 im 0 (ap_law f t lw A).2.2.2.2 f N lw A im t w f)) (q1 : LQ (bs_K la K) (bs_R 100003 0) (fe (bs_M la M) t f) (ap_law f t lw A) N im f o n1 K1 R1 M1) (hF2 : gm_Fx p2_O n2 K2 R2 M2) (hK2 : ∀ k, k ≤ 245 → K2 k = bs_K la K k) (hrf : ∀ k j, rK k j → M2 k j = M k j) (hdt : dt_m 245 K1 M1 K2 M2) : gm_owe X LX 280 (bc - 5) (bs - 470) 370 pc L st (bg_rho (la 3)) (bg_f la) (245 + 4 * 0) (245 + 4 * g) K R M Q o n1 K1 R1 (mxM 245 M2 M1) := by
  have hz : bs_ok la 100003 0 := Or.inr (Or.inl ⟨rfl, rfl⟩)
  have hV := clv_w hb hR.2.2.1
  have h11 := hV.2.2.2.2.1.1
  have hRA2 := ra_law hR.1
  obtain ⟨rfl, hv, hC, h42, hk1, hend⟩ := q1
  have h42 : M1 42 1 = M 42 1 := h42.trans ((fe_ne h11 (by decide)).trans (vM (by decide)))
  have eK : ∀ k, k ≤ 245 → K1 k = K2 k := fun k hk => (hk1 k hk).trans (hK2 k hk).symm
  have hV2 := clv_dt hdt (Nat.le_refl _) (fun k _ hk => eK k hk) hF2 hRA2 hC
  have e : ∀ k j, k ≤ 245 → bg_M g M (mxM 245 M2 M1) k j = M2 k j := fun k j hk => (bg_Ms hk j).trans (mxM_o hk)
  have hx : 0 ≤ M1 42 1 ∧ M1 42 1 < 12 := his_nx hC.1.2
  have e42 : bg_M g M (mxM 245 M2 M1) 42 1 = M 42 1 := by
    rw [e 42 1 (by decide)]
    have e9 : M2 42 1 = gm_w (M1 42 1) := dw_f hdt (Nat.le_refl _) (fun k _ hk => eK k hk) hF2 dt_c2.1
    rw [e9, dw_i ⟨by omega, by omega⟩, h42]
  have hans : ∀ v, oV (ap_law f t lw A).1 (ap_law f t lw A).2.1 = some v → Int64.ofInt (bg_M g M (mxM 245 M2 M1) 245 0) = Int64.ofInt (gm_w v) := fun v hv2 => by
    obtain ⟨c1, c2⟩ := oV_s hv2
    rw [e 245 0 (by decide), c2, ← hv c1]
    have k245 := hF2.1 245 (2, 1) (by decide +kernel)
    have ee := eK 245 (by decide)
    exact ((hdt 245 (by decide) (Nat.le_refl _) ee).2.1 (by rw [ee, k245.2.2]) 0 (by rw [ee, k245.2.2]; decide)).symm
  have hRf : RFV N lw A im t w f (bg_M g M (mxM 245 M2 M1)) := rfv_e hR.2.2.2 (fun k j hk0 => by
    have hk := rk_le hk0
    rw [e k j (by omega)]
    exact hrf k j hk0)
  have oldM : ∀ k j, 246 ≤ k → k ≤ 245 + 4 * g → bg_M g M (mxM 245 M2 M1) k j = M k j := fun k j h1 h2 => bg_oldM h1 h2
  have oldK : ∀ k, 246 ≤ k → k ≤ 245 + 4 * g → bg_K g K K1 k = K k := fun k _ h2 => bg_Ks h2
  rcases hend with ⟨hr1, rfl, hRR⟩ | ⟨hr0, rfl, hRR, ls, hls, hnl⟩
  · have hrt : bs_rt 100003 0 0 (bs_K la K) (bs_M la M) 245 K1 R1 (mxM 245 M2 M1) := ⟨⟨Or.inl rfl, rfl⟩, fx_mx hF2 (Nat.le_refl _) eK (fun k j hk _ => hRR k j hk), fun k hk => hk1 k hk, fun k j k1 k2 => by omega, fun k j hk _ => hRR k j hk, fun s hs => Or.inr (Or.inr ⟨s, hs, (hRR s 8 (bg_ssl hs).2).trans ((bc_lf hs).trans (by split <;> omega))⟩), fun h => absurd h (by decide)⟩
    refine bg_oweX (c := 0) hb hz hg hrt (Or.inr ⟨_, rfl⟩) (fun hb2 => ?_)
    have er : ap_law f t lw A = (1, 0, lw, A, (ap_law f t lw A).2.2.2.2) := by
      unfold ap_law at hr1 ⊢
      by_cases h1 : ¬ (g_law f t).1 = true
      · rw [tif_t h1]
      · rw [tif_f h1] at hr1
        exact absurd (show (0 : Int) = 1 from hr1) (by decide)
    have e1 : (ap_law f t lw A).2.2.1 = lw := by rw [er]
    have e2 : (ap_law f t lw A).2.2.2.1 = A := by rw [er]
    refine gm_Wp_wk (Nat.le_refl _) (by omega) (by omega) (k g _ _ _ _ (by omega) hb2 ⟨hRA2, hR.1, ?_, clv_e hV2 (cstF hb2.2.1) (fun k j hk => e k j (by have := ck_le hk; omega)), hRf⟩ hans)
    rw [e1, e2]
    refine lwl_e hR.2.1 hb.2.2.2 (fun s hs => ?_) e42 oldK oldM
    show bg_dc la g 0 (R1 s 8) = la s
    rw [hRR s 8 (bg_ssl hs).2]
    exact bg_dcs hz hs
  · have hnl2 := hnl
    obtain ⟨us, hu, ⟨k6, k7, k8, k9⟩, ⟨r3, r60, r61, r82⟩, hLB, -⟩ := hnl2
    have hs3 : ∀ s ∈ bg_ss, ¬ s = 3 → R1 s 8 = 100000 + s := fun s hs h3 => (hRR s 8 (bg_ssl hs).2 (fun e => h3 e.1)).trans ((bc_lf hs).trans (if_neg h3))
    have hrt : bs_rt 100003 0 1 (bs_K la K) (bs_M la M) 249 K1 R1 (mxM 245 M2 M1) := by
      have q8 : ∀ j, mxM 245 M2 M1 248 j = M1 248 j := fun j => mxM_n (by decide)
      have hm := hLB.1.1
      refine ⟨⟨Or.inr ⟨rfl, rfl⟩, rfl⟩, fx_mx hF2 (by decide) eK hRR, fun k hk => hk1 k hk, fun k j k1 k2 => by omega, fun k j hk hs => hRR k j hk (fun e => hs ⟨by rw [e.1]; decide, e.2⟩), fun s hs => ?_, fun _ => ⟨⟨⟨k6, ⟨us.toNat, by omega, k7⟩, k8, k9⟩, ?_⟩, r60, r61, r82⟩⟩
      · by_cases h3 : s = 3
        · subst h3
          exact Or.inr (Or.inl ⟨r3, Or.inr rfl⟩)
        · exact Or.inr (Or.inr ⟨s, hs, hs3 s hs h3⟩)
      · show mxM 245 M2 M1 248 0 = 12 ∧ mxM 245 M2 M1 248 1 = 4 ∧ 0 ≤ mxM 245 M2 M1 248 3 ∧ mxM 245 M2 M1 248 3 ≤ 12
        rw [q8, q8, q8]
        exact hm
    refine bg_oweX (c := 1) hb hz hg hrt (Or.inr ⟨_, rfl⟩) (fun hb2 => ?_)
    have er : (ap_law f t lw A).2.2.2.1 = [] := by
      unfold ap_law at hr0 ⊢
      by_cases h1 : ¬ (g_law f t).1 = true
      · rw [tif_t h1] at hr0
        exact absurd (show (1 : Int) = 0 from hr0) (by decide)
      · rw [tif_f h1]
    have l3 : bg_la la g 1 R1 3 = g + 1 := by
      show bg_dc la g 1 (R1 3 8) = g + 1
      rw [r3]
      unfold bg_dc
      rw [if_neg (by decide), if_pos rfl, if_pos rfl]
    have l29 : bg_la la g 1 R1 29 = la 29 := by
      show bg_dc la g 1 (R1 29 8) = la 29
      rw [hs3 29 (by decide) (by decide)]
      unfold bg_dc
      rw [if_neg (by decide), if_neg (by decide)]
    have nK : ∀ k, 247 ≤ k → k ≤ 249 → bg_K g K K1 (k + 4 * g) = K1 k := fun k h1 h2 => by unfold bg_K; rw [if_neg (by omega), show k + 4 * g - 4 * g = k by omega]
    have nM : ∀ k, 247 ≤ k → k ≤ 249 → bg_M g M (mxM 245 M2 M1) (k + 4 * g) = M1 k := fun k h1 h2 => funext fun j => by unfold bg_M; rw [if_neg (by omega), if_neg (by omega), show k + 4 * g - 4 * g = k by omega]; exact mxM_n (by omega)
    refine gm_Wp_wk (Nat.le_refl _) (by omega) (by omega) (k (g + 1) _ _ _ _ (Nat.le_refl _) hb2 ⟨hRA2, hR.1, ?_, clv_e hV2 (cstF hb2.2.1) (fun k j hk => e k j (by have := ck_le hk; omega)), hRf⟩ hans)
    rw [er, hls]
    refine ⟨by rw [l3]; exact lawc_new hnl nK nM, fun i hi => absurd hi (Nat.not_lt_zero _), fun NI lI e => ?_⟩
    rw [l29]
    exact lawc_e (hR.2.1.2.2 NI lI e) (hb.2.2.2 29 (by decide)) oldK oldM
theorem ow_law (hb : bg g la K R M) (hg : g < 10000) (hR : REL la K M N lw A im t w f) (h : gm_at 370 pc = some (.invokestatic ix)) (hc : gm_cal (gm_ow 370) ix = some (5, 122)) (hst : (st.map gm_cat).sum ≤ 8) (hbc : 6 ≤ bc) (hbs : 600 ≤ bs) (k : ml_K X LX bc bs (pc + 3) L st Q g (some (gm_vi (ap_law f t lw A).1)) (oV (ap_law f t lw A).1 (ap_law f t lw A).2.1) (fun la2 K2 M2 => MID la2 K2 M2 N (ap_law f t lw A).2.2.1 (ap_law f t lw A).2.2.2.1 im 0 (ap_law f t lw A).2.2.2.2 f N lw A im t w f)) : gm_Wp X LX 280 bc bs 370 pc L (gm_vr 245 :: gm_vr 1 :: st) (245 + 4 * g) K R M Q := by
  have hz : bs_ok la 100003 0 := Or.inr (Or.inl ⟨rfl, rfl⟩)
  have hF := bs_F0 (z := 100003) hb
  have hσ := ck_sn_s (σ := fun _ => 0) (M := bs_M la M) p2_nmu
  have ha : gm_ar (bg_rho (la 3)) (245 + 4 * 0) [gm_vr 1, gm_vr 245] [gm_vr 1, gm_vr 245] := ⟨_, _, rfl, Or.inr ⟨1, ⟨by decide, by decide⟩, rfl, by rfl⟩, _, _, rfl, Or.inr ⟨245, ⟨by decide, by decide⟩, rfl, by rfl⟩, rfl⟩
  have hE : E0 245 (bs_K la K) (bs_R 100003 0) := e0F hF
  have hV := clv_w hb hR.2.2.1
  have h11 := hV.2.2.2.2.1.1
  have k2 := (hE.1 2 (1, 400) (by decide +kernel)).2
  refine gm_c_statS (mj := 122) (as1 := [gm_vr 1, gm_vr 245]) (as := [gm_vr 1, gm_vr 245]) (st := st) (d' := 27) (bc' := 5) (bs' := 470) (fun ti α => bg_sbw hb hz ti α) (fun i j a b c d e => bc_hin hz i j a b c d e) (bs_Rv hz) ha h hc (by decide +kernel) (by decide +kernel) (show 2 = gm_na 122 by decide +kernel) (show 2 ≤ gm_ml 122 by decide +kernel) hst (by decide) (by omega) (by omega) ?_
  have hrow := gm_Wp_wk (d := 26) (d' := 26) (bc := 5) (bs := 470) (Nat.le_refl _) (by decide) (by decide) (lq_S_s (X := X) (LX := LX) 26 (ck_sn p2_O (fun _ => 0) (bs_M la M)) [gm_vr 1] _ _ _ _ (by decide) rfl ⟨_, _, rfl, rfl, rfl⟩ hσ hF (bc_f_s (show bc_f p2_O 100003 lq_S.2.2.2.1 = true by decide +kernel) hF (by decide) hσ))
  have hfun : gm_Wp X LX 26 5 470 123 0 (gm_ent 123 [gm_vr 1]) [] 245 (bs_K la K) (bs_R 100003 0) (bs_M la M) (hQ [(0, 1)] (LQ (bs_K la K) (bs_R 100003 0) (fe (bs_M la M) t f) (ap_law f t lw A) N im f)) :=
    gm_Wp_nM (c := 2) (len := 400) (M' := fe (bs_M la M) t f) k2 (fun k j hk => fe_ne h11 hk) (fun j hj => fe_2.trans (hV.2.2.2.2.2 (j : Int) (by omega) (by omega)).symm) (ca_law (d := 26) (bc := 5) (bs := 470) (by decide) (by decide) (by decide) (fx_tape hF h11 hV.2.2.2.2.2) (funext fun j => fe_2) hR.1.1 (clv_tape hV (fun _ _ _ => rfl)))
  refine hl_122 (k1_e hE) (gm_Wp_mx hfun hrow (fun o n1 K1 R1 M1 o2 n2 K2 R2 M2 q1 q2 ho hdt => ?_))
  obtain ⟨hn9, q1⟩ := q1
  obtain ⟨hF2, hfr, -⟩ := q2
  have hW := lqw_c
  have hK2 : ∀ k, k ≤ 245 → K2 k = bs_K la K k := fun k hk => hfr.2.1 k hk
  have hrf : ∀ k j, rK k j → M2 k j = M k j := fun k j hk => by
    have hk := rk_le hk
    rw [hfr.2.2.1 k j (show k ≤ 245 by omega) (fun w hw hh => by have := of_decide_eq_true (List.all_eq_true.mp hW w hw); omega)]
    exact vM (by omega)
  rcases q1 with ⟨v, rfl, q1⟩ | ⟨i, hi, rfl, q1⟩
  · refine ⟨fun k h1 hk => (q1.2.2.2.2.1 k hk).trans (hK2 k hk).symm, hn9, Or.inl ⟨v, rfl, ?_⟩⟩
    rw [← mx_u]
    have hv := ck_w_ir v
    exact lw_key hb hg hR hbc hbs k q1 (gm_Fx_M hF2 (show gm_tyw p2_O 245 0 0 (-2147483648) 2147483647 = true by decide +kernel) (Int.le_refl 0) (Int.le_refl 0) hv.1 (show gm_w v ≤ 2147483647 by have := hv.2; omega)) hK2 (fun k j hk => (uM_ne (by have := rk_le hk; omega)).trans (hrf k j hk)) (dt_u hdt)
  · exact ⟨fun k h1 hk => (q1.2.2.2.2.1 k hk).trans (hK2 k hk).symm, hn9, Or.inr ⟨i, hi, rfl, lw_key hb hg hR hbc hbs k q1 hF2 hK2 hrf hdt⟩⟩
theorem lw_ck : [lw_S].all w_m = true ∧ bc_cov 60 [] ([lw_S].map bc_box) = true := by decide +kernel
theorem om_law (hb : bg g la K R M) (hg : g < 10000) (hR : MID la K M N (ap_law f t lw A).2.2.1 (ap_law f t lw A).2.2.2.1 im 0 (ap_law f t lw A).2.2.2.2 f N lw A im t w f) (h : gm_at 370 pc = some (.invokevirtual ix)) (hc : gm_cal (gm_ow 370) ix = some (0, 283)) (hst : (st.map gm_cat).sum ≤ 8) (hbc : 6 ≤ bc) (hbs : 600 ≤ bs) (k : mm_K X LX bc bs (pc + 3) L st Q g M (PV (ap_law f t lw A).1 (ap_law f t lw A).2.1) (some (ap_law f t lw A).1) (fun la2 K2 M2 => REL la2 K2 M2 N (ap_law f t lw A).2.2.1 (ap_law f t lw A).2.2.2.1 im 0 (ap_law f t lw A).2.2.2.2 f)) : gm_Wp X LX 280 bc bs 370 pc L (gm_vr 226 :: st) (245 + 4 * g) K R M Q := by
  refine mw_m (xs := []) (mj := 283) (l := [lw_S]) (ds := []) (P := PV (ap_law f t lw A).1 (ap_law f t lw A).2.1) (oc := some (ap_law f t lw A).1) hb hg hR h hc (by decide +kernel) (by decide +kernel) (show 0 = gm_na 283 by decide +kernel) (show 0 + 1 ≤ gm_ml 283 by decide +kernel) hst (ck_S1 lw_S_s ck_S0) lw_ck.1 lw_ck.2 trivial (fun _ h => nomatch h) hbc hbs pv_u ?_ k
  have hE : E0 245 (bs_K la K) (bs_R 100003 0) := e0_w hb (Or.inr (Or.inl ⟨rfl, rfl⟩))
  have hV := rfv_w (la := la) hR.2.2.2.2
  have k231 := (hE.1 231 (1, 400) (by decide +kernel)).2
  refine gm_Wp_nM (c := 231) (len := 400) (M' := fun k j => if k = 231 then f j else bs_M la M k j) k231 (fun k j hk => if_neg hk) (fun j hj => (if_pos rfl).trans (hV.2.2.2.2 (j : Int) (by omega) (by omega)).symm) ?_
  exact gm_Wp_mono (fun o n1 K1 R1 M1 hq => rd_rv ic_law hq) (rr_law (by decide) hE (vf_ra hR.2.1) (funext fun j => if_pos rfl) (rf_exact hV))
end LW20
end
/-! 7c21.qo -/
section
/-! WHAT IS KEPT (ways, FLOWs) IS RIGHT: a standing condition of the calls that only ask. -/
section QO21
variable {X : Int → Int} {LX n : Nat} {K K2 : gm_K} {R R2 : gm_R} {M M2 : gm_M} {N N2 h : Int → Int} {lw : Option (List lln)} {ls ls2 : List lln} {W : Int → Int}
theorem rsum_hh {H H2 : (Int → Int) → Int → Prop} {F G : Int → Int} {kd : Int} {m : Nat} (e : ∀ k : Nat, k < m → (H F (k : Int) ↔ H2 F (k : Int))) : ∀ k : Nat, k ≤ m → rsum H F G kd k = rsum H2 F G kd k := by
  intro k
  induction k with
  | zero => intro _; rfl
  | succ k ih =>
    intro hk
    show rsum H F G kd k + @ite Int (G (396 + 4 * (k : Int)) = kd ∧ H F (k : Int)) (Classical.propDecidable _) (G (396 + 4 * (k : Int) + 1)) 0 = rsum H2 F G kd k + @ite Int (G (396 + 4 * (k : Int)) = kd ∧ H2 F (k : Int)) (Classical.propDecidable _) (G (396 + 4 * (k : Int) + 1)) 0
    rw [ih (by omega)]
    have e9 : H F (k : Int) = H2 F (k : Int) := propext (e k (by omega))
    rw [e9]
/-- two laws by the same lines are the same -/
theorem aphi_u (h1 : LAWR (some ls) W) (h2 : LAWR (some ls2) W) : aphi (some ls) N h = aphi (some ls2) N h := by
  obtain ⟨⟨a1, a2⟩, a3, a4, -⟩ := h1.2 ls rfl
  obtain ⟨⟨b1, b2⟩, b3, b4, -⟩ := h2.2 ls2 rfl
  have el : ls.length = ls2.length := by omega
  funext l r y
  by_cases hl : 0 ≤ l ∧ l < 6
  · rw [aphi_s hl, aphi_s hl, ← rphi_gcl a4, ← rphi_gcl b4]
    have e : ((ls.length : Int)).toNat = ls.length := by omega
    have e2 : ((ls2.length : Int)).toNat = ls.length := by omega
    have hh : ∀ F, FB F → ∀ k : Nat, k < ls.length → (HH ls F (k : Int) ↔ HH ls2 F (k : Int)) := fun F hF k hk => (hhl_x a3 a4 F k (fun _ => 0) hF (by omega) (by omega)).symm.trans (hhl_x b3 b4 F k (fun _ => 0) hF (by omega) (by omega))
    unfold rphi
    rw [e, e2, rsum_hh (hh _ fb_fcts) _ (Nat.le_refl _), rsum_hh (hh _ fb_fcts) _ (Nat.le_refl _)]
  · unfold aphi
    rw [if_neg hl, if_neg hl]
theorem aphx_u (h1 : LAWR (some ls) W) (h2 : LAWR (some ls2) W) : aphx (some ls) N h = aphx (some ls2) N h := by
  obtain ⟨⟨a1, a2⟩, a3, a4, -⟩ := h1.2 ls rfl
  obtain ⟨⟨b1, b2⟩, b3, b4, -⟩ := h2.2 ls2 rfl
  have el : ls.length = ls2.length := by omega
  have key : ∀ (F : Int → Int) (kd : Int), FB F → rsum (HH ls) F (gcl ls) kd ls.length = rsum (HH ls2) F (gcl ls2) kd ls2.length := fun F kd hF => by
    have hh : ∀ k : Nat, k < ls.length → (HH ls F (k : Int) ↔ HH ls2 F (k : Int)) := fun k hk => (hhl_x a3 a4 F k (fun _ => 0) hF (by omega) (by omega)).symm.trans (hhl_x b3 b4 F k (fun _ => 0) hF (by omega) (by omega))
    rw [← rsum_gcl a4 ls.length (Nat.le_refl _), ← rsum_gcl b4 ls2.length (Nat.le_refl _), rsum_hh hh ls.length (Nat.le_refl _), el]
  funext l r y
  by_cases hl : 0 ≤ l
  · rw [aphx_s hl, aphx_s hl, key _ 0 fb_fcts, key _ 1 fb_fcts]
  · unfold aphx
    rw [if_neg hl, if_neg hl]
theorem pl_b : ∀ {i : Int}, (0 ≤ i ∧ i < 395 ∧ ¬ i = 8) → 0 ≤ (pl i).2 ∧ (pl i).2 ≤ 200 := by
  intro i h
  rcases pl_cases h with h | h | h | h | h | h | h | h | h | h | h | h | h | h | h | h | h | h | h | h
  all_goals first
    | (subst h; decide)
    | (first | rw [pl_2 h] | rw [pl_4 h] | rw [pl_6 h] | rw [pl_8 h] | rw [pl_10 h] | rw [pl_12 h]); constructor <;> simp only [] <;> omega
theorem cs_b {b : Nat} (e : ∀ (x : Nat) (j : Int), b ≤ x → x ≤ b + 12 → 0 ≤ j → j ≤ 200 → M2 x j = M x j) : cs M2 b = cs M b := cs_ext fun i hi => e _ _ (Nat.le_add_right _ _) (Nat.add_le_add_left (pl_le hi) _) (pl_b hi).1 (pl_b hi).2
/-- what is told of the class's numbers -/
noncomputable def TIx (N : Int → Int) (M : gm_M) : Prop := cs M 3 = N ∧ (∀ y, 0 ≤ y → y < 300 → M 201 y = hts (N 13) y ∧ (0 ≤ hts (N 13) y ∧ hts (N 13) y ≤ 9) ∧ gm_ir (M 203 y) ∧ fbit N y (M 203 y)) ∧ ∀ l r, 0 ≤ l → l < 6 → 0 ≤ r → r < 99 → M 202 (l * 99 + r) = spd N l r
noncomputable def qC (lw : Option (List lln)) (N : Int → Int) (M : gm_M) : Prop := GJ N ∧ TIx N M ∧ (M 1 15 = 0 ∨ (M 1 15 = 1 ∧ ENDS N (hts (N 13)) (aphi lw N (hts (N 13))) M))
noncomputable def qC_fp (k : Nat) : List (Int × Int) := if 3 ≤ k ∧ k ≤ 15 then [(0, 200)] else if k = 201 ∨ k = 203 then [(0, 299)] else if k = 202 then [(0, 593)] else if k = 1 then [(15, 15)] else if k = 220 then [(3, 3)] else if k = 221 then [(0, 47)] else []
theorem qC_e (hq : qC lw N M) (e : ∀ k r, r ∈ qC_fp k → ∀ j, r.1 ≤ j → j ≤ r.2 → M2 k j = M k j) : qC lw N M2 := by
  obtain ⟨hG, ⟨h1, h2, h3⟩, h4⟩ := hq
  have n4 := hG.1.1.2.1.2.2.2.1
  have e15 : M2 1 15 = M 1 15 := e 1 (15, 15) (by decide) 15 (by decide) (by decide)
  refine ⟨hG, ⟨?_, fun y y0 y1 => ?_, fun l r l0 l1 r0 r1 => ?_⟩, ?_⟩
  · rw [← h1]
    exact cs_b fun x j x1 x2 j0 j1 => e x (0, 200) (by unfold qC_fp; rw [if_pos ⟨x1, by omega⟩]; exact List.mem_cons_self) j j0 j1
  · rw [e 201 (0, 299) (by decide) y y0 (by show y ≤ 299; omega), e 203 (0, 299) (by decide) y y0 (by show y ≤ 299; omega)]
    exact h2 y y0 y1
  · rw [e 202 (0, 593) (by decide) _ (by show 0 ≤ l * 99 + r; omega) (by show l * 99 + r ≤ 593; omega)]
    exact h3 l r l0 l1 r0 r1
  · rw [e15]
    refine h4.imp_right fun ⟨a, b⟩ => ⟨a, by rw [e 220 (3, 3) (by decide) 3 (by decide) (by decide)]; exact b.1, fun l l0 l1 => ?_⟩
    rw [e 221 (0, 47) (by decide) (l * 2 + 0) (by show 0 ≤ l * 2 + 0; omega) (by show l * 2 + 0 ≤ 47; omega), e 221 (0, 47) (by decide) (l * 2 + 1) (by show 0 ≤ l * 2 + 1; omega) (by show l * 2 + 1 ≤ 47; omega)]
    exact b.2 l l0 l1
/-- without a law -/
noncomputable def q0_fp (k : Nat) : List (Int × Int) := j_fp k ++ qC_fp k
noncomputable def q0_J (K : gm_K) (M : gm_M) : Prop := j_J p2_ty K M ∧ ∃ N, qC none N M
theorem q0_h : ∀ (K K' : gm_K) (M M' : gm_M), (∀ k r, r ∈ q0_fp k → K' k = K k) → (∀ k r, r ∈ q0_fp k → ∀ j, r.1 ≤ j → j ≤ r.2 → M' k j = M k j) → q0_J K M → q0_J K' M' := by
  intro K K' M M' hK hM ⟨hJ, N, hq⟩
  exact ⟨j_h K K' M M' (fun k r hr => hK k r (List.mem_append_left _ hr)) (fun k r hr => hM k r (List.mem_append_left _ hr)) hJ, N, qC_e hq (fun k r hr => hM k r (List.mem_append_right _ hr))⟩
noncomputable abbrev q0_O : gm_Or := ck_OT p2_T q0_fp q0_J p2_nm q0_h
/-- under a law -/
noncomputable def LWJ (ls : List lln) (K : gm_K) (M : gm_M) : Prop := LW ls ∧ ∃ NC : Nat, NC ≤ 400 ∧ K 247 = (0, NC) ∧ LB NC (M 247) (M 249) (ls.length : Int) M ∧ LC ls (M 247) (M 249)
noncomputable def qL_fx (k : Nat) : List (Int × Int) := if k = 200 then [(6, 6)] else if k = 205 then [(0, 14849)] else if k = 227 then [(8, 8), (395, 1243)] else if k = 247 then [(0, 399)] else if k = 248 then [(0, 3)] else if k = 249 then [(0, 47)] else []
noncomputable def qL_fp (k : Nat) : List (Int × Int) := l_fp k ++ (qC_fp k ++ qL_fx k)
noncomputable def qL_J (K : gm_K) (M : gm_M) : Prop := l_J p2_ty K M ∧ ∃ N ls, qC (some ls) N M ∧ KFL N (aphx (some ls) N (hts (N 13))) M ∧ LWJ ls K M ∧ LAWR (some ls) (M 227)
theorem kfl_b {φ : Int → Int → Int → Int} (hk : KFL N φ M) (h0 : N 0 ≤ 6 ∧ N 1 ≤ 99) (e6 : M2 200 6 = M 200 6) (e5 : ∀ j, 0 ≤ j → j < 14850 → M2 205 j = M 205 j) : KFL N φ M2 := by
  refine ⟨by rw [e6]; exact hk.1, fun l r y l0 l1 r0 r1 y0 y1 => ?_⟩
  have ek : kv M2 ((l * 99 + r) * 300 + y) = kv M ((l * 99 + r) * 300 + y) := by
    unfold kv
    rw [e6, e5 (((l * 99 + r) * 300 + y) / 12) (by omega) (by omega)]
  rw [ek]
  exact hk.2 l r y l0 l1 r0 r1 y0 y1
theorem lwj_e (hq : LWJ ls K M) (eK : K2 247 = K 247) (e7 : ∀ j, 0 ≤ j → j < 400 → M2 247 j = M 247 j) (e8 : ∀ j, 0 ≤ j → j < 4 → M2 248 j = M 248 j) (e9 : ∀ j, 0 ≤ j → j < 48 → M2 249 j = M 249 j) : LWJ ls K2 M2 := by
  obtain ⟨hW, NC, h1, h2, ⟨⟨hm1, hm2, hm3⟩, -, -, hm4⟩, hC⟩ := hq
  have h12 := hW.1
  have f8 : M2 248 3 = M 248 3 := e8 3 (by decide) (by decide)
  refine ⟨hW, NC, h1, eK.trans h2, ⟨⟨?_, fun i i0 i1 => ?_, fun k k0 k1 => ?_⟩, fun _ => rfl, fun _ => rfl, f8.trans hm4⟩, fun k x hx => ?_⟩
  · rw [f8, e8 0 (by decide) (by decide), e8 1 (by decide) (by decide)]
    exact hm1
  · rw [e7 i i0 (by omega)]
    exact hm2 i i0 i1
  · rw [f8] at k1
    rw [e9 (k * 4 + 0) (by omega) (by omega), e9 (k * 4 + 1) (by omega) (by omega), e9 (k * 4 + 2) (by omega) (by omega), e9 (k * 4 + 3) (by omega) (by omega)]
    exact hm3 k k0 k1
  · have hk := (List.getElem?_eq_some_iff.mp hx).1
    obtain ⟨c0, c1, c2, c3⟩ := hC k x hx
    have hb := hm3 (k : Int) (by omega) (by omega)
    rw [e9 ((k : Int) * 4 + 0) (by omega) (by omega), e9 ((k : Int) * 4 + 1) (by omega) (by omega), e9 ((k : Int) * 4 + 2) (by omega) (by omega), e9 ((k : Int) * 4 + 3) (by omega) (by omega)]
    refine ⟨c0, c1, c2, fun t ht => ⟨(c3 t ht).1, fun j v hv => ?_⟩⟩
    have hj := (List.getElem?_eq_some_iff.mp hv).1
    have := (c3 t ht).1
    rw [e7 _ (by omega) (by omega)]
    exact (c3 t ht).2 j v hv
theorem qL_h : ∀ (K K' : gm_K) (M M' : gm_M), (∀ k r, r ∈ qL_fp k → K' k = K k) → (∀ k r, r ∈ qL_fp k → ∀ j, r.1 ≤ j → j ≤ r.2 → M' k j = M k j) → qL_J K M → qL_J K' M' := by
  intro K K' M M' hK hM ⟨hJ, N, ls, hq, hk, hw, hr⟩
  have x : ∀ k r, r ∈ qL_fx k → r ∈ qL_fp k := fun k r hr => List.mem_append_right _ (List.mem_append_right _ hr)
  have n0 := hq.1.1.1.1
  exact ⟨l_h K K' M M' (fun k r hr => hK k r (List.mem_append_left _ hr)) (fun k r hr => hM k r (List.mem_append_left _ hr)) hJ, N, ls, qC_e hq (fun k r hr => hM k r (List.mem_append_right _ (List.mem_append_left _ hr))),
    kfl_b hk ⟨by omega, by omega⟩ (hM 200 (6, 6) (x _ _ (by decide)) 6 (by decide) (by decide)) (fun j j0 j1 => hM 205 (0, 14849) (x _ _ (by decide)) j j0 (by show j ≤ 14849; omega)),
    lwj_e hw (hK 247 (0, 399) (x _ _ (by decide))) (fun j j0 j1 => hM 247 (0, 399) (x _ _ (by decide)) j j0 (by show j ≤ 399; omega)) (fun j j0 j1 => hM 248 (0, 3) (x _ _ (by decide)) j j0 (by show j ≤ 3; omega)) (fun j j0 j1 => hM 249 (0, 47) (x _ _ (by decide)) j j0 (by show j ≤ 47; omega)),
    lawr_cg hr (fun j hj h1 => by
      rcases hj with hj | rfl
      · exact hM 227 (395, 1243) (x _ _ (by decide)) j hj (by show j ≤ 1243; omega)
      · exact hM 227 (8, 8) (x _ _ (by decide)) 8 (by decide) (by decide))⟩
/-- the YEARs of both travellers have names too -/
noncomputable def qL_nm : List (Nat × Nat × Int) := p2_nm ++ [(28, 206, 7), (29, 207, 7)]
noncomputable def qL_O : gm_Or := (p2_OL.1, p2_OL.2.1, ⟨(p2_OL.2.2.ty, qL_fp, qL_J, qL_nm, none), ⟨qL_h, fun _ h => nomatch h⟩⟩)
/-- the reference -/
noncomputable def qR_fx (k : Nat) : List (Int × Int) := if k = 227 then [(0, 1243)] else if k = 234 then [(0, 299)] else if k = 226 then [(26, 26)] else if k = 235 then [(0, 29699)] else []
noncomputable def qR_fp (k : Nat) : List (Int × Int) := j_fp k ++ qR_fx k
noncomputable def qR_J (K : gm_K) (M : gm_M) : Prop := j_J p2_ty K M ∧ ∃ N lw, GJ N ∧ TR N (hts (N 13)) M ∧ LAWR lw (M 227) ∧ KFR N (aphi lw N (hts (N 13))) M
theorem ws_b {W W2 : Int → Int} (e : ∀ j, 0 ≤ j → j < 395 → W2 j = W j) : ws W2 = ws W := ws_ext (fun j j0 j1 => e j j0 j1)
theorem qR_h : ∀ (K K' : gm_K) (M M' : gm_M), (∀ k r, r ∈ qR_fp k → K' k = K k) → (∀ k r, r ∈ qR_fp k → ∀ j, r.1 ≤ j → j ≤ r.2 → M' k j = M k j) → qR_J K M → qR_J K' M' := by
  intro K K' M M' hK hM ⟨hJ, N, lw, hG, hT, hL, hk⟩
  have x : ∀ k r, r ∈ qR_fx k → r ∈ qR_fp k := fun k r hr => List.mem_append_right _ hr
  have e7 : ∀ j, 0 ≤ j → j < 1244 → M' 227 j = M 227 j := fun j j0 j1 => hM 227 (0, 1243) (x _ _ (by decide)) j j0 (by show j ≤ 1243; omega)
  have e26 : M' 226 26 = M 226 26 := hM 226 (26, 26) (x _ _ (by decide)) 26 (by decide) (by decide)
  have e35 : ∀ j, 0 ≤ j → j < 29700 → M' 235 j = M 235 j := fun j j0 j1 => hM 235 (0, 29699) (x _ _ (by decide)) j j0 (by show j ≤ 29699; omega)
  have n0 := hG.1.1.1
  refine ⟨j_h K K' M M' (fun k r hr => hK k r (List.mem_append_left _ hr)) (fun k r hr => hM k r (List.mem_append_left _ hr)) hJ, N, lw, hG, ⟨(ws_b fun j j0 j1 => e7 j j0 (by omega)).trans hT.1, fun y y0 y1 => ?_⟩, lawr_cg hL (fun j hj h1 => e7 j (by omega) h1), ?_⟩
  · rw [hM 234 (0, 299) (x _ _ (by decide)) y y0 (by show y ≤ 299; omega)]
    exact hT.2 y y0 y1
  · refine ⟨by rw [e26]; exact hk.1, fun j j0 j1 => by rw [e35 j j0 j1]; exact hk.2.1 j j0 j1, fun r y h0 h1 r0 r1 y0 y1 => ?_⟩
    rw [e26] at h0 h1 ⊢
    rw [e35 _ (by omega) (by omega)]
    exact hk.2.2 r y h0 h1 r0 r1 y0 y1
noncomputable abbrev qR_O : gm_Or := ck_OT p2_T qR_fp qR_J p2_nm qR_h
theorem q0_nmu : ck_nmu q0_O := p2_nmu
theorem qL_nmk : qL_nm.all (fun q => decide (qL_nm.find? (fun p => p.1 == q.1) = some q)) = true := by decide +kernel
theorem qL_nmu : ck_nmu qL_O := fun q hq => of_decide_eq_true (List.all_eq_true.mp qL_nmk q hq)
theorem qR_nmu : ck_nmu qR_O := p2_nmu
/-- a row that writes nothing of it is a row under it -/
theorem q_lift {O O2 : gm_Or} {S : ck_Sum} {mj : Nat} (e1 : O2.1 = O.1) (e2 : O2.2.1 = O.2.1) (e3 : O2.2.2.ty = O.2.2.ty) (e4 : ∀ q, q ∈ O.2.2.nm → q ∈ O2.2.2.nm) (e5 : ∀ k r, r ∈ O.2.2.fp k → r ∈ O2.2.2.fp k) (e6 : ∀ K M, O2.2.2.J K M → O.2.2.J K M) (hS : ck_Ok O X LX mj S) (hW : S.2.2.2.2.1.1.all (fun w => (O2.2.2.fp w.1).all fun r => decide (w.2.2 < r.1) || decide (r.2 < w.2.1)) = true) : ck_Ok O2 X LX mj S := by
  intro d σ vs n K R M hd hn hvs hσ hF hf
  have hF0 : gm_Fx O n K R M := ⟨fun k q hq => hF.1 k q (by rw [e1]; exact hq), fun k j r hr => hF.2.1 k j r (by rw [e2]; exact hr), fun k r hr => hF.2.2.1 k r (by rw [e3]; exact hr), fun k r hr => hF.2.2.2.1 k r (e5 k r hr), e6 K M hF.2.2.2.2⟩
  refine gm_Wp_mono (fun o n2 K2 R2 M2 hq => ?_) (hS d σ vs n K R M hd hn hvs (fun q hq => hσ q (e4 q hq)) hF0 hf)
  obtain ⟨hF2, hfr, hoc⟩ := hq
  have hnn := hfr.1
  refine ⟨⟨fun k q hq => hF2.1 k q (by rw [← e1]; exact hq), fun k j r hr => hF2.2.1 k j r (by rw [← e2]; exact hr), fun k r hr => hF2.2.2.1 k r (by rw [← e3]; exact hr), fun k r hr => Nat.le_trans (hF.2.2.2.1 k r hr) hnn, ?_⟩, hfr, hoc⟩
  refine O2.2.2.hJ K K2 M M2 (fun k r hr => hfr.2.1 k (hF.2.2.2.1 k r hr)) (fun k r hr j j1 j2 => hfr.2.2.1 k j (hF.2.2.2.1 k r hr) (fun w hw hh => ?_)) hF.2.2.2.2
  have h9 := List.all_eq_true.mp (List.all_eq_true.mp hW w hw) r (by rw [hh.1]; exact hr)
  simp only [Bool.or_eq_true, decide_eq_true_eq] at h9
  omega
noncomputable def q_av (fp : Nat → List (Int × Int)) (S : ck_Sum) : Bool := S.2.2.2.2.1.1.all (fun w => (fp w.1).all fun r => decide (w.2.2 < r.1) || decide (r.2 < w.2.1))
theorem q0_l {S : ck_Sum} {mj : Nat} (hS : ck_Ok p2_O X LX mj S) (hW : q_av q0_fp S = true) : ck_Ok q0_O X LX mj S := q_lift (O := p2_O) (O2 := q0_O) rfl rfl rfl (fun _ h => h) (fun k r hr => List.mem_append_left _ hr) (fun K M h => h.1) hS hW
theorem qL_l {S : ck_Sum} {mj : Nat} (hS : ck_Ok p2_OL X LX mj S) (hW : q_av qL_fp S = true) : ck_Ok qL_O X LX mj S := q_lift (O := p2_OL) (O2 := qL_O) rfl rfl rfl (fun q h => List.mem_append_left _ h) (fun k r hr => List.mem_append_left _ hr) (fun K M h => h.1) hS hW
theorem qR_l {S : ck_Sum} {mj : Nat} (hS : ck_Ok p2_O X LX mj S) (hW : q_av qR_fp S = true) : ck_Ok qR_O X LX mj S := q_lift (O := p2_O) (O2 := qR_O) rfl rfl rfl (fun _ h => h) (fun k r hr => List.mem_append_left _ hr) (fun K M h => h.1) hS hW
end QO21
end
/-! 7c21b.l6 -/
section
/-! LANE 6, which there isn't: FLOW asked of it keeps nothing. -/
section L6
variable {X : Int → Int} {LX d bc bs n NC : Nat} {K : gm_K} {R : gm_R} {M M2 : gm_M} {Q : gm_Q} {N h C Ln : Int → Int} {sp : Int → Int → Int} {m lane row year speed cell f : Int} {φ : Int → Int → Int → Int}
theorem l6_spd (hE : E0 n K R) (hT : TI N h sp M) (hN : NR N) (h2 : 0 ≤ row ∧ row < 99) (q0 : Q (.inl (some (gm_vi 0))) n K R (M)) : gm_Wp X LX d bc bs 36 0 (gm_ent 36 [gm_vr 200, gm_vi 6, gm_vi row]) [] n K R M Q := by
  obtain ⟨⟨⟨a0, b0⟩, ⟨a1, b1⟩, ⟨a10, b10⟩, ⟨a11, b11⟩, ⟨a12, b12⟩, a9, b9⟩, ⟨⟨a2, b2⟩, ⟨a5, b5⟩, ⟨a3, b3⟩, ⟨a4, b4⟩, ⟨a6, b6⟩, ⟨a14, b14⟩, ⟨a7, b7⟩, a13, b13⟩, rF, rP, rL⟩ := id hN
  refine gm_sz (gm_p_load (pc := 0) (i := .iload_n 1) (sr := 0) (j := 1) (by decide +kernel) rfl rfl rfl) ?_
  refine gm_sz (gm_p_const (pc := 1) (i := .bipush 99) (v := gm_vi 99) (by decide +kernel) (by decide +kernel)) ?_
  refine gm_sz (gm_p_bin (pc := 3) (i := .imul) (f := fun x y => x * y) (by decide +kernel) rfl) ?_
  refine gm_sz (gm_p_load (pc := 4) (i := .iload_n 2) (sr := 0) (j := 2) (by decide +kernel) rfl rfl rfl) ?_
  refine gm_sz (gm_p_bin (pc := 5) (i := .iadd) (f := fun x y => x + y) (by decide +kernel) rfl) ?_
  refine gm_sz (gm_p_stor (pc := 6) (i := .istore_n 3) (sr := 0) (j := 3) (by decide +kernel) rfl (show 4 ≤ _ from Nat.le_of_ble_eq_true rfl) rfl) ?_
  refine gm_sz (gm_p_load (pc := 7) (i := .iload_n 3) (sr := 0) (j := 3) (by decide +kernel) rfl rfl rfl) ?_
  refine fw_iff (cc := .lt) (pc := 8) (off := 21) (by decide +kernel) (by decide) ⟨by omega, by omega⟩ (show ¬ (594 + row) < 0 by omega) ?_
  refine gm_sz (gm_p_load (pc := 11) (i := .iload_n 3) (sr := 0) (j := 3) (by decide +kernel) rfl rfl rfl) ?_
  refine gm_sz (gm_p_load (pc := 12) (i := .aload_n 0) (sr := 2) (j := 0) (by decide +kernel) rfl rfl rfl) ?_
  refine gm_sz (fw_gr (pc := 13) (ix := 15) (ci := 4) (j := 2) (r := 202) (by decide +kernel) (e0k hE (k := 200) (c := 4) (by decide +kernel)) (by decide +kernel) (by decide +kernel) (e0r hE (k := 200) (j := 2) (r := 202) (by decide +kernel))) ?_
  refine gm_sz (fw_al (pc := 16) (k := 202) (len := 594) (by decide +kernel) (e0a hE (k := 202) (q := ((0 : Nat), (594 : Nat))) (by decide +kernel)).1 (e0a hE (k := 202) (q := ((0 : Nat), (594 : Nat))) (by decide +kernel)).2 (by decide)) ?_
  refine fw_ict (cc := .ge) (pc := 17) (off := 12) (by decide +kernel) (by decide) ⟨by omega, by omega⟩ ⟨by decide, by decide⟩ (show 594 ≤ (594 + row) by omega) ?_
  refine gm_sz (gm_p_const (pc := 29) (i := .iconst 0) (v := gm_vi 0) (by decide +kernel) (by decide +kernel)) ?_
  exact gm_r_int (pc := 30) (by decide +kernel) (Or.inl (by decide +kernel)) q0
theorem l6_sf0 (hd : 1 ≤ d) (hE : E0 n K R) (hT : TI N h sp M) (hN : NR N) (h1 : 0 ≤ lane ∧ lane ≤ 6) (h2 : 0 ≤ year ∧ year < 300) (q0 : lane = 0 → (N 12) ≤ lane → Q (.inl (none)) n K R (gm_uM (gm_uM (gm_uM (gm_uM (gm_uM (gm_uM (gm_uM (gm_uM (gm_uM (gm_uM M 204 0 lane) 204 1 row) 204 2 year) 204 3 (h year)) 204 4 speed) 204 5 0) 204 6 0) 204 7 0) 204 8 1) 204 9 0)) (q1 : lane = 0 → ¬ (N 12) ≤ lane → Q (.inl (none)) n K R (gm_uM (gm_uM (gm_uM (gm_uM (gm_uM (gm_uM (gm_uM (gm_uM (gm_uM (gm_uM M 204 0 lane) 204 1 row) 204 2 year) 204 3 (h year)) 204 4 speed) 204 5 0) 204 6 0) 204 7 0) 204 8 1) 204 9 1)) (q2 : ¬ lane = 0 → ¬ lane = ((N 0) - 1) → (N 12) ≤ lane → Q (.inl (none)) n K R (gm_uM (gm_uM (gm_uM (gm_uM (gm_uM (gm_uM (gm_uM (gm_uM (gm_uM (gm_uM M 204 0 lane) 204 1 row) 204 2 year) 204 3 (h year)) 204 4 speed) 204 5 0) 204 6 0) 204 7 0) 204 8 0) 204 9 0)) (q3 : ¬ lane = 0 → ¬ lane = ((N 0) - 1) → ¬ (N 12) ≤ lane → Q (.inl (none)) n K R (gm_uM (gm_uM (gm_uM (gm_uM (gm_uM (gm_uM (gm_uM (gm_uM (gm_uM (gm_uM M 204 0 lane) 204 1 row) 204 2 year) 204 3 (h year)) 204 4 speed) 204 5 0) 204 6 0) 204 7 0) 204 8 0) 204 9 1)) (q4 : ¬ lane = 0 → lane = ((N 0) - 1) → (N 12) ≤ lane → Q (.inl (none)) n K R (gm_uM (gm_uM (gm_uM (gm_uM (gm_uM (gm_uM (gm_uM (gm_uM (gm_uM (gm_uM M 204 0 lane) 204 1 row) 204 2 year) 204 3 (h year)) 204 4 speed) 204 5 0) 204 6 0) 204 7 0) 204 8 1) 204 9 0)) (q5 : ¬ lane = 0 → lane = ((N 0) - 1) → ¬ (N 12) ≤ lane → Q (.inl (none)) n K R (gm_uM (gm_uM (gm_uM (gm_uM (gm_uM (gm_uM (gm_uM (gm_uM (gm_uM (gm_uM M 204 0 lane) 204 1 row) 204 2 year) 204 3 (h year)) 204 4 speed) 204 5 0) 204 6 0) 204 7 0) 204 8 1) 204 9 1)) : gm_Wp X LX d bc bs 39 0 (gm_ent 39 [gm_vr 200, gm_vi lane, gm_vi row, gm_vi year, gm_vi speed]) [] n K R M Q := by
  obtain ⟨⟨⟨a0, b0⟩, ⟨a1, b1⟩, ⟨a10, b10⟩, ⟨a11, b11⟩, ⟨a12, b12⟩, a9, b9⟩, ⟨⟨a2, b2⟩, ⟨a5, b5⟩, ⟨a3, b3⟩, ⟨a4, b4⟩, ⟨a6, b6⟩, ⟨a14, b14⟩, ⟨a7, b7⟩, a13, b13⟩, rF, rP, rL⟩ := id hN
  refine gm_sz (gm_p_load (pc := 0) (i := .aload_n 0) (sr := 2) (j := 0) (by decide +kernel) rfl rfl rfl) ?_
  refine gm_sz (fw_gr (pc := 1) (ix := 23) (ci := 4) (j := 4) (r := 204) (by decide +kernel) (e0k hE (k := 200) (c := 4) (by decide +kernel)) (by decide +kernel) (by decide +kernel) (e0r hE (k := 200) (j := 4) (r := 204) (by decide +kernel))) ?_
  refine gm_sz (gm_p_const (pc := 4) (i := .iconst 0) (v := gm_vi 0) (by decide +kernel) (by decide +kernel)) ?_
  refine gm_sz (gm_p_load (pc := 5) (i := .iload_n 1) (sr := 0) (j := 1) (by decide +kernel) rfl rfl rfl) ?_
  refine gm_sz (fw_is (pc := 6) (k := 204) (len := 10) (e0 := 0) (x := lane) (M' := gm_uM M 204 0 lane) (by decide +kernel) (e0a hE (k := 204) (q := ((0 : Nat), (10 : Nat))) (by decide +kernel)).1 (e0a hE (k := 204) (q := ((0 : Nat), (10 : Nat))) (by decide +kernel)).2 (by decide) ⟨by omega, by omega⟩ rfl) ?_
  refine gm_sz (gm_p_load (pc := 7) (i := .aload_n 0) (sr := 2) (j := 0) (by decide +kernel) rfl rfl rfl) ?_
  refine gm_sz (fw_gr (pc := 8) (ix := 23) (ci := 4) (j := 4) (r := 204) (by decide +kernel) (e0k hE (k := 200) (c := 4) (by decide +kernel)) (by decide +kernel) (by decide +kernel) (e0r hE (k := 200) (j := 4) (r := 204) (by decide +kernel))) ?_
  refine gm_sz (gm_p_const (pc := 11) (i := .iconst 1) (v := gm_vi 1) (by decide +kernel) (by decide +kernel)) ?_
  refine gm_sz (gm_p_load (pc := 12) (i := .iload_n 2) (sr := 0) (j := 2) (by decide +kernel) rfl rfl rfl) ?_
  refine gm_sz (fw_is (pc := 13) (k := 204) (len := 10) (e0 := 1) (x := row) (M' := gm_uM (gm_uM M 204 0 lane) 204 1 row) (by decide +kernel) (e0a hE (k := 204) (q := ((0 : Nat), (10 : Nat))) (by decide +kernel)).1 (e0a hE (k := 204) (q := ((0 : Nat), (10 : Nat))) (by decide +kernel)).2 (by decide) ⟨by omega, by omega⟩ rfl) ?_
  refine gm_sz (gm_p_load (pc := 14) (i := .aload_n 0) (sr := 2) (j := 0) (by decide +kernel) rfl rfl rfl) ?_
  refine gm_sz (fw_gr (pc := 15) (ix := 23) (ci := 4) (j := 4) (r := 204) (by decide +kernel) (e0k hE (k := 200) (c := 4) (by decide +kernel)) (by decide +kernel) (by decide +kernel) (e0r hE (k := 200) (j := 4) (r := 204) (by decide +kernel))) ?_
  refine gm_sz (gm_p_const (pc := 18) (i := .iconst 2) (v := gm_vi 2) (by decide +kernel) (by decide +kernel)) ?_
  refine gm_sz (gm_p_load (pc := 19) (i := .iload_n 3) (sr := 0) (j := 3) (by decide +kernel) rfl rfl rfl) ?_
  refine gm_sz (fw_is (pc := 20) (k := 204) (len := 10) (e0 := 2) (x := year) (M' := gm_uM (gm_uM (gm_uM M 204 0 lane) 204 1 row) 204 2 year) (by decide +kernel) (e0a hE (k := 204) (q := ((0 : Nat), (10 : Nat))) (by decide +kernel)).1 (e0a hE (k := 204) (q := ((0 : Nat), (10 : Nat))) (by decide +kernel)).2 (by decide) ⟨by omega, by omega⟩ rfl) ?_
  refine gm_sz (gm_p_load (pc := 21) (i := .aload_n 0) (sr := 2) (j := 0) (by decide +kernel) rfl rfl rfl) ?_
  refine gm_sz (fw_gr (pc := 22) (ix := 23) (ci := 4) (j := 4) (r := 204) (by decide +kernel) (e0k hE (k := 200) (c := 4) (by decide +kernel)) (by decide +kernel) (by decide +kernel) (e0r hE (k := 200) (j := 4) (r := 204) (by decide +kernel))) ?_
  refine gm_sz (gm_p_const (pc := 25) (i := .iconst 3) (v := gm_vi 3) (by decide +kernel) (by decide +kernel)) ?_
  refine gm_sz (gm_p_load (pc := 26) (i := .aload_n 0) (sr := 2) (j := 0) (by decide +kernel) rfl rfl rfl) ?_
  refine gm_sz (gm_p_load (pc := 27) (i := .iload_n 3) (sr := 0) (j := 3) (by decide +kernel) rfl rfl rfl) ?_
  refine gm_c_virt (k := 200) (ci := 4) (mj := 34) (ix := 123) (pc := 28) (as := [gm_vi year]) (st := [gm_vi 3, gm_vr 204]) (d' := d - 1) (bc' := 0) (bs' := 0) (by decide +kernel) (by decide +kernel) (by decide +kernel) (by decide +kernel) (e0k hE (k := 200) (c := 4) (by decide +kernel)).1 (e0k hE (k := 200) (c := 4) (by decide +kernel)).2 (by decide) (by decide +kernel) (show 1 = gm_na 34 by decide +kernel) (fw_c1 fw_si) (show 2 ≤ gm_ml 34 by decide +kernel) (Nat.le_of_ble_eq_true rfl) (by omega) (Nat.zero_le _) (Nat.zero_le _) ?_
  refine ic_heat hE (ti_fr (W := [((204 : Nat), some (0 : Int)), ((204 : Nat), some (1 : Int)), ((204 : Nat), some (2 : Int))]) hT (fr_p (fr_p (fr_p fr_0 (Or.inr (by decide))) (Or.inr (by decide))) (Or.inr (by decide))) (by decide) (by decide +kernel)) hN ⟨by omega, by omega⟩ ?_
  show gm_Wp X LX d _ _ 39 31 _ [gm_vi (h year), gm_vi 3, gm_vr 204] n K _ _ Q
  refine gm_sz (fw_is (pc := 31) (k := 204) (len := 10) (e0 := 3) (x := h year) (M' := gm_uM (gm_uM (gm_uM (gm_uM M 204 0 lane) 204 1 row) 204 2 year) 204 3 (h year)) (by decide +kernel) (e0a hE (k := 204) (q := ((0 : Nat), (10 : Nat))) (by decide +kernel)).1 (e0a hE (k := 204) (q := ((0 : Nat), (10 : Nat))) (by decide +kernel)).2 (by decide) ⟨by omega, by omega⟩ rfl) ?_
  refine gm_sz (gm_p_load (pc := 32) (i := .aload_n 0) (sr := 2) (j := 0) (by decide +kernel) rfl rfl rfl) ?_
  refine gm_sz (fw_gr (pc := 33) (ix := 23) (ci := 4) (j := 4) (r := 204) (by decide +kernel) (e0k hE (k := 200) (c := 4) (by decide +kernel)) (by decide +kernel) (by decide +kernel) (e0r hE (k := 200) (j := 4) (r := 204) (by decide +kernel))) ?_
  refine gm_sz (gm_p_const (pc := 36) (i := .iconst 4) (v := gm_vi 4) (by decide +kernel) (by decide +kernel)) ?_
  refine gm_sz (gm_p_load (pc := 37) (i := .iload 4) (sr := 0) (j := 4) (by decide +kernel) rfl rfl rfl) ?_
  refine gm_sz (fw_is (pc := 39) (k := 204) (len := 10) (e0 := 4) (x := speed) (M' := gm_uM (gm_uM (gm_uM (gm_uM (gm_uM M 204 0 lane) 204 1 row) 204 2 year) 204 3 (h year)) 204 4 speed) (by decide +kernel) (e0a hE (k := 204) (q := ((0 : Nat), (10 : Nat))) (by decide +kernel)).1 (e0a hE (k := 204) (q := ((0 : Nat), (10 : Nat))) (by decide +kernel)).2 (by decide) ⟨by omega, by omega⟩ rfl) ?_
  refine gm_sz (gm_p_load (pc := 40) (i := .aload_n 0) (sr := 2) (j := 0) (by decide +kernel) rfl rfl rfl) ?_
  refine gm_sz (fw_gr (pc := 41) (ix := 23) (ci := 4) (j := 4) (r := 204) (by decide +kernel) (e0k hE (k := 200) (c := 4) (by decide +kernel)) (by decide +kernel) (by decide +kernel) (e0r hE (k := 200) (j := 4) (r := 204) (by decide +kernel))) ?_
  refine gm_sz (gm_p_const (pc := 44) (i := .iconst 5) (v := gm_vi 5) (by decide +kernel) (by decide +kernel)) ?_
  refine gm_sz (gm_p_const (pc := 45) (i := .iconst 0) (v := gm_vi 0) (by decide +kernel) (by decide +kernel)) ?_
  refine gm_sz (fw_is (pc := 46) (k := 204) (len := 10) (e0 := 5) (x := 0) (M' := gm_uM (gm_uM (gm_uM (gm_uM (gm_uM (gm_uM M 204 0 lane) 204 1 row) 204 2 year) 204 3 (h year)) 204 4 speed) 204 5 0) (by decide +kernel) (e0a hE (k := 204) (q := ((0 : Nat), (10 : Nat))) (by decide +kernel)).1 (e0a hE (k := 204) (q := ((0 : Nat), (10 : Nat))) (by decide +kernel)).2 (by decide) ⟨by omega, by omega⟩ rfl) ?_
  refine gm_sz (gm_p_load (pc := 47) (i := .aload_n 0) (sr := 2) (j := 0) (by decide +kernel) rfl rfl rfl) ?_
  refine gm_sz (fw_gr (pc := 48) (ix := 23) (ci := 4) (j := 4) (r := 204) (by decide +kernel) (e0k hE (k := 200) (c := 4) (by decide +kernel)) (by decide +kernel) (by decide +kernel) (e0r hE (k := 200) (j := 4) (r := 204) (by decide +kernel))) ?_
  refine gm_sz (gm_p_const (pc := 51) (i := .bipush 6) (v := gm_vi 6) (by decide +kernel) (by decide +kernel)) ?_
  refine gm_sz (gm_p_const (pc := 53) (i := .iconst 0) (v := gm_vi 0) (by decide +kernel) (by decide +kernel)) ?_
  refine gm_sz (fw_is (pc := 54) (k := 204) (len := 10) (e0 := 6) (x := 0) (M' := gm_uM (gm_uM (gm_uM (gm_uM (gm_uM (gm_uM (gm_uM M 204 0 lane) 204 1 row) 204 2 year) 204 3 (h year)) 204 4 speed) 204 5 0) 204 6 0) (by decide +kernel) (e0a hE (k := 204) (q := ((0 : Nat), (10 : Nat))) (by decide +kernel)).1 (e0a hE (k := 204) (q := ((0 : Nat), (10 : Nat))) (by decide +kernel)).2 (by decide) ⟨by omega, by omega⟩ rfl) ?_
  refine gm_sz (gm_p_load (pc := 55) (i := .aload_n 0) (sr := 2) (j := 0) (by decide +kernel) rfl rfl rfl) ?_
  refine gm_sz (fw_gr (pc := 56) (ix := 23) (ci := 4) (j := 4) (r := 204) (by decide +kernel) (e0k hE (k := 200) (c := 4) (by decide +kernel)) (by decide +kernel) (by decide +kernel) (e0r hE (k := 200) (j := 4) (r := 204) (by decide +kernel))) ?_
  refine gm_sz (gm_p_const (pc := 59) (i := .bipush 7) (v := gm_vi 7) (by decide +kernel) (by decide +kernel)) ?_
  refine gm_sz (gm_p_const (pc := 61) (i := .iconst 0) (v := gm_vi 0) (by decide +kernel) (by decide +kernel)) ?_
  refine gm_sz (fw_is (pc := 62) (k := 204) (len := 10) (e0 := 7) (x := 0) (M' := gm_uM (gm_uM (gm_uM (gm_uM (gm_uM (gm_uM (gm_uM (gm_uM M 204 0 lane) 204 1 row) 204 2 year) 204 3 (h year)) 204 4 speed) 204 5 0) 204 6 0) 204 7 0) (by decide +kernel) (e0a hE (k := 204) (q := ((0 : Nat), (10 : Nat))) (by decide +kernel)).1 (e0a hE (k := 204) (q := ((0 : Nat), (10 : Nat))) (by decide +kernel)).2 (by decide) ⟨by omega, by omega⟩ rfl) ?_
  refine gm_sz (gm_p_load (pc := 63) (i := .aload_n 0) (sr := 2) (j := 0) (by decide +kernel) rfl rfl rfl) ?_
  refine gm_sz (fw_gr (pc := 64) (ix := 23) (ci := 4) (j := 4) (r := 204) (by decide +kernel) (e0k hE (k := 200) (c := 4) (by decide +kernel)) (by decide +kernel) (by decide +kernel) (e0r hE (k := 200) (j := 4) (r := 204) (by decide +kernel))) ?_
  refine gm_sz (gm_p_const (pc := 67) (i := .bipush 8) (v := gm_vi 8) (by decide +kernel) (by decide +kernel)) ?_
  refine gm_sz (gm_p_load (pc := 69) (i := .iload_n 1) (sr := 0) (j := 1) (by decide +kernel) rfl rfl rfl) ?_
  refine fw_if (cc := .eq) (pc := 70) (off := 16) (by decide +kernel) (by decide) ⟨by omega, by omega⟩ (fun h70 => ?_) (fun h70 => ?_)
  · have h70 : lane = 0 := h70
    refine gm_sz (gm_p_const (pc := 86) (i := .iconst 1) (v := gm_vi 1) (by decide +kernel) (by decide +kernel)) ?_
    refine gm_sz (gm_p_goto (pc := 87) (off := 4) (by decide +kernel) (by decide)) ?_
    refine gm_sz (fw_is (pc := 91) (k := 204) (len := 10) (e0 := 8) (x := 1) (M' := gm_uM (gm_uM (gm_uM (gm_uM (gm_uM (gm_uM (gm_uM (gm_uM (gm_uM M 204 0 lane) 204 1 row) 204 2 year) 204 3 (h year)) 204 4 speed) 204 5 0) 204 6 0) 204 7 0) 204 8 1) (by decide +kernel) (e0a hE (k := 204) (q := ((0 : Nat), (10 : Nat))) (by decide +kernel)).1 (e0a hE (k := 204) (q := ((0 : Nat), (10 : Nat))) (by decide +kernel)).2 (by decide) ⟨by omega, by omega⟩ rfl) ?_
    refine gm_sz (gm_p_load (pc := 92) (i := .aload_n 0) (sr := 2) (j := 0) (by decide +kernel) rfl rfl rfl) ?_
    refine gm_sz (fw_gr (pc := 93) (ix := 23) (ci := 4) (j := 4) (r := 204) (by decide +kernel) (e0k hE (k := 200) (c := 4) (by decide +kernel)) (by decide +kernel) (by decide +kernel) (e0r hE (k := 200) (j := 4) (r := 204) (by decide +kernel))) ?_
    refine gm_sz (gm_p_const (pc := 96) (i := .bipush 9) (v := gm_vi 9) (by decide +kernel) (by decide +kernel)) ?_
    refine gm_sz (gm_p_load (pc := 98) (i := .iload_n 1) (sr := 0) (j := 1) (by decide +kernel) rfl rfl rfl) ?_
    refine gm_sz (gm_p_load (pc := 99) (i := .aload_n 0) (sr := 2) (j := 0) (by decide +kernel) rfl rfl rfl) ?_
    refine gm_sz (fw_gr (pc := 100) (ix := 34) (ci := 4) (j := 0) (r := 3) (by decide +kernel) (e0k hE (k := 200) (c := 4) (by decide +kernel)) (by decide +kernel) (by decide +kernel) (e0r hE (k := 200) (j := 0) (r := 3) (by decide +kernel))) ?_
    refine gm_sz (fw_gi (pc := 103) (ix := 126) (ci := 1) (j := 4) (x := N 12) (by decide +kernel) (e0k hE (k := 3) (c := 1) (by decide +kernel)) (by decide +kernel) (by decide +kernel) ((uM_ne (by omega)).trans ((uM_ne (by omega)).trans ((uM_ne (by omega)).trans ((uM_ne (by omega)).trans ((uM_ne (by omega)).trans ((uM_ne (by omega)).trans ((uM_ne (by omega)).trans ((uM_ne (by omega)).trans ((uM_ne (by omega)).trans (ti_str hT))))))))))) ?_
    refine fw_ic (cc := .ge) (pc := 106) (off := 7) (by decide +kernel) (by decide) ⟨by omega, by omega⟩ ⟨by omega, by omega⟩ (fun h106 => ?_) (fun h106 => ?_)
    · have h106 : (N 12) ≤ lane := h106
      refine gm_sz (gm_p_const (pc := 113) (i := .iconst 0) (v := gm_vi 0) (by decide +kernel) (by decide +kernel)) ?_
      refine gm_sz (fw_is (pc := 114) (k := 204) (len := 10) (e0 := 9) (x := 0) (M' := gm_uM (gm_uM (gm_uM (gm_uM (gm_uM (gm_uM (gm_uM (gm_uM (gm_uM (gm_uM M 204 0 lane) 204 1 row) 204 2 year) 204 3 (h year)) 204 4 speed) 204 5 0) 204 6 0) 204 7 0) 204 8 1) 204 9 0) (by decide +kernel) (e0a hE (k := 204) (q := ((0 : Nat), (10 : Nat))) (by decide +kernel)).1 (e0a hE (k := 204) (q := ((0 : Nat), (10 : Nat))) (by decide +kernel)).2 (by decide) ⟨by omega, by omega⟩ rfl) ?_
      exact gm_r_void (pc := 115) (by decide +kernel) (by decide +kernel) (q0 h70 h106)
    · have h106 : ¬ (N 12) ≤ lane := h106
      refine gm_sz (gm_p_const (pc := 109) (i := .iconst 1) (v := gm_vi 1) (by decide +kernel) (by decide +kernel)) ?_
      refine gm_sz (gm_p_goto (pc := 110) (off := 4) (by decide +kernel) (by decide)) ?_
      refine gm_sz (fw_is (pc := 114) (k := 204) (len := 10) (e0 := 9) (x := 1) (M' := gm_uM (gm_uM (gm_uM (gm_uM (gm_uM (gm_uM (gm_uM (gm_uM (gm_uM (gm_uM M 204 0 lane) 204 1 row) 204 2 year) 204 3 (h year)) 204 4 speed) 204 5 0) 204 6 0) 204 7 0) 204 8 1) 204 9 1) (by decide +kernel) (e0a hE (k := 204) (q := ((0 : Nat), (10 : Nat))) (by decide +kernel)).1 (e0a hE (k := 204) (q := ((0 : Nat), (10 : Nat))) (by decide +kernel)).2 (by decide) ⟨by omega, by omega⟩ rfl) ?_
      exact gm_r_void (pc := 115) (by decide +kernel) (by decide +kernel) (q1 h70 h106)
  · have h70 : ¬ lane = 0 := h70
    refine gm_sz (gm_p_load (pc := 73) (i := .iload_n 1) (sr := 0) (j := 1) (by decide +kernel) rfl rfl rfl) ?_
    refine gm_sz (gm_p_load (pc := 74) (i := .aload_n 0) (sr := 2) (j := 0) (by decide +kernel) rfl rfl rfl) ?_
    refine gm_sz (fw_gr (pc := 75) (ix := 34) (ci := 4) (j := 0) (r := 3) (by decide +kernel) (e0k hE (k := 200) (c := 4) (by decide +kernel)) (by decide +kernel) (by decide +kernel) (e0r hE (k := 200) (j := 0) (r := 3) (by decide +kernel))) ?_
    refine gm_sz (fw_gi (pc := 78) (ix := 82) (ci := 1) (j := 0) (x := N 0) (by decide +kernel) (e0k hE (k := 3) (c := 1) (by decide +kernel)) (by decide +kernel) (by decide +kernel) ((uM_ne (by omega)).trans ((uM_ne (by omega)).trans ((uM_ne (by omega)).trans ((uM_ne (by omega)).trans ((uM_ne (by omega)).trans ((uM_ne (by omega)).trans ((uM_ne (by omega)).trans ((uM_ne (by omega)).trans (ti_lan hT)))))))))) ?_
    refine gm_sz (gm_p_const (pc := 81) (i := .iconst 1) (v := gm_vi 1) (by decide +kernel) (by decide +kernel)) ?_
    refine gm_sz (gm_p_bin (pc := 82) (i := .isub) (f := fun x y => x - y) (by decide +kernel) rfl) ?_
    refine fw_ic (cc := .ne) (pc := 83) (off := 7) (by decide +kernel) (by decide) ⟨by omega, by omega⟩ ⟨by omega, by omega⟩ (fun h83 => ?_) (fun h83 => ?_)
    · have h83 : ¬ lane = ((N 0) - 1) := h83
      refine gm_sz (gm_p_const (pc := 90) (i := .iconst 0) (v := gm_vi 0) (by decide +kernel) (by decide +kernel)) ?_
      refine gm_sz (fw_is (pc := 91) (k := 204) (len := 10) (e0 := 8) (x := 0) (M' := gm_uM (gm_uM (gm_uM (gm_uM (gm_uM (gm_uM (gm_uM (gm_uM (gm_uM M 204 0 lane) 204 1 row) 204 2 year) 204 3 (h year)) 204 4 speed) 204 5 0) 204 6 0) 204 7 0) 204 8 0) (by decide +kernel) (e0a hE (k := 204) (q := ((0 : Nat), (10 : Nat))) (by decide +kernel)).1 (e0a hE (k := 204) (q := ((0 : Nat), (10 : Nat))) (by decide +kernel)).2 (by decide) ⟨by omega, by omega⟩ rfl) ?_
      refine gm_sz (gm_p_load (pc := 92) (i := .aload_n 0) (sr := 2) (j := 0) (by decide +kernel) rfl rfl rfl) ?_
      refine gm_sz (fw_gr (pc := 93) (ix := 23) (ci := 4) (j := 4) (r := 204) (by decide +kernel) (e0k hE (k := 200) (c := 4) (by decide +kernel)) (by decide +kernel) (by decide +kernel) (e0r hE (k := 200) (j := 4) (r := 204) (by decide +kernel))) ?_
      refine gm_sz (gm_p_const (pc := 96) (i := .bipush 9) (v := gm_vi 9) (by decide +kernel) (by decide +kernel)) ?_
      refine gm_sz (gm_p_load (pc := 98) (i := .iload_n 1) (sr := 0) (j := 1) (by decide +kernel) rfl rfl rfl) ?_
      refine gm_sz (gm_p_load (pc := 99) (i := .aload_n 0) (sr := 2) (j := 0) (by decide +kernel) rfl rfl rfl) ?_
      refine gm_sz (fw_gr (pc := 100) (ix := 34) (ci := 4) (j := 0) (r := 3) (by decide +kernel) (e0k hE (k := 200) (c := 4) (by decide +kernel)) (by decide +kernel) (by decide +kernel) (e0r hE (k := 200) (j := 0) (r := 3) (by decide +kernel))) ?_
      refine gm_sz (fw_gi (pc := 103) (ix := 126) (ci := 1) (j := 4) (x := N 12) (by decide +kernel) (e0k hE (k := 3) (c := 1) (by decide +kernel)) (by decide +kernel) (by decide +kernel) ((uM_ne (by omega)).trans ((uM_ne (by omega)).trans ((uM_ne (by omega)).trans ((uM_ne (by omega)).trans ((uM_ne (by omega)).trans ((uM_ne (by omega)).trans ((uM_ne (by omega)).trans ((uM_ne (by omega)).trans ((uM_ne (by omega)).trans (ti_str hT))))))))))) ?_
      refine fw_ic (cc := .ge) (pc := 106) (off := 7) (by decide +kernel) (by decide) ⟨by omega, by omega⟩ ⟨by omega, by omega⟩ (fun h106 => ?_) (fun h106 => ?_)
      · have h106 : (N 12) ≤ lane := h106
        refine gm_sz (gm_p_const (pc := 113) (i := .iconst 0) (v := gm_vi 0) (by decide +kernel) (by decide +kernel)) ?_
        refine gm_sz (fw_is (pc := 114) (k := 204) (len := 10) (e0 := 9) (x := 0) (M' := gm_uM (gm_uM (gm_uM (gm_uM (gm_uM (gm_uM (gm_uM (gm_uM (gm_uM (gm_uM M 204 0 lane) 204 1 row) 204 2 year) 204 3 (h year)) 204 4 speed) 204 5 0) 204 6 0) 204 7 0) 204 8 0) 204 9 0) (by decide +kernel) (e0a hE (k := 204) (q := ((0 : Nat), (10 : Nat))) (by decide +kernel)).1 (e0a hE (k := 204) (q := ((0 : Nat), (10 : Nat))) (by decide +kernel)).2 (by decide) ⟨by omega, by omega⟩ rfl) ?_
        exact gm_r_void (pc := 115) (by decide +kernel) (by decide +kernel) (q2 h70 h83 h106)
      · have h106 : ¬ (N 12) ≤ lane := h106
        refine gm_sz (gm_p_const (pc := 109) (i := .iconst 1) (v := gm_vi 1) (by decide +kernel) (by decide +kernel)) ?_
        refine gm_sz (gm_p_goto (pc := 110) (off := 4) (by decide +kernel) (by decide)) ?_
        refine gm_sz (fw_is (pc := 114) (k := 204) (len := 10) (e0 := 9) (x := 1) (M' := gm_uM (gm_uM (gm_uM (gm_uM (gm_uM (gm_uM (gm_uM (gm_uM (gm_uM (gm_uM M 204 0 lane) 204 1 row) 204 2 year) 204 3 (h year)) 204 4 speed) 204 5 0) 204 6 0) 204 7 0) 204 8 0) 204 9 1) (by decide +kernel) (e0a hE (k := 204) (q := ((0 : Nat), (10 : Nat))) (by decide +kernel)).1 (e0a hE (k := 204) (q := ((0 : Nat), (10 : Nat))) (by decide +kernel)).2 (by decide) ⟨by omega, by omega⟩ rfl) ?_
        exact gm_r_void (pc := 115) (by decide +kernel) (by decide +kernel) (q3 h70 h83 h106)
    · have h83 : lane = ((N 0) - 1) := Classical.not_not.mp h83
      refine gm_sz (gm_p_const (pc := 86) (i := .iconst 1) (v := gm_vi 1) (by decide +kernel) (by decide +kernel)) ?_
      refine gm_sz (gm_p_goto (pc := 87) (off := 4) (by decide +kernel) (by decide)) ?_
      refine gm_sz (fw_is (pc := 91) (k := 204) (len := 10) (e0 := 8) (x := 1) (M' := gm_uM (gm_uM (gm_uM (gm_uM (gm_uM (gm_uM (gm_uM (gm_uM (gm_uM M 204 0 lane) 204 1 row) 204 2 year) 204 3 (h year)) 204 4 speed) 204 5 0) 204 6 0) 204 7 0) 204 8 1) (by decide +kernel) (e0a hE (k := 204) (q := ((0 : Nat), (10 : Nat))) (by decide +kernel)).1 (e0a hE (k := 204) (q := ((0 : Nat), (10 : Nat))) (by decide +kernel)).2 (by decide) ⟨by omega, by omega⟩ rfl) ?_
      refine gm_sz (gm_p_load (pc := 92) (i := .aload_n 0) (sr := 2) (j := 0) (by decide +kernel) rfl rfl rfl) ?_
      refine gm_sz (fw_gr (pc := 93) (ix := 23) (ci := 4) (j := 4) (r := 204) (by decide +kernel) (e0k hE (k := 200) (c := 4) (by decide +kernel)) (by decide +kernel) (by decide +kernel) (e0r hE (k := 200) (j := 4) (r := 204) (by decide +kernel))) ?_
      refine gm_sz (gm_p_const (pc := 96) (i := .bipush 9) (v := gm_vi 9) (by decide +kernel) (by decide +kernel)) ?_
      refine gm_sz (gm_p_load (pc := 98) (i := .iload_n 1) (sr := 0) (j := 1) (by decide +kernel) rfl rfl rfl) ?_
      refine gm_sz (gm_p_load (pc := 99) (i := .aload_n 0) (sr := 2) (j := 0) (by decide +kernel) rfl rfl rfl) ?_
      refine gm_sz (fw_gr (pc := 100) (ix := 34) (ci := 4) (j := 0) (r := 3) (by decide +kernel) (e0k hE (k := 200) (c := 4) (by decide +kernel)) (by decide +kernel) (by decide +kernel) (e0r hE (k := 200) (j := 0) (r := 3) (by decide +kernel))) ?_
      refine gm_sz (fw_gi (pc := 103) (ix := 126) (ci := 1) (j := 4) (x := N 12) (by decide +kernel) (e0k hE (k := 3) (c := 1) (by decide +kernel)) (by decide +kernel) (by decide +kernel) ((uM_ne (by omega)).trans ((uM_ne (by omega)).trans ((uM_ne (by omega)).trans ((uM_ne (by omega)).trans ((uM_ne (by omega)).trans ((uM_ne (by omega)).trans ((uM_ne (by omega)).trans ((uM_ne (by omega)).trans ((uM_ne (by omega)).trans (ti_str hT))))))))))) ?_
      refine fw_ic (cc := .ge) (pc := 106) (off := 7) (by decide +kernel) (by decide) ⟨by omega, by omega⟩ ⟨by omega, by omega⟩ (fun h106 => ?_) (fun h106 => ?_)
      · have h106 : (N 12) ≤ lane := h106
        refine gm_sz (gm_p_const (pc := 113) (i := .iconst 0) (v := gm_vi 0) (by decide +kernel) (by decide +kernel)) ?_
        refine gm_sz (fw_is (pc := 114) (k := 204) (len := 10) (e0 := 9) (x := 0) (M' := gm_uM (gm_uM (gm_uM (gm_uM (gm_uM (gm_uM (gm_uM (gm_uM (gm_uM (gm_uM M 204 0 lane) 204 1 row) 204 2 year) 204 3 (h year)) 204 4 speed) 204 5 0) 204 6 0) 204 7 0) 204 8 1) 204 9 0) (by decide +kernel) (e0a hE (k := 204) (q := ((0 : Nat), (10 : Nat))) (by decide +kernel)).1 (e0a hE (k := 204) (q := ((0 : Nat), (10 : Nat))) (by decide +kernel)).2 (by decide) ⟨by omega, by omega⟩ rfl) ?_
        exact gm_r_void (pc := 115) (by decide +kernel) (by decide +kernel) (q4 h70 h83 h106)
      · have h106 : ¬ (N 12) ≤ lane := h106
        refine gm_sz (gm_p_const (pc := 109) (i := .iconst 1) (v := gm_vi 1) (by decide +kernel) (by decide +kernel)) ?_
        refine gm_sz (gm_p_goto (pc := 110) (off := 4) (by decide +kernel) (by decide)) ?_
        refine gm_sz (fw_is (pc := 114) (k := 204) (len := 10) (e0 := 9) (x := 1) (M' := gm_uM (gm_uM (gm_uM (gm_uM (gm_uM (gm_uM (gm_uM (gm_uM (gm_uM (gm_uM M 204 0 lane) 204 1 row) 204 2 year) 204 3 (h year)) 204 4 speed) 204 5 0) 204 6 0) 204 7 0) 204 8 1) 204 9 1) (by decide +kernel) (e0a hE (k := 204) (q := ((0 : Nat), (10 : Nat))) (by decide +kernel)).1 (e0a hE (k := 204) (q := ((0 : Nat), (10 : Nat))) (by decide +kernel)).2 (by decide) ⟨by omega, by omega⟩ rfl) ?_
        exact gm_r_void (pc := 115) (by decide +kernel) (by decide +kernel) (q5 h70 h83 h106)
theorem l6_sf (hd : 1 ≤ d) (hE : E0 n K R) (hT : TI N h sp M) (hN : NR N) (h1 : 0 ≤ lane ∧ lane ≤ 6) (h2 : 0 ≤ year ∧ year < 300) (hq : Q (.inl none) n K R (ic_fa M N h lane row year speed)) : gm_Wp X LX d bc bs 39 0 (gm_ent 39 [gm_vr 200, gm_vi lane, gm_vi row, gm_vi year, gm_vi speed]) [] n K R M Q := by
  unfold ic_fa at hq
  refine l6_sf0 hd hE hT hN h1 h2 (fun g0 g1 => ?_) (fun g0 g1 => ?_) (fun g0 g1 g2 => ?_) (fun g0 g1 g2 => ?_) (fun g0 g1 g2 => ?_) (fun g0 g1 g2 => ?_)
  · rw [if_pos (by omega), if_neg (by omega)] at hq
    exact hq
  · rw [if_pos (by omega), if_pos (by omega)] at hq
    exact hq
  · rw [if_neg (by omega), if_neg (by omega)] at hq
    exact hq
  · rw [if_neg (by omega), if_pos (by omega)] at hq
    exact hq
  · rw [if_pos (by omega), if_neg (by omega)] at hq
    exact hq
  · rw [if_pos (by omega), if_pos (by omega)] at hq
    exact hq
theorem l6_rc (hd : 1 ≤ d) (hE : E0 n K R) (hb : gm_ir (M 200 6)) (h0 : 178200 ≤ cell ∧ cell < 1000000) (hq : ∀ M2, fr [((200 : Nat), some (6 : Int)), ((205 : Nat), none)] M M2 → M2 200 6 = 0 → (∀ c, 0 ≤ c → c < 178200 → kv M2 c = kv M c) → Q (.inl (some (gm_vi 31))) n K R M2) : gm_Wp X LX d bc bs 37 0 (gm_ent 37 [gm_vr 200, gm_vi cell]) [] n K R M Q := by
  refine gm_sz (gm_p_load (pc := 0) (i := .aload_n 0) (sr := 2) (j := 0) (by decide +kernel) rfl rfl rfl) ?_
  refine gm_sz (fw_gi (pc := 1) (ix := 30) (ci := 4) (j := 6) (x := M 200 6) (by decide +kernel) (e0k hE (k := 200) (c := 4) (by decide +kernel)) (by decide +kernel) (by decide +kernel) rfl) ?_
  refine fw_if (cc := .eq) (pc := 4) (off := 18) (by decide +kernel) (by decide) hb (fun h4 => ?_) (fun h4 => ?_)
  · have h4 : (M 200 6) = 0 := h4
    refine gm_sz (gm_p_load (pc := 22) (i := .iload_n 1) (sr := 0) (j := 1) (by decide +kernel) rfl rfl rfl) ?_
    refine gm_sz (gm_p_const (pc := 23) (i := .bipush 12) (v := gm_vi 12) (by decide +kernel) (by decide +kernel)) ?_
    refine gm_sz (gm_p_div (pc := 25) (by decide +kernel) (by decide)) ?_
    rw [fw_div (a := cell) (b := 12) (by omega) (by omega) (by decide)]
    refine gm_sz (gm_p_stor (pc := 26) (i := .istore_n 2) (sr := 0) (j := 2) (by decide +kernel) rfl (show 3 ≤ _ from Nat.le_of_ble_eq_true rfl) rfl) ?_
    refine gm_sz (gm_p_load (pc := 27) (i := .iload_n 1) (sr := 0) (j := 1) (by decide +kernel) rfl rfl rfl) ?_
    refine fw_iff (cc := .lt) (pc := 28) (off := 12) (by decide +kernel) (by decide) ⟨by omega, by omega⟩ (show ¬ cell < 0 by omega) ?_
    refine gm_sz (gm_p_load (pc := 31) (i := .iload_n 2) (sr := 0) (j := 2) (by decide +kernel) rfl rfl rfl) ?_
    refine gm_sz (gm_p_load (pc := 32) (i := .aload_n 0) (sr := 2) (j := 0) (by decide +kernel) rfl rfl rfl) ?_
    refine gm_sz (fw_gr (pc := 33) (ix := 26) (ci := 4) (j := 5) (r := 205) (by decide +kernel) (e0k hE (k := 200) (c := 4) (by decide +kernel)) (by decide +kernel) (by decide +kernel) (e0r hE (k := 200) (j := 5) (r := 205) (by decide +kernel))) ?_
    refine gm_sz (fw_al (pc := 36) (k := 205) (len := 14850) (by decide +kernel) (e0a hE (k := 205) (q := ((2 : Nat), (14850 : Nat))) (by decide +kernel)).1 (e0a hE (k := 205) (q := ((2 : Nat), (14850 : Nat))) (by decide +kernel)).2 (by decide)) ?_
    refine fw_icf (cc := .lt) (pc := 37) (off := 6) (by decide +kernel) (by decide) ⟨by omega, by omega⟩ ⟨by decide, by decide⟩ (show ¬ (cell / 12) < 14850 by omega) ?_
    refine gm_sz (gm_p_const (pc := 40) (i := .bipush 31) (v := gm_vi 31) (by decide +kernel) (by decide +kernel)) ?_
    have q := hq M fr_0 h4 (fun _ _ _ => rfl)
    exact gm_r_int (pc := 42) (by decide +kernel) (Or.inl (by decide +kernel)) q
  · have h4 : ¬ (M 200 6) = 0 := h4
    refine gm_sz (gm_p_load (pc := 7) (i := .aload_n 0) (sr := 2) (j := 0) (by decide +kernel) rfl rfl rfl) ?_
    refine gm_sz (fw_gr (pc := 8) (ix := 26) (ci := 4) (j := 5) (r := 205) (by decide +kernel) (e0k hE (k := 200) (c := 4) (by decide +kernel)) (by decide +kernel) (by decide +kernel) (e0r hE (k := 200) (j := 5) (r := 205) (by decide +kernel))) ?_
    refine gm_sz (gm_p_ldcl (pc := 11) (ix := 116) (v := (-1)) (by decide +kernel) (by decide +kernel)) ?_
    refine gm_c_stat2 (mj := 38) (ix := 118) (pc := 14) (u0 := gm_vr 205) (u1 := gm_vl (-1)) (st := []) (d' := d - 1) (bc' := 0) (bs' := 0) (by decide +kernel) (by decide +kernel) (by decide +kernel) (by decide +kernel) (show 2 = gm_na 38 by decide +kernel) fw_sr (show 3 ≤ gm_ml 38 by decide +kernel) (Nat.le_of_ble_eq_true rfl) (by omega) (Nat.zero_le _) (Nat.zero_le _) ?_
    refine fl_c38 (e0a hE (k := 205) (q := ((2 : Nat), (14850 : Nat))) (by decide +kernel)) (by decide) ?_
    show gm_Wp X LX d _ _ 37 17 _ [] n K _ _ Q
    refine gm_sz (gm_p_load (pc := 17) (i := .aload_n 0) (sr := 2) (j := 0) (by decide +kernel) rfl rfl rfl) ?_
    refine gm_sz (gm_p_const (pc := 18) (i := .iconst 0) (v := gm_vi 0) (by decide +kernel) (by decide +kernel)) ?_
    refine gm_sz (fw_pz (pc := 19) (ix := 30) (ci := 4) (j := 6) (M' := gm_uM (gm_fil M 205 ((14850 : Nat) : Int) (-1)) 200 6 0) (by decide +kernel) (e0k hE (k := 200) (c := 4) (by decide +kernel)) (by decide +kernel) (by decide +kernel) (by decide +kernel) (Or.inl rfl) rfl) ?_
    refine gm_sz (gm_p_load (pc := 22) (i := .iload_n 1) (sr := 0) (j := 1) (by decide +kernel) rfl rfl rfl) ?_
    refine gm_sz (gm_p_const (pc := 23) (i := .bipush 12) (v := gm_vi 12) (by decide +kernel) (by decide +kernel)) ?_
    refine gm_sz (gm_p_div (pc := 25) (by decide +kernel) (by decide)) ?_
    rw [fw_div (a := cell) (b := 12) (by omega) (by omega) (by decide)]
    refine gm_sz (gm_p_stor (pc := 26) (i := .istore_n 2) (sr := 0) (j := 2) (by decide +kernel) rfl (show 3 ≤ _ from Nat.le_of_ble_eq_true rfl) rfl) ?_
    refine gm_sz (gm_p_load (pc := 27) (i := .iload_n 1) (sr := 0) (j := 1) (by decide +kernel) rfl rfl rfl) ?_
    refine fw_iff (cc := .lt) (pc := 28) (off := 12) (by decide +kernel) (by decide) ⟨by omega, by omega⟩ (show ¬ cell < 0 by omega) ?_
    refine gm_sz (gm_p_load (pc := 31) (i := .iload_n 2) (sr := 0) (j := 2) (by decide +kernel) rfl rfl rfl) ?_
    refine gm_sz (gm_p_load (pc := 32) (i := .aload_n 0) (sr := 2) (j := 0) (by decide +kernel) rfl rfl rfl) ?_
    refine gm_sz (fw_gr (pc := 33) (ix := 26) (ci := 4) (j := 5) (r := 205) (by decide +kernel) (e0k hE (k := 200) (c := 4) (by decide +kernel)) (by decide +kernel) (by decide +kernel) (e0r hE (k := 200) (j := 5) (r := 205) (by decide +kernel))) ?_
    refine gm_sz (fw_al (pc := 36) (k := 205) (len := 14850) (by decide +kernel) (e0a hE (k := 205) (q := ((2 : Nat), (14850 : Nat))) (by decide +kernel)).1 (e0a hE (k := 205) (q := ((2 : Nat), (14850 : Nat))) (by decide +kernel)).2 (by decide)) ?_
    refine fw_icf (cc := .lt) (pc := 37) (off := 6) (by decide +kernel) (by decide) ⟨by omega, by omega⟩ ⟨by decide, by decide⟩ (show ¬ (cell / 12) < 14850 by omega) ?_
    refine gm_sz (gm_p_const (pc := 40) (i := .bipush 31) (v := gm_vi 31) (by decide +kernel) (by decide +kernel)) ?_
    have k9 : ∀ c, 0 ≤ c → c < 178200 → kv (gm_uM (gm_fil M 205 ((14850 : Nat) : Int) (-1)) 200 6 0) c = kv M c := fun c c0 c1 => by
      obtain ⟨k, hk, -⟩ := sh12_s (c := c % 12) ⟨by omega, by omega⟩
      have e6 : gm_uM (gm_fil M 205 ((14850 : Nat) : Int) (-1)) 200 6 0 200 6 = 0 := uM_at
      have e5 : gm_uM (gm_fil M 205 ((14850 : Nat) : Int) (-1)) 200 6 0 205 (c / 12) = -1 := ((uM_ne (by omega)).trans (gm_fil_in (by omega) (by omega)))
      unfold kv
      rw [if_pos e6, if_neg h4, e5]
      exact fld_m1 hk
    have q := hq (gm_uM (gm_fil M 205 ((14850 : Nat) : Int) (-1)) 200 6 0) (fr_p (fr_t fr_0 gm_fil_fr (by decide)) (Or.inr (by decide))) uM_at k9
    exact gm_r_int (pc := 42) (by decide +kernel) (Or.inl (by decide +kernel)) q
theorem l6_kp (hE : E0 n K R) (h0 : 178200 ≤ cell ∧ cell < 1000000) (hq : Q (.inl none) n K R M) : gm_Wp X LX d bc bs 42 0 (gm_ent 42 [gm_vr 200, gm_vi cell, gm_vi f]) [] n K R M Q := by
  refine gm_sz (gm_p_load (pc := 0) (i := .iload_n 1) (sr := 0) (j := 1) (by decide +kernel) rfl rfl rfl) ?_
  refine gm_sz (gm_p_const (pc := 1) (i := .bipush 12) (v := gm_vi 12) (by decide +kernel) (by decide +kernel)) ?_
  refine gm_sz (gm_p_div (pc := 3) (by decide +kernel) (by decide)) ?_
  rw [fw_div (a := cell) (b := 12) (by omega) (by omega) (by decide)]
  refine gm_sz (gm_p_stor (pc := 4) (i := .istore_n 3) (sr := 0) (j := 3) (by decide +kernel) rfl (show 4 ≤ _ from Nat.le_of_ble_eq_true rfl) rfl) ?_
  refine gm_sz (gm_p_load (pc := 5) (i := .iload_n 1) (sr := 0) (j := 1) (by decide +kernel) rfl rfl rfl) ?_
  refine fw_iff (cc := .lt) (pc := 6) (off := 53) (by decide +kernel) (by decide) ⟨by omega, by omega⟩ (show ¬ cell < 0 by omega) ?_
  refine gm_sz (gm_p_load (pc := 9) (i := .iload_n 3) (sr := 0) (j := 3) (by decide +kernel) rfl rfl rfl) ?_
  refine gm_sz (gm_p_load (pc := 10) (i := .aload_n 0) (sr := 2) (j := 0) (by decide +kernel) rfl rfl rfl) ?_
  refine gm_sz (fw_gr (pc := 11) (ix := 26) (ci := 4) (j := 5) (r := 205) (by decide +kernel) (e0k hE (k := 200) (c := 4) (by decide +kernel)) (by decide +kernel) (by decide +kernel) (e0r hE (k := 200) (j := 5) (r := 205) (by decide +kernel))) ?_
  refine gm_sz (fw_al (pc := 14) (k := 205) (len := 14850) (by decide +kernel) (e0a hE (k := 205) (q := ((2 : Nat), (14850 : Nat))) (by decide +kernel)).1 (e0a hE (k := 205) (q := ((2 : Nat), (14850 : Nat))) (by decide +kernel)).2 (by decide)) ?_
  refine fw_ict (cc := .ge) (pc := 15) (off := 44) (by decide +kernel) (by decide) ⟨by omega, by omega⟩ ⟨by decide, by decide⟩ (show 14850 ≤ (cell / 12) by omega) ?_
  exact gm_r_void (pc := 59) (by decide +kernel) (by decide +kernel) hq
theorem ic_fl6 (hE : E0 n K R) (hL : LE n K R NC) (hlw : R 3 ((8 : Nat) : Int) = 246) (hN : NR N) : ∀ (d bc bs : Nat) (M : gm_M) (Q : gm_Q) (row year : Int), 12 ≤ d → 0 ≤ row ∧ row < 99 → 0 ≤ year ∧ year < 300 → TI N h sp M → (LB NC C Ln m M ∧ KFL N φ M) → (∀ M2 v, fr [((200 : Nat), some (6 : Int)), ((204 : Nat), none), ((205 : Nat), none)] M M2 → (LB NC C Ln m M2 ∧ KFL N φ M2) → Q (.inl (some (gm_vi v))) n K R M2) → gm_Wp X LX d bc bs 35 0 (gm_ent 35 [gm_vr 200, gm_vi 6, gm_vi row, gm_vi year]) [] n K R M Q := by
  intro d bc bs M Q row year hd h2 h3 hT hI hq
  obtain ⟨hB, ⟨k6, k7⟩, hk⟩ := hI
  have hB9 := lb_lines hB
  obtain ⟨⟨⟨a0, b0⟩, ⟨a1, b1⟩, ⟨a10, b10⟩, ⟨a11, b11⟩, ⟨a12, b12⟩, a9, b9⟩, ⟨⟨a2, b2⟩, ⟨a5, b5⟩, ⟨a3, b3⟩, ⟨a4, b4⟩, ⟨a6, b6⟩, ⟨a14, b14⟩, ⟨a7, b7⟩, a13, b13⟩, rF, rP, rL⟩ := id hN
  refine gm_sz (gm_p_load (pc := 0) (i := .aload_n 0) (sr := 2) (j := 0) (by decide +kernel) rfl rfl rfl) ?_
  refine gm_sz (gm_p_load (pc := 1) (i := .iload_n 1) (sr := 0) (j := 1) (by decide +kernel) rfl rfl rfl) ?_
  refine gm_sz (gm_p_load (pc := 2) (i := .iload_n 2) (sr := 0) (j := 2) (by decide +kernel) rfl rfl rfl) ?_
  refine gm_c_virt (k := 200) (ci := 4) (mj := 36) (ix := 90) (pc := 3) (as := [gm_vi 6, gm_vi row]) (st := []) (d' := d - 1) (bc' := 0) (bs' := 0) (by decide +kernel) (by decide +kernel) (by decide +kernel) (by decide +kernel) (e0k hE (k := 200) (c := 4) (by decide +kernel)).1 (e0k hE (k := 200) (c := 4) (by decide +kernel)).2 (by decide) (by decide +kernel) (show 2 = gm_na 36 by decide +kernel) (fw_c2 fw_si fw_si) (show 3 ≤ gm_ml 36 by decide +kernel) (Nat.le_of_ble_eq_true rfl) (by omega) (Nat.zero_le _) (Nat.zero_le _) ?_
  refine l6_spd hE hT hN ⟨by omega, by omega⟩ ?_
  show gm_Wp X LX d _ _ 35 6 _ [gm_vi 0] n K _ _ Q
  refine gm_sz (gm_p_stor (pc := 6) (i := .istore 4) (sr := 0) (j := 4) (by decide +kernel) rfl (show 5 ≤ _ from Nat.le_of_ble_eq_true rfl) rfl) ?_
  refine gm_sz (gm_p_load (pc := 8) (i := .aload_n 0) (sr := 2) (j := 0) (by decide +kernel) rfl rfl rfl) ?_
  refine gm_sz (fw_gr (pc := 9) (ix := 34) (ci := 4) (j := 0) (r := 3) (by decide +kernel) (e0k hE (k := 200) (c := 4) (by decide +kernel)) (by decide +kernel) (by decide +kernel) (e0r hE (k := 200) (j := 0) (r := 3) (by decide +kernel))) ?_
  refine gm_sz (fw_gr (pc := 12) (ix := 93) (ci := 1) (j := 8) (r := 246) (by decide +kernel) (e0k hE (k := 3) (c := 1) (by decide +kernel)) (by decide +kernel) (by decide +kernel) hlw) ?_
  refine gm_b_nnul (pc := 15) (off := 6) (k0 := 246) (by decide) (by decide +kernel) (by decide) (fun _ => ?_) (fun h => absurd h (by decide))
  refine gm_sz (gm_p_load (pc := 21) (i := .iload_n 1) (sr := 0) (j := 1) (by decide +kernel) rfl rfl rfl) ?_
  refine gm_sz (gm_p_const (pc := 22) (i := .bipush 99) (v := gm_vi 99) (by decide +kernel) (by decide +kernel)) ?_
  refine gm_sz (gm_p_bin (pc := 24) (i := .imul) (f := fun x y => x * y) (by decide +kernel) rfl) ?_
  refine gm_sz (gm_p_load (pc := 25) (i := .iload_n 2) (sr := 0) (j := 2) (by decide +kernel) rfl rfl rfl) ?_
  refine gm_sz (gm_p_bin (pc := 26) (i := .iadd) (f := fun x y => x + y) (by decide +kernel) rfl) ?_
  refine gm_sz (gm_p_const (pc := 27) (i := .sipush 300) (v := gm_vi 300) (by decide +kernel) (by decide +kernel)) ?_
  refine gm_sz (gm_p_bin (pc := 30) (i := .imul) (f := fun x y => x * y) (by decide +kernel) rfl) ?_
  refine gm_sz (gm_p_load (pc := 31) (i := .iload_n 3) (sr := 0) (j := 3) (by decide +kernel) rfl rfl rfl) ?_
  refine gm_sz (gm_p_bin (pc := 32) (i := .iadd) (f := fun x y => x + y) (by decide +kernel) rfl) ?_
  refine gm_sz (gm_p_stor (pc := 33) (i := .istore 5) (sr := 0) (j := 5) (by decide +kernel) rfl (show 6 ≤ _ from Nat.le_of_ble_eq_true rfl) rfl) ?_
  refine gm_sz (gm_p_load (pc := 35) (i := .aload_n 0) (sr := 2) (j := 0) (by decide +kernel) rfl rfl rfl) ?_
  refine gm_sz (gm_p_load (pc := 36) (i := .iload 5) (sr := 0) (j := 5) (by decide +kernel) rfl rfl rfl) ?_
  refine gm_c_virt (k := 200) (ci := 4) (mj := 37) (ix := 97) (pc := 38) (as := [gm_vi (((594 + row) * 300) + year)]) (st := []) (d' := d - 1) (bc' := 0) (bs' := 0) (by decide +kernel) (by decide +kernel) (by decide +kernel) (by decide +kernel) (e0k hE (k := 200) (c := 4) (by decide +kernel)).1 (e0k hE (k := 200) (c := 4) (by decide +kernel)).2 (by decide) (by decide +kernel) (show 1 = gm_na 37 by decide +kernel) (fw_c1 fw_si) (show 2 ≤ gm_ml 37 by decide +kernel) (Nat.le_of_ble_eq_true rfl) (by omega) (Nat.zero_le _) (Nat.zero_le _) ?_
  refine l6_rc (cell := ((594 + row) * 300) + year) (by omega) hE ⟨by omega, by omega⟩ ⟨by omega, by omega⟩ (fun M37 hf37 h637 hk37 => ?_)
  show gm_Wp X LX d _ _ 35 41 _ [gm_vi 31] n K _ _ Q
  refine gm_sz (gm_p_stor (pc := 41) (i := .istore 6) (sr := 0) (j := 6) (by decide +kernel) rfl (show 7 ≤ _ from Nat.le_of_ble_eq_true rfl) rfl) ?_
  refine gm_sz (gm_p_load (pc := 43) (i := .iload 6) (sr := 0) (j := 6) (by decide +kernel) rfl rfl rfl) ?_
  refine gm_sz (gm_p_const (pc := 45) (i := .bipush 31) (v := gm_vi 31) (by decide +kernel) (by decide +kernel)) ?_
  refine fw_icfd (cc := .ne) (pc := 47) (off := 48) (by decide +kernel) (by decide) ⟨by decide, by decide⟩ ⟨by decide, by decide⟩ (by decide) ?_
  refine gm_sz (gm_p_load (pc := 50) (i := .aload_n 0) (sr := 2) (j := 0) (by decide +kernel) rfl rfl rfl) ?_
  refine gm_sz (gm_p_load (pc := 51) (i := .iload_n 1) (sr := 0) (j := 1) (by decide +kernel) rfl rfl rfl) ?_
  refine gm_sz (gm_p_load (pc := 52) (i := .iload_n 2) (sr := 0) (j := 2) (by decide +kernel) rfl rfl rfl) ?_
  refine gm_sz (gm_p_load (pc := 53) (i := .iload_n 3) (sr := 0) (j := 3) (by decide +kernel) rfl rfl rfl) ?_
  refine gm_sz (gm_p_load (pc := 54) (i := .iload 4) (sr := 0) (j := 4) (by decide +kernel) rfl rfl rfl) ?_
  refine gm_c_virt (k := 200) (ci := 4) (mj := 39) (ix := 101) (pc := 56) (as := [gm_vi 6, gm_vi row, gm_vi year, gm_vi 0]) (st := []) (d' := d - 1) (bc' := 0) (bs' := 0) (by decide +kernel) (by decide +kernel) (by decide +kernel) (by decide +kernel) (e0k hE (k := 200) (c := 4) (by decide +kernel)).1 (e0k hE (k := 200) (c := 4) (by decide +kernel)).2 (by decide) (by decide +kernel) (show 4 = gm_na 39 by decide +kernel) (fw_c4 fw_si fw_si fw_si fw_si) (show 5 ≤ gm_ml 39 by decide +kernel) (Nat.le_of_ble_eq_true rfl) (by omega) (Nat.zero_le _) (Nat.zero_le _) ?_
  refine l6_sf (by omega) hE (ti_fr (W := [((200 : Nat), some (6 : Int)), ((205 : Nat), none)]) hT (fr_t fr_0 hf37 (by decide)) (by decide) (by decide +kernel)) hN ⟨by omega, by omega⟩ ⟨by omega, by omega⟩ ?_
  show gm_Wp X LX d _ _ 35 59 _ [] n K _ _ Q
  refine gm_sz (gm_p_const (pc := 59) (i := .iconst 0) (v := gm_vi 0) (by decide +kernel) (by decide +kernel)) ?_
  refine gm_sz (gm_p_const (pc := 60) (i := .bipush 30) (v := gm_vi 30) (by decide +kernel) (by decide +kernel)) ?_
  refine gm_sz (gm_p_load (pc := 62) (i := .iload 4) (sr := 0) (j := 4) (by decide +kernel) rfl rfl rfl) ?_
  refine gm_sz (gm_p_load (pc := 64) (i := .aload_n 0) (sr := 2) (j := 0) (by decide +kernel) rfl rfl rfl) ?_
  refine gm_sz (fw_gr (pc := 65) (ix := 34) (ci := 4) (j := 0) (r := 3) (by decide +kernel) (e0k hE (k := 200) (c := 4) (by decide +kernel)) (by decide +kernel) (by decide +kernel) (e0r hE (k := 200) (j := 0) (r := 3) (by decide +kernel))) ?_
  refine gm_sz (fw_gr (pc := 68) (ix := 93) (ci := 1) (j := 8) (r := 246) (by decide +kernel) (e0k hE (k := 3) (c := 1) (by decide +kernel)) (by decide +kernel) (by decide +kernel) hlw) ?_
  refine gm_sz (gm_p_load (pc := 71) (i := .aload_n 0) (sr := 2) (j := 0) (by decide +kernel) rfl rfl rfl) ?_
  refine gm_sz (fw_gr (pc := 72) (ix := 23) (ci := 4) (j := 4) (r := 204) (by decide +kernel) (e0k hE (k := 200) (c := 4) (by decide +kernel)) (by decide +kernel) (by decide +kernel) (e0r hE (k := 200) (j := 4) (r := 204) (by decide +kernel))) ?_
  refine gm_c_virt (k := 246) (ci := 10) (mj := 40) (ix := 105) (pc := 75) (as := [gm_vr 204]) (st := [gm_vi 0, gm_vi 30, gm_vi 0]) (d' := d - 1) (bc' := 0) (bs' := 0) (by decide +kernel) (by decide +kernel) (by decide +kernel) (by decide +kernel) (lk6 hL).1 (lk6 hL).2 (by decide) (by decide +kernel) (show 1 = gm_na 40 by decide +kernel) (fw_c1 fw_sr) (show 2 ≤ gm_ml 40 by decide +kernel) (Nat.le_of_ble_eq_true rfl) (by omega) (Nat.zero_le _) (Nat.zero_le _) ?_
  refine fa_c40 (F := (fcts N h 6 row year 0 0 0 0)) (C := C) (L := Ln) (m := m) (by omega) hE hL (lb_fr (W := [((200 : Nat), some (6 : Int)), ((205 : Nat), none), ((204 : Nat), some (0 : Int)), ((204 : Nat), some (1 : Int)), ((204 : Nat), some (2 : Int)), ((204 : Nat), some (3 : Int)), ((204 : Nat), some (4 : Int)), ((204 : Nat), some (5 : Int)), ((204 : Nat), some (6 : Int)), ((204 : Nat), some (7 : Int)), ((204 : Nat), some (8 : Int)), ((204 : Nat), some (9 : Int))]) (fr_p (fr_p (fr_p (fr_p (fr_p (fr_p (fr_p (fr_p (fr_p (fr_p (fr_t fr_0 hf37 (by decide)) (Or.inr (by decide))) (Or.inr (by decide))) (Or.inr (by decide))) (Or.inr (by decide))) (Or.inr (by decide))) (Or.inr (by decide))) (Or.inr (by decide))) (Or.inr (by decide))) (Or.inr (by decide))) (Or.inr (by decide))) (by decide) hB).1 (fun j j0 j1 => ic_fa_s j j0 j1) (lb_fr (W := [((200 : Nat), some (6 : Int)), ((205 : Nat), none), ((204 : Nat), some (0 : Int)), ((204 : Nat), some (1 : Int)), ((204 : Nat), some (2 : Int)), ((204 : Nat), some (3 : Int)), ((204 : Nat), some (4 : Int)), ((204 : Nat), some (5 : Int)), ((204 : Nat), some (6 : Int)), ((204 : Nat), some (7 : Int)), ((204 : Nat), some (8 : Int)), ((204 : Nat), some (9 : Int))]) (fr_p (fr_p (fr_p (fr_p (fr_p (fr_p (fr_p (fr_p (fr_p (fr_p (fr_t fr_0 hf37 (by decide)) (Or.inr (by decide))) (Or.inr (by decide))) (Or.inr (by decide))) (Or.inr (by decide))) (Or.inr (by decide))) (Or.inr (by decide))) (Or.inr (by decide))) (Or.inr (by decide))) (Or.inr (by decide))) (Or.inr (by decide))) (by decide) hB).2.1 (lb_fr (W := [((200 : Nat), some (6 : Int)), ((205 : Nat), none), ((204 : Nat), some (0 : Int)), ((204 : Nat), some (1 : Int)), ((204 : Nat), some (2 : Int)), ((204 : Nat), some (3 : Int)), ((204 : Nat), some (4 : Int)), ((204 : Nat), some (5 : Int)), ((204 : Nat), some (6 : Int)), ((204 : Nat), some (7 : Int)), ((204 : Nat), some (8 : Int)), ((204 : Nat), some (9 : Int))]) (fr_p (fr_p (fr_p (fr_p (fr_p (fr_p (fr_p (fr_p (fr_p (fr_p (fr_t fr_0 hf37 (by decide)) (Or.inr (by decide))) (Or.inr (by decide))) (Or.inr (by decide))) (Or.inr (by decide))) (Or.inr (by decide))) (Or.inr (by decide))) (Or.inr (by decide))) (Or.inr (by decide))) (Or.inr (by decide))) (Or.inr (by decide))) (by decide) hB).2.2.1 (lb_fr (W := [((200 : Nat), some (6 : Int)), ((205 : Nat), none), ((204 : Nat), some (0 : Int)), ((204 : Nat), some (1 : Int)), ((204 : Nat), some (2 : Int)), ((204 : Nat), some (3 : Int)), ((204 : Nat), some (4 : Int)), ((204 : Nat), some (5 : Int)), ((204 : Nat), some (6 : Int)), ((204 : Nat), some (7 : Int)), ((204 : Nat), some (8 : Int)), ((204 : Nat), some (9 : Int))]) (fr_p (fr_p (fr_p (fr_p (fr_p (fr_p (fr_p (fr_p (fr_p (fr_p (fr_t fr_0 hf37 (by decide)) (Or.inr (by decide))) (Or.inr (by decide))) (Or.inr (by decide))) (Or.inr (by decide))) (Or.inr (by decide))) (Or.inr (by decide))) (Or.inr (by decide))) (Or.inr (by decide))) (Or.inr (by decide))) (Or.inr (by decide))) (by decide) hB).2.2.2 ?_
  show gm_Wp X LX d _ _ 35 78 _ [gm_vi (lfas (fcts N h 6 row year 0 0 0 0) C Ln m.toNat), gm_vi 0, gm_vi 30, gm_vi 0] n K _ _ Q
  have hl9 := lfas_b (C := C) (F := (fcts N h 6 row year 0 0 0 0)) hB9.2 m.toNat (by omega)
  refine gm_sz (gm_p_bin (pc := 78) (i := .iadd) (f := fun x y => x + y) (by decide +kernel) rfl) ?_
  refine gm_sz (gm_p_min (pc := 79) (ix := 109) (x := 30) (y := 0 + (lfas (fcts N h 6 row year 0 0 0 0) C Ln m.toNat)) (by decide +kernel) (by decide +kernel) (gm_w_id (by omega) (by omega)) (gm_w_id (by omega) (by omega)) (Nat.le_of_ble_eq_true rfl) (by omega)) ?_
  refine gm_sz (gm_p_max (pc := 82) (ix := 77) (x := 0) (y := min 30 (0 + (lfas (fcts N h 6 row year 0 0 0 0) C Ln m.toNat))) (by decide +kernel) (by decide +kernel) (gm_w_id (by omega) (by omega)) (gm_w_id (by omega) (by omega)) (Nat.le_of_ble_eq_true rfl) (by omega)) ?_
  refine gm_sz (gm_p_stor (pc := 85) (i := .istore 6) (sr := 0) (j := 6) (by decide +kernel) rfl (show 7 ≤ _ from Nat.le_of_ble_eq_true rfl) rfl) ?_
  refine gm_sz (gm_p_load (pc := 87) (i := .aload_n 0) (sr := 2) (j := 0) (by decide +kernel) rfl rfl rfl) ?_
  refine gm_sz (gm_p_load (pc := 88) (i := .iload 5) (sr := 0) (j := 5) (by decide +kernel) rfl rfl rfl) ?_
  refine gm_sz (gm_p_load (pc := 90) (i := .iload 6) (sr := 0) (j := 6) (by decide +kernel) rfl rfl rfl) ?_
  refine gm_c_virt (k := 200) (ci := 4) (mj := 42) (ix := 112) (pc := 92) (as := [gm_vi (((594 + row) * 300) + year), gm_vi (max 0 (min 30 (0 + (lfas (fcts N h 6 row year 0 0 0 0) C Ln m.toNat))))]) (st := []) (d' := d - 1) (bc' := 0) (bs' := 0) (by decide +kernel) (by decide +kernel) (by decide +kernel) (by decide +kernel) (e0k hE (k := 200) (c := 4) (by decide +kernel)).1 (e0k hE (k := 200) (c := 4) (by decide +kernel)).2 (by decide) (by decide +kernel) (show 2 = gm_na 42 by decide +kernel) (fw_c2 fw_si fw_si) (show 3 ≤ gm_ml 42 by decide +kernel) (Nat.le_of_ble_eq_true rfl) (by omega) (Nat.zero_le _) (Nat.zero_le _) ?_
  refine l6_kp (cell := ((594 + row) * 300) + year) (f := max 0 (min 30 (0 + (lfas (fcts N h 6 row year 0 0 0 0) C Ln m.toNat)))) hE ⟨by omega, by omega⟩ ?_
  show gm_Wp X LX d _ _ 35 95 _ [] n K _ _ Q
  refine gm_sz (gm_p_load (pc := 95) (i := .iload 6) (sr := 0) (j := 6) (by decide +kernel) rfl rfl rfl) ?_
  have ke : ∀ c, kv (gm_uM (gm_uM (gm_uM (gm_uM (gm_uM (gm_uM (gm_uM (gm_uM (gm_uM (gm_uM M37 204 0 6) 204 1 row) 204 2 year) 204 3 (h year)) 204 4 0) 204 5 0) 204 6 0) 204 7 0) 204 8 (if 6 = 0 ∨ 6 = N 0 - 1 then 1 else 0)) 204 9 (if 6 < N 12 then 1 else 0)) c = kv M37 c := kv_e ((uM_ne (by omega)).trans ((uM_ne (by omega)).trans ((uM_ne (by omega)).trans ((uM_ne (by omega)).trans ((uM_ne (by omega)).trans ((uM_ne (by omega)).trans ((uM_ne (by omega)).trans ((uM_ne (by omega)).trans ((uM_ne (by omega)).trans ((uM_ne (by omega)).trans rfl)))))))))) (fun j => ((uM_ne (by omega)).trans ((uM_ne (by omega)).trans ((uM_ne (by omega)).trans ((uM_ne (by omega)).trans ((uM_ne (by omega)).trans ((uM_ne (by omega)).trans ((uM_ne (by omega)).trans ((uM_ne (by omega)).trans ((uM_ne (by omega)).trans ((uM_ne (by omega)).trans rfl)))))))))))
  have kf : KFL N φ (gm_uM (gm_uM (gm_uM (gm_uM (gm_uM (gm_uM (gm_uM (gm_uM (gm_uM (gm_uM M37 204 0 6) 204 1 row) 204 2 year) 204 3 (h year)) 204 4 0) 204 5 0) 204 6 0) 204 7 0) 204 8 (if 6 = 0 ∨ 6 = N 0 - 1 then 1 else 0)) 204 9 (if 6 < N 12 then 1 else 0)) := by
    refine ⟨?_, fun l r y l0 l1 r0 r1 y0 y1 => ?_⟩
    · rw [show (gm_uM (gm_uM (gm_uM (gm_uM (gm_uM (gm_uM (gm_uM (gm_uM (gm_uM (gm_uM M37 204 0 6) 204 1 row) 204 2 year) 204 3 (h year)) 204 4 0) 204 5 0) 204 6 0) 204 7 0) 204 8 (if 6 = 0 ∨ 6 = N 0 - 1 then 1 else 0)) 204 9 (if 6 < N 12 then 1 else 0)) 200 6 = 0 from ((uM_ne (by omega)).trans ((uM_ne (by omega)).trans ((uM_ne (by omega)).trans ((uM_ne (by omega)).trans ((uM_ne (by omega)).trans ((uM_ne (by omega)).trans ((uM_ne (by omega)).trans ((uM_ne (by omega)).trans ((uM_ne (by omega)).trans ((uM_ne (by omega)).trans h637))))))))))]
      exact ⟨by decide, by decide⟩
    · rw [ke _, hk37 _ (by omega) (by omega)]
      exact hk l r y l0 l1 r0 r1 y0 y1
  exact gm_r_int (pc := 97) (by decide +kernel) (Or.inl (by decide +kernel)) (hq _ _ (fr_p (fr_p (fr_p (fr_p (fr_p (fr_p (fr_p (fr_p (fr_p (fr_p (fr_t fr_0 hf37 (by decide)) (Or.inl (by decide))) (Or.inl (by decide))) (Or.inl (by decide))) (Or.inl (by decide))) (Or.inl (by decide))) (Or.inl (by decide))) (Or.inl (by decide))) (Or.inl (by decide))) (Or.inl (by decide))) (Or.inl (by decide))) ⟨(lb_fr (W := [((200 : Nat), some (6 : Int)), ((205 : Nat), none), ((204 : Nat), some (0 : Int)), ((204 : Nat), some (1 : Int)), ((204 : Nat), some (2 : Int)), ((204 : Nat), some (3 : Int)), ((204 : Nat), some (4 : Int)), ((204 : Nat), some (5 : Int)), ((204 : Nat), some (6 : Int)), ((204 : Nat), some (7 : Int)), ((204 : Nat), some (8 : Int)), ((204 : Nat), some (9 : Int))]) (fr_p (fr_p (fr_p (fr_p (fr_p (fr_p (fr_p (fr_p (fr_p (fr_p (fr_t fr_0 hf37 (by decide)) (Or.inr (by decide))) (Or.inr (by decide))) (Or.inr (by decide))) (Or.inr (by decide))) (Or.inr (by decide))) (Or.inr (by decide))) (Or.inr (by decide))) (Or.inr (by decide))) (Or.inr (by decide))) (Or.inr (by decide))) (by decide) hB), kf⟩)
end L6
end
/-! 7c22.qh -/
section
/-! THE CALLS THAT KEEP SOMETHING (FLOW, ways): rows under what is kept. -/
section QH22
variable {X : Int → Int} {LX n n1 n2 : Nat} {K K1 K2 : gm_K} {R R2 : gm_R} {M M1 M2 : gm_M} {N h : Int → Int} {lw : Option (List lln)} {ls : List lln} {φ : Int → Int → Int → Int} {C Ln G : Int → Int} {NC : Nat}
theorem dt_sym (hd : dt_m n K1 M1 K2 M2) : dt_m n K2 M2 K1 M1 := fun k h1 h2 he => by
  obtain ⟨a1, a2, a3⟩ := hd k h1 h2 he.symm
  rw [← he] at a1 a2 a3
  exact ⟨fun h j hj => (a1 h j hj).symm, fun h j hj => (a2 h j hj).symm, fun c j hc hj hr => (a3 c j hc hj hr).symm⟩
theorem kfl_dt (hd : dt_m n K1 M1 K2 M2) (hn : 245 ≤ n) (hK : ∀ k, 1 ≤ k → k ≤ n → K1 k = K2 k) (hF : gm_Fx p2_O n2 K2 R2 M2) (hk : KFL N φ M1) : KFL N φ M2 := by
  have e200 : M2 200 6 = gm_w (M1 200 6) := dw_f hd hn hK hF dt_c2.2.2.1
  have e9 : M2 200 6 = M1 200 6 := by rw [e200]; exact dw_i ⟨by have := hk.1.1; omega, by have := hk.1.2; omega⟩
  refine ⟨by rw [e9]; exact hk.1, fun l r y l0 l1 r0 r1 y0 y1 => ?_⟩
  have ek : kv M2 ((l * 99 + r) * 300 + y) = kv M1 ((l * 99 + r) * 300 + y) := by
    unfold kv
    rw [e9]
    have k205 := hF.1 205 _ dt_c4
    have ee := hK 205 (by decide) (by omega)
    have hj : 0 ≤ ((l * 99 + r) * 300 + y) / 12 ∧ ((l * 99 + r) * 300 + y) / 12 < 14850 := by omega
    obtain ⟨u, hu⟩ : ∃ u : Nat, ((l * 99 + r) * 300 + y) / 12 = (u : Int) := ⟨(((l * 99 + r) * 300 + y) / 12).toNat, by omega⟩
    rw [hu]
    rw [fld_cg ((hd 205 (by decide) (by omega) ee).2.1 (by rw [ee, k205.2.2]) u (by rw [ee, k205.2.2]; show u < 14850; omega)).symm]
  rw [ek]
  exact hk.2 l r y l0 l1 r0 r1 y0 y1
theorem ends_dt (hd : dt_m n K1 M1 K2 M2) (hn : 245 ≤ n) (hK : ∀ k, 1 ≤ k → k ≤ n → K1 k = K2 k) (hF : gm_Fx p2_O n2 K2 R2 M2) (hN : NR N) (he : M1 1 15 = 0 ∨ (M1 1 15 = 1 ∧ ENDS N (hts (N 13)) (aphi lw N (hts (N 13))) M1)) : M2 1 15 = 0 ∨ (M2 1 15 = 1 ∧ ENDS N (hts (N 13)) (aphi lw N (hts (N 13))) M2) := by
  have e15 : M2 1 15 = gm_w (M1 1 15) := dw_f hd hn hK hF dt_c1.2.2.2
  have e220 : M2 220 3 = gm_w (M1 220 3) := dw_f hd hn hK hF dt_c2.2.2.2
  have h4 := hN.2.1.2.2.2.1
  rw [e15]
  rcases he with h | ⟨h, he⟩
  · exact Or.inl (by rw [h]; decide)
  · refine Or.inr ⟨by rw [h]; decide, by rw [e220, he.1]; exact dw_i ⟨by omega, by omega⟩, fun l l0 l1 => ?_⟩
    rw [dw_a hd hn hK hF dt_c3.2.2.2.2 (by omega) (by omega), dw_a hd hn hK hF dt_c3.2.2.2.2 (by omega) (by omega)]
    exact outr_w hN aphi_b (fun _ _ _ => hts_b) ⟨l0, l1⟩ (he.2 l l0 l1)
/-- FLOW, asked of any LANE, any ROW that there may be: what is kept stays right -/
theorem flx_a (hE : E0 n K R) (hc : CC n K R NC C Ln G (some ls)) (hN : NR N) (hS : NS N) : ∀ (d bc bs : Nat) (M : gm_M) (Q : gm_Q) (lane row year : Int), 12 ≤ d → 0 ≤ lane ∧ lane < 6 → 0 ≤ row ∧ row < 99 → 0 ≤ year ∧ year < 300 → TI N h (spd N) M → FIC NC C Ln (some ls) N h M → (∀ M2 v, fr [((200 : Nat), some (6 : Int)), ((204 : Nat), none), ((205 : Nat), none)] M M2 → FIC NC C Ln (some ls) N h M2 → Q (.inl (some (gm_vi v))) n K R M2) → gm_Wp X LX d bc bs 35 0 (gm_ent 35 [gm_vr 200, gm_vi lane, gm_vi row, gm_vi year]) [] n K R M Q := by
  intro d bc bs M Q lane row year hd hl hr hy hT hI hq
  have hsp : ∀ l r, 0 ≤ l → l < 6 → 0 ≤ r → r < 99 → 0 ≤ spd N l r ∧ spd N l r ≤ 20 := fun l r l0 _ _ _ => spd_b hN hS l0
  obtain ⟨h8, hL, hW, hC, hR⟩ := hc.2 ls rfl
  have hx : ∀ l r y, 0 ≤ l ∧ l < 6 → 0 ≤ r ∧ r < 99 → 0 ≤ y ∧ y < 300 → aphx (some ls) N h l r y = lphi N h (spd N) C Ln (ls.length : Int) l r y := fun l r y hl _ _ => (lphi_ax hW hC hR hl.1).symm
  refine ic_flx hE hL h8 hN hsp d bc bs M Q lane row year hd hl hr hy hT ⟨(hI ls rfl).1, (kfl_cg (N := N) hx).mp (hI ls rfl).2⟩ (fun M2 hf hI2 => hq M2 _ hf (fun ls2 e => ?_))
  cases e
  exact ⟨hI2.1, (kfl_cg (N := N) hx).mpr hI2.2⟩
/-- what stands under a law: for the calls -/
theorem qL_cc (hF : gm_Fx qL_O n K R M) (h8 : R 3 8 = 246) (hJ : LWJ ls K M) (hr : LAWR (some ls) (M 227)) : ∃ (NC : Nat) (C Ln : Int → Int), CC n K R NC C Ln (M 227) (some ls) ∧ LB NC C Ln (ls.length : Int) M := by
  obtain ⟨hW, NC, h1, h2, h3, h4⟩ := hJ
  have k6 := hF.1 246 (14, 0) rfl
  have k8 := hF.1 248 (6, 0) rfl
  have k9 := hF.1 249 (0, 48) rfl
  have r0 := (hF.2.1 246 0 248 rfl).2
  have r1 := (hF.2.1 246 1 247 rfl).2
  have r2 := (hF.2.1 248 2 249 rfl).2
  refine ⟨NC, M 247, M 249, ⟨(fun e => nomatch e), fun ls2 e => ?_⟩, h3⟩
  cases e
  exact ⟨h8, ⟨⟨⟨⟨by decide, by omega⟩, by rw [k6.2.2]⟩, ⟨⟨by decide, by omega⟩, h2⟩, ⟨⟨by decide, by omega⟩, by rw [k8.2.2]⟩, ⟨by decide, by omega⟩, k9.2.2⟩, ⟨r0, r1, r2⟩, h1⟩, hW, h4, (hr.2 ls rfl).2.2.1⟩
theorem qL_p (hF : gm_Fx qL_O n K R M) : gm_Fx p2_OL n K R M := ⟨hF.1, hF.2.1, hF.2.2.1, fun k r hr => hF.2.2.2.1 k r (List.mem_append_left _ hr), hF.2.2.2.2.1⟩
theorem q0_p (hF : gm_Fx q0_O n K R M) : gm_Fx p2_O n K R M := ⟨hF.1, hF.2.1, hF.2.2.1, fun k r hr => hF.2.2.2.1 k r (List.mem_append_left _ hr), hF.2.2.2.2.1⟩
theorem qR_p (hF : gm_Fx qR_O n K R M) : gm_Fx p2_O n K R M := ⟨hF.1, hF.2.1, hF.2.2.1, fun k r hr => hF.2.2.2.1 k r (List.mem_append_left _ hr), hF.2.2.2.2.1⟩
theorem ti_x (hC : CST M) (h : TIx N M) : TI N (hts (N 13)) (spd N) M := ⟨hC, h.1, h.2.1, h.2.2⟩
/-- what calls may write of it: FLOWs, ways -/
noncomputable def qk_c (w : Nat × Int × Int) : Bool := decide (w.1 = 204 ∨ (w.1 = 200 ∧ w.2.1 = 6 ∧ w.2.2 = 6) ∨ w.1 = 205 ∨ w.1 = 206 ∨ w.1 = 207 ∨ (w.1 = 1 ∧ w.2.1 = 15 ∧ w.2.2 = 15) ∨ (w.1 = 220 ∧ w.2.1 = 3 ∧ w.2.2 = 3) ∨ w.1 = 221)
theorem qk_e {W : List (Nat × Int × Int)} (hW : W.all qk_c = true) (e : ∀ k j, k ≤ n → (∀ w ∈ W, ¬ (w.1 = k ∧ w.2.1 ≤ j ∧ j ≤ w.2.2)) → M2 k j = M k j) {k : Nat} {j : Int} (hk : k ≤ n) (h : ¬ (k = 204 ∨ (k = 200 ∧ j = 6) ∨ k = 205 ∨ k = 206 ∨ k = 207 ∨ (k = 1 ∧ j = 15) ∨ (k = 220 ∧ j = 3) ∨ k = 221)) : M2 k j = M k j := by
  refine e k j hk fun w hw hh => ?_
  have := of_decide_eq_true (List.all_eq_true.mp hW w hw)
  omega
theorem tix_e (h : TIx N M) (e : ∀ (k : Nat) (j : Int), (3 ≤ k ∧ k ≤ 15) ∨ (201 ≤ k ∧ k ≤ 203) → M2 k j = M k j) : TIx N M2 := by
  refine ⟨?_, fun y y0 y1 => ?_, fun l r l0 l1 r0 r1 => ?_⟩
  · rw [← h.1]
    exact cs_b fun x j x1 x2 _ _ => e x j (Or.inl ⟨x1, by omega⟩)
  · rw [e 201 y (by omega), e 203 y (by omega)]
    exact h.2.1 y y0 y1
  · rw [e 202 _ (by omega)]
    exact h.2.2 l r l0 l1 r0 r1
/-- behind such a call, by its row: the standing condition, if what is kept is right -/
theorem qL_b {W : List (Nat × Int × Int) × List (Nat × Int)} (hF : gm_Fx qL_O n K R M) (hW : W.1.all qk_c = true) (hF2 : gm_Fx p2_OL n2 K2 R2 M2) (hfr : ck_fr W n K R M n2 K2 R2 M2) (hx : ∀ N ls, qC (some ls) N M → KFL N (aphx (some ls) N (hts (N 13))) M → LWJ ls K M → LAWR (some ls) (M 227) → (M2 1 15 = 0 ∨ (M2 1 15 = 1 ∧ ENDS N (hts (N 13)) (aphi (some ls) N (hts (N 13))) M2)) ∧ KFL N (aphx (some ls) N (hts (N 13))) M2) : gm_Fx qL_O n2 K2 R2 M2 := by
  obtain ⟨hJ, N, ls, hq, hk, hw, hr⟩ := hF.2.2.2.2
  have hn : 249 ≤ n := (hF.1 249 (0, 48) rfl).2.1
  have e : ∀ (k : Nat) (j : Int), k ≤ n → ¬ (k = 204 ∨ (k = 200 ∧ j = 6) ∨ k = 205 ∨ k = 206 ∨ k = 207 ∨ (k = 1 ∧ j = 15) ∨ (k = 220 ∧ j = 3) ∨ k = 221) → M2 k j = M k j := fun k j hk h => qk_e hW hfr.2.2.1 hk h
  obtain ⟨h1, h2⟩ := hx N ls hq hk hw hr
  refine ⟨hF2.1, hF2.2.1, hF2.2.2.1, fun k r hr => Nat.le_trans (hF.2.2.2.1 k r hr) hfr.1, hF2.2.2.2.2, N, ls, ⟨hq.1, tix_e hq.2.1 (fun k j hk => e k j (by omega) (by omega)), h1⟩, h2, lwj_e hw (hfr.2.1 247 (by omega)) (fun j _ _ => e 247 j (by omega) (by omega)) (fun j _ _ => e 248 j (by omega) (by omega)) (fun j _ _ => e 249 j (by omega) (by omega)), lawr_cg hr (fun j _ _ => e 227 j (by omega) (by omega))⟩
theorem q0_b {W : List (Nat × Int × Int) × List (Nat × Int)} (hF : gm_Fx q0_O n K R M) (hW : W.1.all qk_c = true) (hF2 : gm_Fx p2_O n2 K2 R2 M2) (hfr : ck_fr W n K R M n2 K2 R2 M2) (hx : ∀ N, qC none N M → (M2 1 15 = 0 ∨ (M2 1 15 = 1 ∧ ENDS N (hts (N 13)) (aphi none N (hts (N 13))) M2))) : gm_Fx q0_O n2 K2 R2 M2 := by
  obtain ⟨hJ, N, hq⟩ := hF.2.2.2.2
  have hn : 245 ≤ n := (k245 (e0F (q0_p hF))).1
  have e : ∀ (k : Nat) (j : Int), k ≤ n → ¬ (k = 204 ∨ (k = 200 ∧ j = 6) ∨ k = 205 ∨ k = 206 ∨ k = 207 ∨ (k = 1 ∧ j = 15) ∨ (k = 220 ∧ j = 3) ∨ k = 221) → M2 k j = M k j := fun k j hk h => qk_e hW hfr.2.2.1 hk h
  exact ⟨hF2.1, hF2.2.1, hF2.2.2.1, fun k r hr => Nat.le_trans (hF.2.2.2.1 k r hr) hfr.1, hF2.2.2.2.2, N, hq.1, tix_e hq.2.1 (fun k j hk => e k j (by omega) (by omega)), hx N hq⟩
/-- FLOW under a law -/
noncomputable def q35p : ck_Sum := (((2 : Nat), (0 : Nat), (0 : Nat)), (249 : Nat), [.inr (.inr (.inl (200 : Nat))), .inl ((-2147483648 : Int), (2147483647 : Int), []), .inl ((-2147483648 : Int), (2147483647 : Int), []), .inl ((-2147483648 : Int), (2147483647 : Int), [])], ([], [((3 : Nat), (8 : Int), (246 : Nat))], []), ([((200 : Nat), (6 : Int), (6 : Int)), ((204 : Nat), (0 : Int), (9 : Int)), ((205 : Nat), (0 : Int), (14849 : Int))], []), [(.inr (some (.inl ((0 : Int), (30 : Int), []))), (249 : Nat), ([], [], [((200 : Nat), (6 : Int), (6 : Int), ck_one 0)]))])
noncomputable def q35 : ck_Sum := (((12 : Nat), (0 : Nat), (0 : Nat)), (249 : Nat), [.inr (.inr (.inl (200 : Nat))), .inl ((0 : Int), (6 : Int), []), .inl ((0 : Int), (98 : Int), []), .inl ((0 : Int), (299 : Int), [])], ([], [((3 : Nat), (8 : Int), (246 : Nat))], []), ([((200 : Nat), (6 : Int), (6 : Int)), ((204 : Nat), (0 : Int), (9 : Int)), ((205 : Nat), (0 : Int), (14849 : Int))], []), [(.inr (some (.inl ((0 : Int), (30 : Int), []))), (249 : Nat), ([], [], [((200 : Nat), (6 : Int), (6 : Int), ck_one 0)]))])
theorem q35_s (hS : ck_Ok p2_OL X LX 35 q35p) : ck_Ok qL_O X LX 35 q35 := by
  intro d σ vs n K R M hd hn hvs hσ hF hf
  obtain ⟨v0, w0, rfl, g0, v1, w1, rfl, ⟨l, rfl, hl, l0, l1, -⟩, v2, w2, rfl, ⟨r, rfl, hr, r0, r1, -⟩, v3, w3, rfl, ⟨y, rfl, hy, y0, y1, -⟩, g4⟩ := hvs
  have g4 : w3 = [] := g4
  subst g4
  have g0 : v0 = gm_vr 200 := g0
  subst g0
  have l0 : (0 : Int) ≤ l := l0
  have l1 : l ≤ (6 : Int) := l1
  have r0 : (0 : Int) ≤ r := r0
  have r1 : r ≤ (98 : Int) := r1
  have y0 : (0 : Int) ≤ y := y0
  have y1 : y ≤ (299 : Int) := y1
  have hd : 12 ≤ d := hd
  have hn : n = 249 := hn
  subst hn
  have F0 := qL_p hF
  have h8 : R 3 8 = 246 := (hf.2.1 (3, 8, 246) List.mem_cons_self).2
  have hrow := hS d σ [gm_vr 200, gm_vi l, gm_vi r, gm_vi y] 249 K R M (show 2 ≤ d by omega) rfl ⟨_, _, rfl, rfl, _, _, rfl, ⟨l, rfl, hl, (show (-2147483648 : Int) ≤ l by omega), (show l ≤ (2147483647 : Int) by omega), fun _ h => nomatch h⟩, _, _, rfl, ⟨r, rfl, hr, (show (-2147483648 : Int) ≤ r by omega), (show r ≤ (2147483647 : Int) by omega), fun _ h => nomatch h⟩, _, _, rfl, ⟨y, rfl, hy, (show (-2147483648 : Int) ≤ y by omega), (show y ≤ (2147483647 : Int) by omega), fun _ h => nomatch h⟩, rfl⟩ (fun q hq => hσ q (List.mem_append_left _ hq)) F0 hf
  obtain ⟨hJ, N, ls, hq, hk, hw, hlr⟩ := hF.2.2.2.2
  obtain ⟨NC, C, Ln, hcc, hlb⟩ := qL_cc hF h8 hw hlr
  have hE : E0 249 K R := e0F (pl_o F0)
  have hT := ti_x (cstF (pl_o F0)) hq.2.1
  have hfun : gm_Wp X LX d 0 0 35 0 (gm_ent 35 [gm_vr 200, gm_vi l, gm_vi r, gm_vi y]) [] 249 K R M (fun o n1 K1 R1 M1 => K1 = K ∧ FIC NC C Ln (some ls) N (hts (N 13)) M1) := by
    by_cases h6 : l = 6
    · subst h6
      obtain ⟨h8', hL, -⟩ := hcc.2 ls rfl
      exact ic_fl6 hE hL h8' hq.1.1.1 d 0 0 M _ r y hd ⟨r0, by omega⟩ ⟨y0, by omega⟩ hT ⟨hlb, hk⟩ (fun M2 v _ hI => ⟨rfl, fun ls2 e => by cases e; exact hI⟩)
    · exact flx_a (h := hts (N 13)) hE hcc hq.1.1.1 hq.1.1.2.1 d 0 0 M _ l r y hd ⟨l0, by omega⟩ ⟨r0, by omega⟩ ⟨y0, by omega⟩ hT (fun ls2 e => by cases e; exact ⟨hlb, hk⟩) (fun M2 v _ hI => ⟨rfl, hI⟩)
  refine gm_Wp_mono (fun o n2 K2 R2 M2 hh => ?_) (gm_Wp_and hrow hfun)
  obtain ⟨⟨hF2, hfr, hoc⟩, o3, n3, K3, R3, M3, ⟨rfl, hI⟩, -, hdt⟩ := hh
  have hKK : ∀ k, 1 ≤ k → k ≤ 249 → K3 k = K2 k := fun k _ hk => (hfr.2.1 k hk).symm
  refine ⟨qL_b hF (by decide) hF2 hfr (fun N2 ls2 hq2 hk2 hw2 hlr2 => ?_), hfr, hoc⟩
  have eN : N2 = N := hq2.2.1.1.symm.trans hq.2.1.1
  subst eN
  have ea : aphx (some ls2) N2 (hts (N2 13)) = aphx (some ls) N2 (hts (N2 13)) := aphx_u hlr2 hlr
  have e1 : ∀ k j, k ≤ 249 → ¬ (k = 200 ∨ k = 204 ∨ k = 205) → M2 k j = M k j := fun k j hk h => hfr.2.2.1 k j hk (fun w hw hh => by
    have := of_decide_eq_true (List.all_eq_true.mp (show q35p.2.2.2.2.1.1.all (fun w => decide (w.1 = 200 ∨ w.1 = 204 ∨ w.1 = 205)) = true by decide) w hw)
    omega)
  refine ⟨?_, ?_⟩
  · rw [e1 1 15 (by decide) (by decide)]
    refine hq2.2.2.imp_right fun hh => ⟨hh.1, ends_x hh.2 (fun k j hk => e1 k j (by omega) (by omega))⟩
  · rw [ea]
    exact kfl_dt (dt_sym hdt) (by decide) hKK (pl_o hF2) (hI ls rfl).2
/-- the ends of all LETTERS, without a law and under one -/
noncomputable def q24p (c : Nat) (W : List (Nat × Int × Int)) : ck_Sum := ((4 + c, 0, 0), 245 + 4 * c, [.inr (.inr (.inl 1))], ([], [(3, 8, if c = 0 then 0 else 246)], []), (W, []), [(.inr none, 245 + 4 * c, ([], [], [(1, 15, 15, ck_one 1)]))])
noncomputable def q24 (c : Nat) (W : List (Nat × Int × Int)) : ck_Sum := ((17, 0, 0), 245 + 4 * c, [.inr (.inr (.inl 1))], ([], [(3, 8, if c = 0 then 0 else 246)], []), (W, []), [(.inr none, 245 + 4 * c, ([], [], [(1, 15, 15, ck_one 1)]))])
noncomputable def q24_W0 : List (Nat × Int × Int) := [((1 : Nat), (15 : Int), (15 : Int)), ((206 : Nat), (2 : Int), (8 : Int)), ((220 : Nat), (3 : Int), (3 : Int)), ((221 : Nat), (0 : Int), (47 : Int))]
noncomputable def q24_WL : List (Nat × Int × Int) := [((1 : Nat), (15 : Int), (15 : Int)), ((200 : Nat), (6 : Int), (6 : Int)), ((204 : Nat), (0 : Int), (9 : Int)), ((205 : Nat), (0 : Int), (14849 : Int)), ((206 : Nat), (2 : Int), (8 : Int)), ((220 : Nat), (3 : Int), (3 : Int)), ((221 : Nat), (0 : Int), (47 : Int))]
theorem q24_0 (hS : ck_Ok p2_O X LX 24 (q24p 0 q24_W0)) : ck_Ok q0_O X LX 24 (q24 0 q24_W0) := by
  intro d σ vs n K R M hd hn hvs hσ hF hf
  obtain ⟨v0, w0, rfl, g0, g4⟩ := hvs
  have g4 : w0 = [] := g4
  subst g4
  have g0 : v0 = gm_vr 1 := g0
  subst g0
  have hd : 17 ≤ d := hd
  have hn : n = 245 := hn
  subst hn
  have F0 := q0_p hF
  have h8 : R 3 8 = 0 := (hf.2.1 (3, 8, 0) List.mem_cons_self).2
  have hrow := hS d σ [gm_vr 1] 245 K R M (show 4 ≤ d by omega) rfl ⟨_, _, rfl, rfl, rfl⟩ hσ F0 hf
  obtain ⟨hJ, N, hq⟩ := hF.2.2.2.2
  have hcc : CC 245 K R 0 (fun _ => 0) (fun _ => 0) (fun _ => 0) none := ⟨fun _ => h8, fun ls e => nomatch e⟩
  have hE : E0 245 K R := e0F F0
  have t15 := ((gm_tyr_s F0 (show gm_tyr p2_O 1 15 15 = some (0, 1) by decide +kernel)).2 15 (Int.le_refl _) (Int.le_refl _)).1
  have hfun := en_c24 (X := X) (LX := LX) (bc := 0) (bs := 0) (FI := FIC 0 (fun _ => 0) (fun _ => 0) none N (hts (N 13))) (Q := fun o n1 K1 R1 M1 => K1 = K ∧ (M1 1 15 = 0 ∨ (M1 1 15 = 1 ∧ ENDS N (hts (N 13)) (aphi none N (hts (N 13))) M1))) hd hE (ti_x (cstF F0) hq.2.1) hq.1.1.1 (flw_a hE hcc hq.1.1.1 hq.1.1.2.1) (fun ls2 e => nomatch e) t15 (fun h0 => hq.2.2.resolve_left h0) (fun M2 _ _ h1 h2 => ⟨rfl, Or.inr ⟨h1, h2⟩⟩)
  refine gm_Wp_mono (fun o n2 K2 R2 M2 hh => ?_) (gm_Wp_and hrow hfun)
  obtain ⟨⟨hF2, hfr, hoc⟩, o3, n3, K3, R3, M3, ⟨rfl, hI⟩, -, hdt⟩ := hh
  have hKK : ∀ k, 1 ≤ k → k ≤ 245 → K3 k = K2 k := fun k _ hk => (hfr.2.1 k hk).symm
  refine ⟨q0_b hF (by decide) hF2 hfr (fun N2 hq2 => ?_), hfr, hoc⟩
  have eN : N2 = N := hq2.2.1.1.symm.trans hq.2.1.1
  subst eN
  exact ends_dt (dt_sym hdt) (by decide) hKK hF2 hq.1.1.1 hI
theorem q24_L (hS : ck_Ok p2_OL X LX 24 (q24p 1 q24_WL)) : ck_Ok qL_O X LX 24 (q24 1 q24_WL) := by
  intro d σ vs n K R M hd hn hvs hσ hF hf
  obtain ⟨v0, w0, rfl, g0, g4⟩ := hvs
  have g4 : w0 = [] := g4
  subst g4
  have g0 : v0 = gm_vr 1 := g0
  subst g0
  have hd : 17 ≤ d := hd
  have hn : n = 249 := hn
  subst hn
  have F0 := qL_p hF
  have h8 : R 3 8 = 246 := (hf.2.1 (3, 8, 246) List.mem_cons_self).2
  have hrow := hS d σ [gm_vr 1] 249 K R M (show 5 ≤ d by omega) rfl ⟨_, _, rfl, rfl, rfl⟩ (fun q hq => hσ q (List.mem_append_left _ hq)) F0 hf
  obtain ⟨hJ, N, ls, hq, hk, hw, hlr⟩ := hF.2.2.2.2
  obtain ⟨NC, C, Ln, hcc, hlb⟩ := qL_cc hF h8 hw hlr
  have hE : E0 249 K R := e0F (pl_o F0)
  have t15 := ((gm_tyr_s (pl_o F0) (show gm_tyr p2_O 1 15 15 = some (0, 1) by decide +kernel)).2 15 (Int.le_refl _) (Int.le_refl _)).1
  have hfun := en_c24 (X := X) (LX := LX) (bc := 0) (bs := 0) (FI := FIC NC C Ln (some ls) N (hts (N 13))) (Q := fun o n1 K1 R1 M1 => K1 = K ∧ (M1 1 15 = 0 ∨ (M1 1 15 = 1 ∧ ENDS N (hts (N 13)) (aphi (some ls) N (hts (N 13))) M1)) ∧ FIC NC C Ln (some ls) N (hts (N 13)) M1) hd hE (ti_x (cstF (pl_o F0)) hq.2.1) hq.1.1.1 (flw_a hE hcc hq.1.1.1 hq.1.1.2.1) (fun ls2 e => by cases e; exact ⟨hlb, hk⟩) t15 (fun h0 => hq.2.2.resolve_left h0) (fun M2 _ hI h1 h2 => ⟨rfl, Or.inr ⟨h1, h2⟩, hI⟩)
  refine gm_Wp_mono (fun o n2 K2 R2 M2 hh => ?_) (gm_Wp_and hrow hfun)
  obtain ⟨⟨hF2, hfr, hoc⟩, o3, n3, K3, R3, M3, ⟨rfl, hI, hI2⟩, -, hdt⟩ := hh
  have hKK : ∀ k, 1 ≤ k → k ≤ 249 → K3 k = K2 k := fun k _ hk => (hfr.2.1 k hk).symm
  refine ⟨qL_b hF (by decide) hF2 hfr (fun N2 ls2 hq2 hk2 hw2 hlr2 => ?_), hfr, hoc⟩
  have eN : N2 = N := hq2.2.1.1.symm.trans hq.2.1.1
  subst eN
  have ea : aphx (some ls2) N2 (hts (N2 13)) = aphx (some ls) N2 (hts (N2 13)) := aphx_u hlr2 hlr
  have eb : aphi (some ls2) N2 (hts (N2 13)) = aphi (some ls) N2 (hts (N2 13)) := aphi_u hlr2 hlr
  rw [ea, eb]
  exact ⟨ends_dt (dt_sym hdt) (by decide) hKK (pl_o hF2) hq.1.1.1 hI, kfl_dt (dt_sym hdt) (by decide) hKK (pl_o hF2) (hI2 ls rfl).2⟩
/-- floods that a traveller meets -/
noncomputable def q43p (c : Nat) : ck_Sum := ((1, 0, 0), 249, [.inr (.inr (.inl c))], ([], [], []), ([(c, 5, 5), (c, 8, 8)], []), [(.inr none, 249, ([], [], []))])
noncomputable def q43 (c : Nat) : ck_Sum := ((1, 0, 0), 249, [.inr (.inr (.inl c))], ([], [], [(c, 5, 5, (0, 128, [])), (c, 7, 7, (0, 299, []))]), ([(c, 5, 5), (c, 8, 8)], []), [(.inr none, 249, ([], [], [(c, 5, 5, (0, 300, []))]))])
theorem nfl_300 (hN : NR N) {y wo r : Int} (hr : 0 ≤ r ∧ r ≤ 128) : 0 ≤ nfl N y wo (N 5).toNat r ∧ nfl N y wo (N 5).toNat r ≤ 300 := by
  have h5 := hN.2.1.2.1
  have := nfl_b (N := N) (y := y) (wo := wo) (r := r) (fun f f0 f1 => (hN.2.2.1 f f0 f1).2.2) (N 5).toNat (by omega)
  omega
theorem q43_206 (hS : ck_Ok p2_OL X LX 43 (q43p 206)) : ck_Ok qL_O X LX 43 (q43 206) := by
  intro d σ vs n K R M hd hn hvs hσ hF hf
  obtain ⟨v0, w0, rfl, g0, g4⟩ := hvs
  have g4 : w0 = [] := g4
  subst g4
  have g0 : v0 = gm_vr 206 := g0
  subst g0
  have hn : n = 249 := hn
  subst hn
  have F0 := pl_o (qL_p hF)
  have hrow := hS d σ [gm_vr 206] 249 K R M hd rfl ⟨_, _, rfl, rfl, rfl⟩ (fun q hq => hσ q (List.mem_append_left _ hq)) (qL_p hF) ⟨(fun _ h => nomatch h), (fun _ h => nomatch h), (fun _ h => nomatch h)⟩
  have f4 := ((gm_tyr_s F0 (show gm_tyr p2_O 206 4 4 = some (-1, 7) by decide +kernel)).2 4 (Int.le_refl _) (Int.le_refl _)).1
  have f5 := (hf.2.2 (206, 5, 5, (0, 128, [])) List.mem_cons_self).2 5 (Int.le_refl _) (Int.le_refl _)
  have f7 := (hf.2.2 (206, 7, 7, (0, 299, [])) (List.mem_cons_of_mem _ List.mem_cons_self)).2 7 (Int.le_refl _) (Int.le_refl _)
  have a5 : 0 ≤ M 206 5 ∧ M 206 5 ≤ 128 := ⟨f5.2.1, f5.2.2.1⟩
  have a7 : 0 ≤ M 206 7 ∧ M 206 7 ≤ 299 := ⟨f7.2.1, f7.2.2.1⟩
  have hq : ∃ N ls, qC (some ls) N M := by
    obtain ⟨hJ, N, ls, hq, -⟩ := hF.2.2.2.2
    exact ⟨N, ls, hq⟩
  obtain ⟨N, ls, hq⟩ := hq
  have hfun := wy_c43_206 (X := X) (LX := LX) (bc := 0) (bs := 0) (Q := fun o n1 K1 R1 M1 => K1 = K ∧ 0 ≤ M1 206 5 ∧ M1 206 5 ≤ 300) (wo := M 206 4) (y := M 206 7) (r0 := M 206 5) hd (e0F F0) (ti_x (cstF F0) hq.2.1) hq.1.1.1 rfl rfl rfl ⟨a7.1, by omega⟩ f4 ⟨by omega, by omega⟩ (fun M2 hfr h5 => ⟨rfl, by rw [h5]; exact nfl_300 hq.1.1.1 a5⟩)
  refine gm_Wp_mono (fun o n2 K2 R2 M2 hh => ?_) (gm_Wp_and hrow hfun)
  obtain ⟨⟨hF2, hfr, oc, hoc, ho, hn2, -⟩, o3, n3, K3, R3, M3, ⟨rfl, hI⟩, -, hdt⟩ := hh
  have hKK : ∀ k, 1 ≤ k → k ≤ 249 → K3 k = K2 k := fun k _ hk => (hfr.2.1 k hk).symm
  have e1 : ∀ k j, k ≤ 249 → ¬ k = 206 → M2 k j = M k j := fun k j hk h => hfr.2.2.1 k j hk (fun w hw hh => by
    have := of_decide_eq_true (List.all_eq_true.mp (show (q43p 206).2.2.2.2.1.1.all (fun w => decide (w.1 = 206)) = true by decide) w hw)
    omega)
  have e5 : M2 206 5 = gm_w (M3 206 5) := dw_f (dt_sym hdt) (by decide) hKK (pl_o hF2) (show tyF 206 5 5 = true by decide +kernel)
  rw [dw_i ⟨by omega, by omega⟩] at e5
  have ho2 : oc = (.inr none, 249, ([], [], [])) := List.mem_singleton.mp hoc
  subst ho2
  refine ⟨qL_b hF (by decide) hF2 hfr (fun N2 ls2 hq2 hk2 hw2 hlr2 => ⟨?_, ?_⟩), hfr, _, List.mem_cons_self, ho, hn2, (fun _ h => nomatch h), (fun _ h => nomatch h), fun q hq9 => ?_⟩
  · rw [e1 1 15 (by decide) (by decide)]
    exact hq2.2.2.imp_right fun hh => ⟨hh.1, ends_x hh.2 (fun k j hk => e1 k j (by omega) (by omega))⟩
  · exact kfl_b hk2 ⟨by have := hq2.1.1.1.1.1; omega, by have := hq2.1.1.1.1.2.1; omega⟩ (e1 200 6 (by decide) (by decide)) (fun j _ _ => e1 205 j (by decide) (by decide))
  · rw [List.mem_singleton.mp hq9]
    refine ⟨show 206 ≤ n2 by have := hfr.1; omega, fun j j1 j2 => ?_⟩
    have ej : j = 5 := Int.le_antisymm j2 j1
    subst ej
    show gm_ir (M2 206 5) ∧ ck_gi σ (0, 300, []) (M2 206 5)
    rw [e5]
    exact ⟨⟨by omega, by omega⟩, hI.1, hI.2, fun _ h => nomatch h⟩
theorem q43_207 (hS : ck_Ok p2_OL X LX 43 (q43p 207)) : ck_Ok qL_O X LX 43 (q43 207) := by
  intro d σ vs n K R M hd hn hvs hσ hF hf
  obtain ⟨v0, w0, rfl, g0, g4⟩ := hvs
  have g4 : w0 = [] := g4
  subst g4
  have g0 : v0 = gm_vr 207 := g0
  subst g0
  have hn : n = 249 := hn
  subst hn
  have F0 := pl_o (qL_p hF)
  have hrow := hS d σ [gm_vr 207] 249 K R M hd rfl ⟨_, _, rfl, rfl, rfl⟩ (fun q hq => hσ q (List.mem_append_left _ hq)) (qL_p hF) ⟨(fun _ h => nomatch h), (fun _ h => nomatch h), (fun _ h => nomatch h)⟩
  have f4 := ((gm_tyr_s F0 (show gm_tyr p2_O 207 4 4 = some (-1, -1) by decide +kernel)).2 4 (Int.le_refl _) (Int.le_refl _)).1
  have f5 := (hf.2.2 (207, 5, 5, (0, 128, [])) List.mem_cons_self).2 5 (Int.le_refl _) (Int.le_refl _)
  have f7 := (hf.2.2 (207, 7, 7, (0, 299, [])) (List.mem_cons_of_mem _ List.mem_cons_self)).2 7 (Int.le_refl _) (Int.le_refl _)
  have a5 : 0 ≤ M 207 5 ∧ M 207 5 ≤ 128 := ⟨f5.2.1, f5.2.2.1⟩
  have a7 : 0 ≤ M 207 7 ∧ M 207 7 ≤ 299 := ⟨f7.2.1, f7.2.2.1⟩
  have hq : ∃ N ls, qC (some ls) N M := by
    obtain ⟨hJ, N, ls, hq, -⟩ := hF.2.2.2.2
    exact ⟨N, ls, hq⟩
  obtain ⟨N, ls, hq⟩ := hq
  have hfun := wy_c43_207 (X := X) (LX := LX) (bc := 0) (bs := 0) (Q := fun o n1 K1 R1 M1 => K1 = K ∧ 0 ≤ M1 207 5 ∧ M1 207 5 ≤ 300) (wo := M 207 4) (y := M 207 7) (r0 := M 207 5) hd (e0F F0) (ti_x (cstF F0) hq.2.1) hq.1.1.1 rfl rfl rfl ⟨a7.1, by omega⟩ f4 ⟨by omega, by omega⟩ (fun M2 hfr h5 => ⟨rfl, by rw [h5]; exact nfl_300 hq.1.1.1 a5⟩)
  refine gm_Wp_mono (fun o n2 K2 R2 M2 hh => ?_) (gm_Wp_and hrow hfun)
  obtain ⟨⟨hF2, hfr, oc, hoc, ho, hn2, -⟩, o3, n3, K3, R3, M3, ⟨rfl, hI⟩, -, hdt⟩ := hh
  have hKK : ∀ k, 1 ≤ k → k ≤ 249 → K3 k = K2 k := fun k _ hk => (hfr.2.1 k hk).symm
  have e1 : ∀ k j, k ≤ 249 → ¬ k = 207 → M2 k j = M k j := fun k j hk h => hfr.2.2.1 k j hk (fun w hw hh => by
    have := of_decide_eq_true (List.all_eq_true.mp (show (q43p 207).2.2.2.2.1.1.all (fun w => decide (w.1 = 207)) = true by decide) w hw)
    omega)
  have e5 : M2 207 5 = gm_w (M3 207 5) := dw_f (dt_sym hdt) (by decide) hKK (pl_o hF2) (show tyF 207 5 5 = true by decide +kernel)
  rw [dw_i ⟨by omega, by omega⟩] at e5
  have ho2 : oc = (.inr none, 249, ([], [], [])) := List.mem_singleton.mp hoc
  subst ho2
  refine ⟨qL_b hF (by decide) hF2 hfr (fun N2 ls2 hq2 hk2 hw2 hlr2 => ⟨?_, ?_⟩), hfr, _, List.mem_cons_self, ho, hn2, (fun _ h => nomatch h), (fun _ h => nomatch h), fun q hq9 => ?_⟩
  · rw [e1 1 15 (by decide) (by decide)]
    exact hq2.2.2.imp_right fun hh => ⟨hh.1, ends_x hh.2 (fun k j hk => e1 k j (by omega) (by omega))⟩
  · exact kfl_b hk2 ⟨by have := hq2.1.1.1.1.1; omega, by have := hq2.1.1.1.1.2.1; omega⟩ (e1 200 6 (by decide) (by decide)) (fun j _ _ => e1 205 j (by decide) (by decide))
  · rw [List.mem_singleton.mp hq9]
    refine ⟨show 207 ≤ n2 by have := hfr.1; omega, fun j j1 j2 => ?_⟩
    have ej : j = 5 := Int.le_antisymm j2 j1
    subst ej
    show gm_ir (M2 207 5) ∧ ck_gi σ (0, 300, []) (M2 207 5)
    rw [e5]
    exact ⟨⟨by omega, by omega⟩, hI.1, hI.2, fun _ h => nomatch h⟩
end QH22
end
/-! 7c23.st -/
section
/-! THE TRAVELLERS under a law: steps, runs; FLOWs that are kept stay right. -/
section ST23
variable {X : Int → Int} {LX : Nat}
noncomputable def q31_206 : ck_Sum := (((0 : Nat), (0 : Nat), (0 : Nat)), (249 : Nat), [.inr (.inr (.inl (206 : Nat)))], ([], [], [((206 : Nat), (5 : Int), (5 : Int), ((0 : Int), (300 : Int), []))]), ([], []), [(.inr (some (.inl (ck_one 0))), (249 : Nat), ([], [], [((206 : Nat), (5 : Int), (5 : Int), ((0 : Int), (98 : Int), []))])), (.inr (some (.inl (ck_one 1))), (249 : Nat), ([], [], [((206 : Nat), (5 : Int), (5 : Int), ((0 : Int), (300 : Int), []))]))])
theorem q31_206_s : ck_Ok qL_O X LX 31 q31_206 := ck_okq (cuts := []) (f := 100) ⟨qL_nmu, ck_E0⟩ (by decide +kernel)
noncomputable def q33_206 : ck_Sum := (((1 : Nat), (0 : Nat), (0 : Nat)), (249 : Nat), [.inr (.inr (.inl (206 : Nat)))], ([], [], []), ([], []), [(.inr (some (.inl ((0 : Int), (99 : Int), []))), (249 : Nat), ([], [], []))])
noncomputable def q32_206 : ck_Sum := (((13 : Nat), (0 : Nat), (0 : Nat)), (249 : Nat), [.inr (.inr (.inl (206 : Nat)))], ([], [((3 : Nat), (8 : Int), (246 : Nat))], [((206 : Nat), (2 : Int), (2 : Int), ((0 : Int), (6 : Int), [])), ((206 : Nat), (5 : Int), (5 : Int), ((0 : Int), (300 : Int), [])), ((206 : Nat), (7 : Int), (7 : Int), ((0 : Int), (299 : Int), [((28 : Nat), (0 : Int))]))]), ([((200 : Nat), (6 : Int), (6 : Int)), ((204 : Nat), (0 : Int), (9 : Int)), ((205 : Nat), (0 : Int), (14849 : Int)), ((206 : Nat), (5 : Int), (8 : Int))], []), [(.inr none, (249 : Nat), ([], [], [((206 : Nat), (5 : Int), (5 : Int), ((0 : Int), (300 : Int), [])), ((206 : Nat), (7 : Int), (7 : Int), ((1 : Int), (300 : Int), [((28 : Nat), (1 : Int))]))]))])
set_option maxRecDepth 100000 in
theorem q32_206_e : ck_ok qL_O none [] [(31, [q31_206]), (33, [q33_206]), (35, [q35]), (43, [q43 206])] 32 [] 200 q32_206 = true := by decide +kernel
theorem q32_206_s (h33 : ck_Ok qL_O X LX 33 q33_206) (h35 : ck_Ok qL_O X LX 35 q35) (h43 : ck_Ok qL_O X LX 43 (q43 206)) : ck_Ok qL_O X LX 32 q32_206 := ck_ok_s ⟨qL_nmu, ck_E1 (ck_S1 q31_206_s ck_S0) (ck_E1 (ck_S1 h33 ck_S0) (ck_E1 (ck_S1 h35 ck_S0) (ck_E1 (ck_S1 h43 ck_S0) ck_E0)))⟩ ck_X0 ck_l0 q32_206_e
noncomputable def q31_207 : ck_Sum := (((0 : Nat), (0 : Nat), (0 : Nat)), (249 : Nat), [.inr (.inr (.inl (207 : Nat)))], ([], [], [((207 : Nat), (5 : Int), (5 : Int), ((0 : Int), (300 : Int), []))]), ([], []), [(.inr (some (.inl (ck_one 0))), (249 : Nat), ([], [], [((207 : Nat), (5 : Int), (5 : Int), ((0 : Int), (98 : Int), []))])), (.inr (some (.inl (ck_one 1))), (249 : Nat), ([], [], [((207 : Nat), (5 : Int), (5 : Int), ((0 : Int), (300 : Int), []))]))])
theorem q31_207_s : ck_Ok qL_O X LX 31 q31_207 := ck_okq (cuts := []) (f := 100) ⟨qL_nmu, ck_E0⟩ (by decide +kernel)
noncomputable def q33_207 : ck_Sum := (((1 : Nat), (0 : Nat), (0 : Nat)), (249 : Nat), [.inr (.inr (.inl (207 : Nat)))], ([], [], []), ([], []), [(.inr (some (.inl ((0 : Int), (99 : Int), []))), (249 : Nat), ([], [], []))])
noncomputable def q32_207 : ck_Sum := (((13 : Nat), (0 : Nat), (0 : Nat)), (249 : Nat), [.inr (.inr (.inl (207 : Nat)))], ([], [((3 : Nat), (8 : Int), (246 : Nat))], [((207 : Nat), (2 : Int), (2 : Int), ((0 : Int), (6 : Int), [])), ((207 : Nat), (5 : Int), (5 : Int), ((0 : Int), (300 : Int), [])), ((207 : Nat), (7 : Int), (7 : Int), ((0 : Int), (299 : Int), [((29 : Nat), (0 : Int))]))]), ([((200 : Nat), (6 : Int), (6 : Int)), ((204 : Nat), (0 : Int), (9 : Int)), ((205 : Nat), (0 : Int), (14849 : Int)), ((207 : Nat), (5 : Int), (8 : Int))], []), [(.inr none, (249 : Nat), ([], [], [((207 : Nat), (5 : Int), (5 : Int), ((0 : Int), (300 : Int), [])), ((207 : Nat), (7 : Int), (7 : Int), ((1 : Int), (300 : Int), [((29 : Nat), (1 : Int))]))]))])
set_option maxRecDepth 100000 in
theorem q32_207_e : ck_ok qL_O none [] [(31, [q31_207]), (33, [q33_207]), (35, [q35]), (43, [q43 207])] 32 [] 200 q32_207 = true := by decide +kernel
theorem q32_207_s (h33 : ck_Ok qL_O X LX 33 q33_207) (h35 : ck_Ok qL_O X LX 35 q35) (h43 : ck_Ok qL_O X LX 43 (q43 207)) : ck_Ok qL_O X LX 32 q32_207 := ck_ok_s ⟨qL_nmu, ck_E1 (ck_S1 q31_207_s ck_S0) (ck_E1 (ck_S1 h33 ck_S0) (ck_E1 (ck_S1 h35 ck_S0) (ck_E1 (ck_S1 h43 ck_S0) ck_E0)))⟩ ck_X0 ck_l0 q32_207_e
end ST23
end
/-! 7c25.ln -/
section
/-! LANE -1, which there isn't: FLOW asked of it keeps nothing. -/
section LN
variable {X : Int → Int} {LX d bc bs n NC : Nat} {K : gm_K} {R : gm_R} {M M2 : gm_M} {Q : gm_Q} {N h C Ln : Int → Int} {sp : Int → Int → Int} {m lane row year speed cell f : Int} {φ : Int → Int → Int → Int}
theorem ln_spd (hE : E0 n K R) (hT : TI N h sp M) (hN : NR N) (h1 : lane = -1) (h2 : -1 ≤ row ∧ row < 99) (q0 : Q (.inl (some (gm_vi 0))) n K R (M)) : gm_Wp X LX d bc bs 36 0 (gm_ent 36 [gm_vr 200, gm_vi lane, gm_vi row]) [] n K R M Q := by
  obtain ⟨⟨⟨a0, b0⟩, ⟨a1, b1⟩, ⟨a10, b10⟩, ⟨a11, b11⟩, ⟨a12, b12⟩, a9, b9⟩, ⟨⟨a2, b2⟩, ⟨a5, b5⟩, ⟨a3, b3⟩, ⟨a4, b4⟩, ⟨a6, b6⟩, ⟨a14, b14⟩, ⟨a7, b7⟩, a13, b13⟩, rF, rP, rL⟩ := id hN
  refine gm_sz (gm_p_load (pc := 0) (i := .iload_n 1) (sr := 0) (j := 1) (by decide +kernel) rfl rfl rfl) ?_
  refine gm_sz (gm_p_const (pc := 1) (i := .bipush 99) (v := gm_vi 99) (by decide +kernel) (by decide +kernel)) ?_
  refine gm_sz (gm_p_bin (pc := 3) (i := .imul) (f := fun x y => x * y) (by decide +kernel) rfl) ?_
  refine gm_sz (gm_p_load (pc := 4) (i := .iload_n 2) (sr := 0) (j := 2) (by decide +kernel) rfl rfl rfl) ?_
  refine gm_sz (gm_p_bin (pc := 5) (i := .iadd) (f := fun x y => x + y) (by decide +kernel) rfl) ?_
  refine gm_sz (gm_p_stor (pc := 6) (i := .istore_n 3) (sr := 0) (j := 3) (by decide +kernel) rfl (show 4 ≤ _ from Nat.le_of_ble_eq_true rfl) rfl) ?_
  refine gm_sz (gm_p_load (pc := 7) (i := .iload_n 3) (sr := 0) (j := 3) (by decide +kernel) rfl rfl rfl) ?_
  refine fw_ift (cc := .lt) (pc := 8) (off := 21) (by decide +kernel) (by decide) ⟨by omega, by omega⟩ (show ((lane * 99) + row) < 0 by omega) ?_
  refine gm_sz (gm_p_const (pc := 29) (i := .iconst 0) (v := gm_vi 0) (by decide +kernel) (by decide +kernel)) ?_
  exact gm_r_int (pc := 30) (by decide +kernel) (Or.inl (by decide +kernel)) q0
theorem ln_heat (hE : E0 n K R) (hT : TI N h sp M) (hN : NR N) (h1 : year = -1) (q0 : Q (.inl (some (gm_vi 0))) n K R (M)) : gm_Wp X LX d bc bs 34 0 (gm_ent 34 [gm_vr 200, gm_vi year]) [] n K R M Q := by
  obtain ⟨⟨⟨a0, b0⟩, ⟨a1, b1⟩, ⟨a10, b10⟩, ⟨a11, b11⟩, ⟨a12, b12⟩, a9, b9⟩, ⟨⟨a2, b2⟩, ⟨a5, b5⟩, ⟨a3, b3⟩, ⟨a4, b4⟩, ⟨a6, b6⟩, ⟨a14, b14⟩, ⟨a7, b7⟩, a13, b13⟩, rF, rP, rL⟩ := id hN
  refine gm_sz (gm_p_load (pc := 0) (i := .iload_n 1) (sr := 0) (j := 1) (by decide +kernel) rfl rfl rfl) ?_
  refine fw_ift (cc := .lt) (pc := 1) (off := 19) (by decide +kernel) (by decide) ⟨by omega, by omega⟩ (show year < 0 by omega) ?_
  refine gm_sz (gm_p_const (pc := 20) (i := .iconst 0) (v := gm_vi 0) (by decide +kernel) (by decide +kernel)) ?_
  exact gm_r_int (pc := 21) (by decide +kernel) (Or.inl (by decide +kernel)) q0
theorem ln_sf0 (hd : 1 ≤ d) (hE : E0 n K R) (hT : TI N h sp M) (hN : NR N) (h1 : lane = -1) (h2 : 0 ≤ year ∧ year < 300) (q0 : lane = 0 → (N 12) ≤ lane → Q (.inl (none)) n K R (gm_uM (gm_uM (gm_uM (gm_uM (gm_uM (gm_uM (gm_uM (gm_uM (gm_uM (gm_uM M 204 0 lane) 204 1 row) 204 2 year) 204 3 (h year)) 204 4 speed) 204 5 0) 204 6 0) 204 7 0) 204 8 1) 204 9 0)) (q1 : lane = 0 → ¬ (N 12) ≤ lane → Q (.inl (none)) n K R (gm_uM (gm_uM (gm_uM (gm_uM (gm_uM (gm_uM (gm_uM (gm_uM (gm_uM (gm_uM M 204 0 lane) 204 1 row) 204 2 year) 204 3 (h year)) 204 4 speed) 204 5 0) 204 6 0) 204 7 0) 204 8 1) 204 9 1)) (q2 : ¬ lane = 0 → ¬ lane = ((N 0) - 1) → (N 12) ≤ lane → Q (.inl (none)) n K R (gm_uM (gm_uM (gm_uM (gm_uM (gm_uM (gm_uM (gm_uM (gm_uM (gm_uM (gm_uM M 204 0 lane) 204 1 row) 204 2 year) 204 3 (h year)) 204 4 speed) 204 5 0) 204 6 0) 204 7 0) 204 8 0) 204 9 0)) (q3 : ¬ lane = 0 → ¬ lane = ((N 0) - 1) → ¬ (N 12) ≤ lane → Q (.inl (none)) n K R (gm_uM (gm_uM (gm_uM (gm_uM (gm_uM (gm_uM (gm_uM (gm_uM (gm_uM (gm_uM M 204 0 lane) 204 1 row) 204 2 year) 204 3 (h year)) 204 4 speed) 204 5 0) 204 6 0) 204 7 0) 204 8 0) 204 9 1)) (q4 : ¬ lane = 0 → lane = ((N 0) - 1) → (N 12) ≤ lane → Q (.inl (none)) n K R (gm_uM (gm_uM (gm_uM (gm_uM (gm_uM (gm_uM (gm_uM (gm_uM (gm_uM (gm_uM M 204 0 lane) 204 1 row) 204 2 year) 204 3 (h year)) 204 4 speed) 204 5 0) 204 6 0) 204 7 0) 204 8 1) 204 9 0)) (q5 : ¬ lane = 0 → lane = ((N 0) - 1) → ¬ (N 12) ≤ lane → Q (.inl (none)) n K R (gm_uM (gm_uM (gm_uM (gm_uM (gm_uM (gm_uM (gm_uM (gm_uM (gm_uM (gm_uM M 204 0 lane) 204 1 row) 204 2 year) 204 3 (h year)) 204 4 speed) 204 5 0) 204 6 0) 204 7 0) 204 8 1) 204 9 1)) : gm_Wp X LX d bc bs 39 0 (gm_ent 39 [gm_vr 200, gm_vi lane, gm_vi row, gm_vi year, gm_vi speed]) [] n K R M Q := by
  obtain ⟨⟨⟨a0, b0⟩, ⟨a1, b1⟩, ⟨a10, b10⟩, ⟨a11, b11⟩, ⟨a12, b12⟩, a9, b9⟩, ⟨⟨a2, b2⟩, ⟨a5, b5⟩, ⟨a3, b3⟩, ⟨a4, b4⟩, ⟨a6, b6⟩, ⟨a14, b14⟩, ⟨a7, b7⟩, a13, b13⟩, rF, rP, rL⟩ := id hN
  refine gm_sz (gm_p_load (pc := 0) (i := .aload_n 0) (sr := 2) (j := 0) (by decide +kernel) rfl rfl rfl) ?_
  refine gm_sz (fw_gr (pc := 1) (ix := 23) (ci := 4) (j := 4) (r := 204) (by decide +kernel) (e0k hE (k := 200) (c := 4) (by decide +kernel)) (by decide +kernel) (by decide +kernel) (e0r hE (k := 200) (j := 4) (r := 204) (by decide +kernel))) ?_
  refine gm_sz (gm_p_const (pc := 4) (i := .iconst 0) (v := gm_vi 0) (by decide +kernel) (by decide +kernel)) ?_
  refine gm_sz (gm_p_load (pc := 5) (i := .iload_n 1) (sr := 0) (j := 1) (by decide +kernel) rfl rfl rfl) ?_
  refine gm_sz (fw_is (pc := 6) (k := 204) (len := 10) (e0 := 0) (x := lane) (M' := gm_uM M 204 0 lane) (by decide +kernel) (e0a hE (k := 204) (q := ((0 : Nat), (10 : Nat))) (by decide +kernel)).1 (e0a hE (k := 204) (q := ((0 : Nat), (10 : Nat))) (by decide +kernel)).2 (by decide) ⟨by omega, by omega⟩ rfl) ?_
  refine gm_sz (gm_p_load (pc := 7) (i := .aload_n 0) (sr := 2) (j := 0) (by decide +kernel) rfl rfl rfl) ?_
  refine gm_sz (fw_gr (pc := 8) (ix := 23) (ci := 4) (j := 4) (r := 204) (by decide +kernel) (e0k hE (k := 200) (c := 4) (by decide +kernel)) (by decide +kernel) (by decide +kernel) (e0r hE (k := 200) (j := 4) (r := 204) (by decide +kernel))) ?_
  refine gm_sz (gm_p_const (pc := 11) (i := .iconst 1) (v := gm_vi 1) (by decide +kernel) (by decide +kernel)) ?_
  refine gm_sz (gm_p_load (pc := 12) (i := .iload_n 2) (sr := 0) (j := 2) (by decide +kernel) rfl rfl rfl) ?_
  refine gm_sz (fw_is (pc := 13) (k := 204) (len := 10) (e0 := 1) (x := row) (M' := gm_uM (gm_uM M 204 0 lane) 204 1 row) (by decide +kernel) (e0a hE (k := 204) (q := ((0 : Nat), (10 : Nat))) (by decide +kernel)).1 (e0a hE (k := 204) (q := ((0 : Nat), (10 : Nat))) (by decide +kernel)).2 (by decide) ⟨by omega, by omega⟩ rfl) ?_
  refine gm_sz (gm_p_load (pc := 14) (i := .aload_n 0) (sr := 2) (j := 0) (by decide +kernel) rfl rfl rfl) ?_
  refine gm_sz (fw_gr (pc := 15) (ix := 23) (ci := 4) (j := 4) (r := 204) (by decide +kernel) (e0k hE (k := 200) (c := 4) (by decide +kernel)) (by decide +kernel) (by decide +kernel) (e0r hE (k := 200) (j := 4) (r := 204) (by decide +kernel))) ?_
  refine gm_sz (gm_p_const (pc := 18) (i := .iconst 2) (v := gm_vi 2) (by decide +kernel) (by decide +kernel)) ?_
  refine gm_sz (gm_p_load (pc := 19) (i := .iload_n 3) (sr := 0) (j := 3) (by decide +kernel) rfl rfl rfl) ?_
  refine gm_sz (fw_is (pc := 20) (k := 204) (len := 10) (e0 := 2) (x := year) (M' := gm_uM (gm_uM (gm_uM M 204 0 lane) 204 1 row) 204 2 year) (by decide +kernel) (e0a hE (k := 204) (q := ((0 : Nat), (10 : Nat))) (by decide +kernel)).1 (e0a hE (k := 204) (q := ((0 : Nat), (10 : Nat))) (by decide +kernel)).2 (by decide) ⟨by omega, by omega⟩ rfl) ?_
  refine gm_sz (gm_p_load (pc := 21) (i := .aload_n 0) (sr := 2) (j := 0) (by decide +kernel) rfl rfl rfl) ?_
  refine gm_sz (fw_gr (pc := 22) (ix := 23) (ci := 4) (j := 4) (r := 204) (by decide +kernel) (e0k hE (k := 200) (c := 4) (by decide +kernel)) (by decide +kernel) (by decide +kernel) (e0r hE (k := 200) (j := 4) (r := 204) (by decide +kernel))) ?_
  refine gm_sz (gm_p_const (pc := 25) (i := .iconst 3) (v := gm_vi 3) (by decide +kernel) (by decide +kernel)) ?_
  refine gm_sz (gm_p_load (pc := 26) (i := .aload_n 0) (sr := 2) (j := 0) (by decide +kernel) rfl rfl rfl) ?_
  refine gm_sz (gm_p_load (pc := 27) (i := .iload_n 3) (sr := 0) (j := 3) (by decide +kernel) rfl rfl rfl) ?_
  refine gm_c_virt (k := 200) (ci := 4) (mj := 34) (ix := 123) (pc := 28) (as := [gm_vi year]) (st := [gm_vi 3, gm_vr 204]) (d' := d - 1) (bc' := 0) (bs' := 0) (by decide +kernel) (by decide +kernel) (by decide +kernel) (by decide +kernel) (e0k hE (k := 200) (c := 4) (by decide +kernel)).1 (e0k hE (k := 200) (c := 4) (by decide +kernel)).2 (by decide) (by decide +kernel) (show 1 = gm_na 34 by decide +kernel) (fw_c1 fw_si) (show 2 ≤ gm_ml 34 by decide +kernel) (Nat.le_of_ble_eq_true rfl) (by omega) (Nat.zero_le _) (Nat.zero_le _) ?_
  refine ic_heat hE (ti_fr (W := [((204 : Nat), some (0 : Int)), ((204 : Nat), some (1 : Int)), ((204 : Nat), some (2 : Int))]) hT (fr_p (fr_p (fr_p fr_0 (Or.inr (by decide))) (Or.inr (by decide))) (Or.inr (by decide))) (by decide) (by decide +kernel)) hN ⟨by omega, by omega⟩ ?_
  show gm_Wp X LX d _ _ 39 31 _ [gm_vi (h year), gm_vi 3, gm_vr 204] n K _ _ Q
  refine gm_sz (fw_is (pc := 31) (k := 204) (len := 10) (e0 := 3) (x := h year) (M' := gm_uM (gm_uM (gm_uM (gm_uM M 204 0 lane) 204 1 row) 204 2 year) 204 3 (h year)) (by decide +kernel) (e0a hE (k := 204) (q := ((0 : Nat), (10 : Nat))) (by decide +kernel)).1 (e0a hE (k := 204) (q := ((0 : Nat), (10 : Nat))) (by decide +kernel)).2 (by decide) ⟨by omega, by omega⟩ rfl) ?_
  refine gm_sz (gm_p_load (pc := 32) (i := .aload_n 0) (sr := 2) (j := 0) (by decide +kernel) rfl rfl rfl) ?_
  refine gm_sz (fw_gr (pc := 33) (ix := 23) (ci := 4) (j := 4) (r := 204) (by decide +kernel) (e0k hE (k := 200) (c := 4) (by decide +kernel)) (by decide +kernel) (by decide +kernel) (e0r hE (k := 200) (j := 4) (r := 204) (by decide +kernel))) ?_
  refine gm_sz (gm_p_const (pc := 36) (i := .iconst 4) (v := gm_vi 4) (by decide +kernel) (by decide +kernel)) ?_
  refine gm_sz (gm_p_load (pc := 37) (i := .iload 4) (sr := 0) (j := 4) (by decide +kernel) rfl rfl rfl) ?_
  refine gm_sz (fw_is (pc := 39) (k := 204) (len := 10) (e0 := 4) (x := speed) (M' := gm_uM (gm_uM (gm_uM (gm_uM (gm_uM M 204 0 lane) 204 1 row) 204 2 year) 204 3 (h year)) 204 4 speed) (by decide +kernel) (e0a hE (k := 204) (q := ((0 : Nat), (10 : Nat))) (by decide +kernel)).1 (e0a hE (k := 204) (q := ((0 : Nat), (10 : Nat))) (by decide +kernel)).2 (by decide) ⟨by omega, by omega⟩ rfl) ?_
  refine gm_sz (gm_p_load (pc := 40) (i := .aload_n 0) (sr := 2) (j := 0) (by decide +kernel) rfl rfl rfl) ?_
  refine gm_sz (fw_gr (pc := 41) (ix := 23) (ci := 4) (j := 4) (r := 204) (by decide +kernel) (e0k hE (k := 200) (c := 4) (by decide +kernel)) (by decide +kernel) (by decide +kernel) (e0r hE (k := 200) (j := 4) (r := 204) (by decide +kernel))) ?_
  refine gm_sz (gm_p_const (pc := 44) (i := .iconst 5) (v := gm_vi 5) (by decide +kernel) (by decide +kernel)) ?_
  refine gm_sz (gm_p_const (pc := 45) (i := .iconst 0) (v := gm_vi 0) (by decide +kernel) (by decide +kernel)) ?_
  refine gm_sz (fw_is (pc := 46) (k := 204) (len := 10) (e0 := 5) (x := 0) (M' := gm_uM (gm_uM (gm_uM (gm_uM (gm_uM (gm_uM M 204 0 lane) 204 1 row) 204 2 year) 204 3 (h year)) 204 4 speed) 204 5 0) (by decide +kernel) (e0a hE (k := 204) (q := ((0 : Nat), (10 : Nat))) (by decide +kernel)).1 (e0a hE (k := 204) (q := ((0 : Nat), (10 : Nat))) (by decide +kernel)).2 (by decide) ⟨by omega, by omega⟩ rfl) ?_
  refine gm_sz (gm_p_load (pc := 47) (i := .aload_n 0) (sr := 2) (j := 0) (by decide +kernel) rfl rfl rfl) ?_
  refine gm_sz (fw_gr (pc := 48) (ix := 23) (ci := 4) (j := 4) (r := 204) (by decide +kernel) (e0k hE (k := 200) (c := 4) (by decide +kernel)) (by decide +kernel) (by decide +kernel) (e0r hE (k := 200) (j := 4) (r := 204) (by decide +kernel))) ?_
  refine gm_sz (gm_p_const (pc := 51) (i := .bipush 6) (v := gm_vi 6) (by decide +kernel) (by decide +kernel)) ?_
  refine gm_sz (gm_p_const (pc := 53) (i := .iconst 0) (v := gm_vi 0) (by decide +kernel) (by decide +kernel)) ?_
  refine gm_sz (fw_is (pc := 54) (k := 204) (len := 10) (e0 := 6) (x := 0) (M' := gm_uM (gm_uM (gm_uM (gm_uM (gm_uM (gm_uM (gm_uM M 204 0 lane) 204 1 row) 204 2 year) 204 3 (h year)) 204 4 speed) 204 5 0) 204 6 0) (by decide +kernel) (e0a hE (k := 204) (q := ((0 : Nat), (10 : Nat))) (by decide +kernel)).1 (e0a hE (k := 204) (q := ((0 : Nat), (10 : Nat))) (by decide +kernel)).2 (by decide) ⟨by omega, by omega⟩ rfl) ?_
  refine gm_sz (gm_p_load (pc := 55) (i := .aload_n 0) (sr := 2) (j := 0) (by decide +kernel) rfl rfl rfl) ?_
  refine gm_sz (fw_gr (pc := 56) (ix := 23) (ci := 4) (j := 4) (r := 204) (by decide +kernel) (e0k hE (k := 200) (c := 4) (by decide +kernel)) (by decide +kernel) (by decide +kernel) (e0r hE (k := 200) (j := 4) (r := 204) (by decide +kernel))) ?_
  refine gm_sz (gm_p_const (pc := 59) (i := .bipush 7) (v := gm_vi 7) (by decide +kernel) (by decide +kernel)) ?_
  refine gm_sz (gm_p_const (pc := 61) (i := .iconst 0) (v := gm_vi 0) (by decide +kernel) (by decide +kernel)) ?_
  refine gm_sz (fw_is (pc := 62) (k := 204) (len := 10) (e0 := 7) (x := 0) (M' := gm_uM (gm_uM (gm_uM (gm_uM (gm_uM (gm_uM (gm_uM (gm_uM M 204 0 lane) 204 1 row) 204 2 year) 204 3 (h year)) 204 4 speed) 204 5 0) 204 6 0) 204 7 0) (by decide +kernel) (e0a hE (k := 204) (q := ((0 : Nat), (10 : Nat))) (by decide +kernel)).1 (e0a hE (k := 204) (q := ((0 : Nat), (10 : Nat))) (by decide +kernel)).2 (by decide) ⟨by omega, by omega⟩ rfl) ?_
  refine gm_sz (gm_p_load (pc := 63) (i := .aload_n 0) (sr := 2) (j := 0) (by decide +kernel) rfl rfl rfl) ?_
  refine gm_sz (fw_gr (pc := 64) (ix := 23) (ci := 4) (j := 4) (r := 204) (by decide +kernel) (e0k hE (k := 200) (c := 4) (by decide +kernel)) (by decide +kernel) (by decide +kernel) (e0r hE (k := 200) (j := 4) (r := 204) (by decide +kernel))) ?_
  refine gm_sz (gm_p_const (pc := 67) (i := .bipush 8) (v := gm_vi 8) (by decide +kernel) (by decide +kernel)) ?_
  refine gm_sz (gm_p_load (pc := 69) (i := .iload_n 1) (sr := 0) (j := 1) (by decide +kernel) rfl rfl rfl) ?_
  refine fw_if (cc := .eq) (pc := 70) (off := 16) (by decide +kernel) (by decide) ⟨by omega, by omega⟩ (fun h70 => ?_) (fun h70 => ?_)
  · have h70 : lane = 0 := h70
    refine gm_sz (gm_p_const (pc := 86) (i := .iconst 1) (v := gm_vi 1) (by decide +kernel) (by decide +kernel)) ?_
    refine gm_sz (gm_p_goto (pc := 87) (off := 4) (by decide +kernel) (by decide)) ?_
    refine gm_sz (fw_is (pc := 91) (k := 204) (len := 10) (e0 := 8) (x := 1) (M' := gm_uM (gm_uM (gm_uM (gm_uM (gm_uM (gm_uM (gm_uM (gm_uM (gm_uM M 204 0 lane) 204 1 row) 204 2 year) 204 3 (h year)) 204 4 speed) 204 5 0) 204 6 0) 204 7 0) 204 8 1) (by decide +kernel) (e0a hE (k := 204) (q := ((0 : Nat), (10 : Nat))) (by decide +kernel)).1 (e0a hE (k := 204) (q := ((0 : Nat), (10 : Nat))) (by decide +kernel)).2 (by decide) ⟨by omega, by omega⟩ rfl) ?_
    refine gm_sz (gm_p_load (pc := 92) (i := .aload_n 0) (sr := 2) (j := 0) (by decide +kernel) rfl rfl rfl) ?_
    refine gm_sz (fw_gr (pc := 93) (ix := 23) (ci := 4) (j := 4) (r := 204) (by decide +kernel) (e0k hE (k := 200) (c := 4) (by decide +kernel)) (by decide +kernel) (by decide +kernel) (e0r hE (k := 200) (j := 4) (r := 204) (by decide +kernel))) ?_
    refine gm_sz (gm_p_const (pc := 96) (i := .bipush 9) (v := gm_vi 9) (by decide +kernel) (by decide +kernel)) ?_
    refine gm_sz (gm_p_load (pc := 98) (i := .iload_n 1) (sr := 0) (j := 1) (by decide +kernel) rfl rfl rfl) ?_
    refine gm_sz (gm_p_load (pc := 99) (i := .aload_n 0) (sr := 2) (j := 0) (by decide +kernel) rfl rfl rfl) ?_
    refine gm_sz (fw_gr (pc := 100) (ix := 34) (ci := 4) (j := 0) (r := 3) (by decide +kernel) (e0k hE (k := 200) (c := 4) (by decide +kernel)) (by decide +kernel) (by decide +kernel) (e0r hE (k := 200) (j := 0) (r := 3) (by decide +kernel))) ?_
    refine gm_sz (fw_gi (pc := 103) (ix := 126) (ci := 1) (j := 4) (x := N 12) (by decide +kernel) (e0k hE (k := 3) (c := 1) (by decide +kernel)) (by decide +kernel) (by decide +kernel) ((uM_ne (by omega)).trans ((uM_ne (by omega)).trans ((uM_ne (by omega)).trans ((uM_ne (by omega)).trans ((uM_ne (by omega)).trans ((uM_ne (by omega)).trans ((uM_ne (by omega)).trans ((uM_ne (by omega)).trans ((uM_ne (by omega)).trans (ti_str hT))))))))))) ?_
    refine fw_ic (cc := .ge) (pc := 106) (off := 7) (by decide +kernel) (by decide) ⟨by omega, by omega⟩ ⟨by omega, by omega⟩ (fun h106 => ?_) (fun h106 => ?_)
    · have h106 : (N 12) ≤ lane := h106
      refine gm_sz (gm_p_const (pc := 113) (i := .iconst 0) (v := gm_vi 0) (by decide +kernel) (by decide +kernel)) ?_
      refine gm_sz (fw_is (pc := 114) (k := 204) (len := 10) (e0 := 9) (x := 0) (M' := gm_uM (gm_uM (gm_uM (gm_uM (gm_uM (gm_uM (gm_uM (gm_uM (gm_uM (gm_uM M 204 0 lane) 204 1 row) 204 2 year) 204 3 (h year)) 204 4 speed) 204 5 0) 204 6 0) 204 7 0) 204 8 1) 204 9 0) (by decide +kernel) (e0a hE (k := 204) (q := ((0 : Nat), (10 : Nat))) (by decide +kernel)).1 (e0a hE (k := 204) (q := ((0 : Nat), (10 : Nat))) (by decide +kernel)).2 (by decide) ⟨by omega, by omega⟩ rfl) ?_
      exact gm_r_void (pc := 115) (by decide +kernel) (by decide +kernel) (q0 h70 h106)
    · have h106 : ¬ (N 12) ≤ lane := h106
      refine gm_sz (gm_p_const (pc := 109) (i := .iconst 1) (v := gm_vi 1) (by decide +kernel) (by decide +kernel)) ?_
      refine gm_sz (gm_p_goto (pc := 110) (off := 4) (by decide +kernel) (by decide)) ?_
      refine gm_sz (fw_is (pc := 114) (k := 204) (len := 10) (e0 := 9) (x := 1) (M' := gm_uM (gm_uM (gm_uM (gm_uM (gm_uM (gm_uM (gm_uM (gm_uM (gm_uM (gm_uM M 204 0 lane) 204 1 row) 204 2 year) 204 3 (h year)) 204 4 speed) 204 5 0) 204 6 0) 204 7 0) 204 8 1) 204 9 1) (by decide +kernel) (e0a hE (k := 204) (q := ((0 : Nat), (10 : Nat))) (by decide +kernel)).1 (e0a hE (k := 204) (q := ((0 : Nat), (10 : Nat))) (by decide +kernel)).2 (by decide) ⟨by omega, by omega⟩ rfl) ?_
      exact gm_r_void (pc := 115) (by decide +kernel) (by decide +kernel) (q1 h70 h106)
  · have h70 : ¬ lane = 0 := h70
    refine gm_sz (gm_p_load (pc := 73) (i := .iload_n 1) (sr := 0) (j := 1) (by decide +kernel) rfl rfl rfl) ?_
    refine gm_sz (gm_p_load (pc := 74) (i := .aload_n 0) (sr := 2) (j := 0) (by decide +kernel) rfl rfl rfl) ?_
    refine gm_sz (fw_gr (pc := 75) (ix := 34) (ci := 4) (j := 0) (r := 3) (by decide +kernel) (e0k hE (k := 200) (c := 4) (by decide +kernel)) (by decide +kernel) (by decide +kernel) (e0r hE (k := 200) (j := 0) (r := 3) (by decide +kernel))) ?_
    refine gm_sz (fw_gi (pc := 78) (ix := 82) (ci := 1) (j := 0) (x := N 0) (by decide +kernel) (e0k hE (k := 3) (c := 1) (by decide +kernel)) (by decide +kernel) (by decide +kernel) ((uM_ne (by omega)).trans ((uM_ne (by omega)).trans ((uM_ne (by omega)).trans ((uM_ne (by omega)).trans ((uM_ne (by omega)).trans ((uM_ne (by omega)).trans ((uM_ne (by omega)).trans ((uM_ne (by omega)).trans (ti_lan hT)))))))))) ?_
    refine gm_sz (gm_p_const (pc := 81) (i := .iconst 1) (v := gm_vi 1) (by decide +kernel) (by decide +kernel)) ?_
    refine gm_sz (gm_p_bin (pc := 82) (i := .isub) (f := fun x y => x - y) (by decide +kernel) rfl) ?_
    refine fw_ic (cc := .ne) (pc := 83) (off := 7) (by decide +kernel) (by decide) ⟨by omega, by omega⟩ ⟨by omega, by omega⟩ (fun h83 => ?_) (fun h83 => ?_)
    · have h83 : ¬ lane = ((N 0) - 1) := h83
      refine gm_sz (gm_p_const (pc := 90) (i := .iconst 0) (v := gm_vi 0) (by decide +kernel) (by decide +kernel)) ?_
      refine gm_sz (fw_is (pc := 91) (k := 204) (len := 10) (e0 := 8) (x := 0) (M' := gm_uM (gm_uM (gm_uM (gm_uM (gm_uM (gm_uM (gm_uM (gm_uM (gm_uM M 204 0 lane) 204 1 row) 204 2 year) 204 3 (h year)) 204 4 speed) 204 5 0) 204 6 0) 204 7 0) 204 8 0) (by decide +kernel) (e0a hE (k := 204) (q := ((0 : Nat), (10 : Nat))) (by decide +kernel)).1 (e0a hE (k := 204) (q := ((0 : Nat), (10 : Nat))) (by decide +kernel)).2 (by decide) ⟨by omega, by omega⟩ rfl) ?_
      refine gm_sz (gm_p_load (pc := 92) (i := .aload_n 0) (sr := 2) (j := 0) (by decide +kernel) rfl rfl rfl) ?_
      refine gm_sz (fw_gr (pc := 93) (ix := 23) (ci := 4) (j := 4) (r := 204) (by decide +kernel) (e0k hE (k := 200) (c := 4) (by decide +kernel)) (by decide +kernel) (by decide +kernel) (e0r hE (k := 200) (j := 4) (r := 204) (by decide +kernel))) ?_
      refine gm_sz (gm_p_const (pc := 96) (i := .bipush 9) (v := gm_vi 9) (by decide +kernel) (by decide +kernel)) ?_
      refine gm_sz (gm_p_load (pc := 98) (i := .iload_n 1) (sr := 0) (j := 1) (by decide +kernel) rfl rfl rfl) ?_
      refine gm_sz (gm_p_load (pc := 99) (i := .aload_n 0) (sr := 2) (j := 0) (by decide +kernel) rfl rfl rfl) ?_
      refine gm_sz (fw_gr (pc := 100) (ix := 34) (ci := 4) (j := 0) (r := 3) (by decide +kernel) (e0k hE (k := 200) (c := 4) (by decide +kernel)) (by decide +kernel) (by decide +kernel) (e0r hE (k := 200) (j := 0) (r := 3) (by decide +kernel))) ?_
      refine gm_sz (fw_gi (pc := 103) (ix := 126) (ci := 1) (j := 4) (x := N 12) (by decide +kernel) (e0k hE (k := 3) (c := 1) (by decide +kernel)) (by decide +kernel) (by decide +kernel) ((uM_ne (by omega)).trans ((uM_ne (by omega)).trans ((uM_ne (by omega)).trans ((uM_ne (by omega)).trans ((uM_ne (by omega)).trans ((uM_ne (by omega)).trans ((uM_ne (by omega)).trans ((uM_ne (by omega)).trans ((uM_ne (by omega)).trans (ti_str hT))))))))))) ?_
      refine fw_ic (cc := .ge) (pc := 106) (off := 7) (by decide +kernel) (by decide) ⟨by omega, by omega⟩ ⟨by omega, by omega⟩ (fun h106 => ?_) (fun h106 => ?_)
      · have h106 : (N 12) ≤ lane := h106
        refine gm_sz (gm_p_const (pc := 113) (i := .iconst 0) (v := gm_vi 0) (by decide +kernel) (by decide +kernel)) ?_
        refine gm_sz (fw_is (pc := 114) (k := 204) (len := 10) (e0 := 9) (x := 0) (M' := gm_uM (gm_uM (gm_uM (gm_uM (gm_uM (gm_uM (gm_uM (gm_uM (gm_uM (gm_uM M 204 0 lane) 204 1 row) 204 2 year) 204 3 (h year)) 204 4 speed) 204 5 0) 204 6 0) 204 7 0) 204 8 0) 204 9 0) (by decide +kernel) (e0a hE (k := 204) (q := ((0 : Nat), (10 : Nat))) (by decide +kernel)).1 (e0a hE (k := 204) (q := ((0 : Nat), (10 : Nat))) (by decide +kernel)).2 (by decide) ⟨by omega, by omega⟩ rfl) ?_
        exact gm_r_void (pc := 115) (by decide +kernel) (by decide +kernel) (q2 h70 h83 h106)
      · have h106 : ¬ (N 12) ≤ lane := h106
        refine gm_sz (gm_p_const (pc := 109) (i := .iconst 1) (v := gm_vi 1) (by decide +kernel) (by decide +kernel)) ?_
        refine gm_sz (gm_p_goto (pc := 110) (off := 4) (by decide +kernel) (by decide)) ?_
        refine gm_sz (fw_is (pc := 114) (k := 204) (len := 10) (e0 := 9) (x := 1) (M' := gm_uM (gm_uM (gm_uM (gm_uM (gm_uM (gm_uM (gm_uM (gm_uM (gm_uM (gm_uM M 204 0 lane) 204 1 row) 204 2 year) 204 3 (h year)) 204 4 speed) 204 5 0) 204 6 0) 204 7 0) 204 8 0) 204 9 1) (by decide +kernel) (e0a hE (k := 204) (q := ((0 : Nat), (10 : Nat))) (by decide +kernel)).1 (e0a hE (k := 204) (q := ((0 : Nat), (10 : Nat))) (by decide +kernel)).2 (by decide) ⟨by omega, by omega⟩ rfl) ?_
        exact gm_r_void (pc := 115) (by decide +kernel) (by decide +kernel) (q3 h70 h83 h106)
    · have h83 : lane = ((N 0) - 1) := Classical.not_not.mp h83
      refine gm_sz (gm_p_const (pc := 86) (i := .iconst 1) (v := gm_vi 1) (by decide +kernel) (by decide +kernel)) ?_
      refine gm_sz (gm_p_goto (pc := 87) (off := 4) (by decide +kernel) (by decide)) ?_
      refine gm_sz (fw_is (pc := 91) (k := 204) (len := 10) (e0 := 8) (x := 1) (M' := gm_uM (gm_uM (gm_uM (gm_uM (gm_uM (gm_uM (gm_uM (gm_uM (gm_uM M 204 0 lane) 204 1 row) 204 2 year) 204 3 (h year)) 204 4 speed) 204 5 0) 204 6 0) 204 7 0) 204 8 1) (by decide +kernel) (e0a hE (k := 204) (q := ((0 : Nat), (10 : Nat))) (by decide +kernel)).1 (e0a hE (k := 204) (q := ((0 : Nat), (10 : Nat))) (by decide +kernel)).2 (by decide) ⟨by omega, by omega⟩ rfl) ?_
      refine gm_sz (gm_p_load (pc := 92) (i := .aload_n 0) (sr := 2) (j := 0) (by decide +kernel) rfl rfl rfl) ?_
      refine gm_sz (fw_gr (pc := 93) (ix := 23) (ci := 4) (j := 4) (r := 204) (by decide +kernel) (e0k hE (k := 200) (c := 4) (by decide +kernel)) (by decide +kernel) (by decide +kernel) (e0r hE (k := 200) (j := 4) (r := 204) (by decide +kernel))) ?_
      refine gm_sz (gm_p_const (pc := 96) (i := .bipush 9) (v := gm_vi 9) (by decide +kernel) (by decide +kernel)) ?_
      refine gm_sz (gm_p_load (pc := 98) (i := .iload_n 1) (sr := 0) (j := 1) (by decide +kernel) rfl rfl rfl) ?_
      refine gm_sz (gm_p_load (pc := 99) (i := .aload_n 0) (sr := 2) (j := 0) (by decide +kernel) rfl rfl rfl) ?_
      refine gm_sz (fw_gr (pc := 100) (ix := 34) (ci := 4) (j := 0) (r := 3) (by decide +kernel) (e0k hE (k := 200) (c := 4) (by decide +kernel)) (by decide +kernel) (by decide +kernel) (e0r hE (k := 200) (j := 0) (r := 3) (by decide +kernel))) ?_
      refine gm_sz (fw_gi (pc := 103) (ix := 126) (ci := 1) (j := 4) (x := N 12) (by decide +kernel) (e0k hE (k := 3) (c := 1) (by decide +kernel)) (by decide +kernel) (by decide +kernel) ((uM_ne (by omega)).trans ((uM_ne (by omega)).trans ((uM_ne (by omega)).trans ((uM_ne (by omega)).trans ((uM_ne (by omega)).trans ((uM_ne (by omega)).trans ((uM_ne (by omega)).trans ((uM_ne (by omega)).trans ((uM_ne (by omega)).trans (ti_str hT))))))))))) ?_
      refine fw_ic (cc := .ge) (pc := 106) (off := 7) (by decide +kernel) (by decide) ⟨by omega, by omega⟩ ⟨by omega, by omega⟩ (fun h106 => ?_) (fun h106 => ?_)
      · have h106 : (N 12) ≤ lane := h106
        refine gm_sz (gm_p_const (pc := 113) (i := .iconst 0) (v := gm_vi 0) (by decide +kernel) (by decide +kernel)) ?_
        refine gm_sz (fw_is (pc := 114) (k := 204) (len := 10) (e0 := 9) (x := 0) (M' := gm_uM (gm_uM (gm_uM (gm_uM (gm_uM (gm_uM (gm_uM (gm_uM (gm_uM (gm_uM M 204 0 lane) 204 1 row) 204 2 year) 204 3 (h year)) 204 4 speed) 204 5 0) 204 6 0) 204 7 0) 204 8 1) 204 9 0) (by decide +kernel) (e0a hE (k := 204) (q := ((0 : Nat), (10 : Nat))) (by decide +kernel)).1 (e0a hE (k := 204) (q := ((0 : Nat), (10 : Nat))) (by decide +kernel)).2 (by decide) ⟨by omega, by omega⟩ rfl) ?_
        exact gm_r_void (pc := 115) (by decide +kernel) (by decide +kernel) (q4 h70 h83 h106)
      · have h106 : ¬ (N 12) ≤ lane := h106
        refine gm_sz (gm_p_const (pc := 109) (i := .iconst 1) (v := gm_vi 1) (by decide +kernel) (by decide +kernel)) ?_
        refine gm_sz (gm_p_goto (pc := 110) (off := 4) (by decide +kernel) (by decide)) ?_
        refine gm_sz (fw_is (pc := 114) (k := 204) (len := 10) (e0 := 9) (x := 1) (M' := gm_uM (gm_uM (gm_uM (gm_uM (gm_uM (gm_uM (gm_uM (gm_uM (gm_uM (gm_uM M 204 0 lane) 204 1 row) 204 2 year) 204 3 (h year)) 204 4 speed) 204 5 0) 204 6 0) 204 7 0) 204 8 1) 204 9 1) (by decide +kernel) (e0a hE (k := 204) (q := ((0 : Nat), (10 : Nat))) (by decide +kernel)).1 (e0a hE (k := 204) (q := ((0 : Nat), (10 : Nat))) (by decide +kernel)).2 (by decide) ⟨by omega, by omega⟩ rfl) ?_
        exact gm_r_void (pc := 115) (by decide +kernel) (by decide +kernel) (q5 h70 h83 h106)
theorem ln_sf (hd : 1 ≤ d) (hE : E0 n K R) (hT : TI N h sp M) (hN : NR N) (h1 : lane = -1) (h2 : 0 ≤ year ∧ year < 300) (hq : Q (.inl none) n K R (ic_fa M N h lane row year speed)) : gm_Wp X LX d bc bs 39 0 (gm_ent 39 [gm_vr 200, gm_vi lane, gm_vi row, gm_vi year, gm_vi speed]) [] n K R M Q := by
  unfold ic_fa at hq
  refine ln_sf0 hd hE hT hN h1 h2 (fun g0 g1 => ?_) (fun g0 g1 => ?_) (fun g0 g1 g2 => ?_) (fun g0 g1 g2 => ?_) (fun g0 g1 g2 => ?_) (fun g0 g1 g2 => ?_)
  · rw [if_pos (by omega), if_neg (by omega)] at hq
    exact hq
  · rw [if_pos (by omega), if_pos (by omega)] at hq
    exact hq
  · rw [if_neg (by omega), if_neg (by omega)] at hq
    exact hq
  · rw [if_neg (by omega), if_pos (by omega)] at hq
    exact hq
  · rw [if_pos (by omega), if_neg (by omega)] at hq
    exact hq
  · rw [if_pos (by omega), if_pos (by omega)] at hq
    exact hq
theorem ln_sf0m (hd : 1 ≤ d) (hE : E0 n K R) (hT : TI N h sp M) (hN : NR N) (h1 : lane = -1) (h2 : year = -1) (q0 : lane = 0 → (N 12) ≤ lane → Q (.inl (none)) n K R (gm_uM (gm_uM (gm_uM (gm_uM (gm_uM (gm_uM (gm_uM (gm_uM (gm_uM (gm_uM M 204 0 lane) 204 1 row) 204 2 year) 204 3 0) 204 4 speed) 204 5 0) 204 6 0) 204 7 0) 204 8 1) 204 9 0)) (q1 : lane = 0 → ¬ (N 12) ≤ lane → Q (.inl (none)) n K R (gm_uM (gm_uM (gm_uM (gm_uM (gm_uM (gm_uM (gm_uM (gm_uM (gm_uM (gm_uM M 204 0 lane) 204 1 row) 204 2 year) 204 3 0) 204 4 speed) 204 5 0) 204 6 0) 204 7 0) 204 8 1) 204 9 1)) (q2 : ¬ lane = 0 → ¬ lane = ((N 0) - 1) → (N 12) ≤ lane → Q (.inl (none)) n K R (gm_uM (gm_uM (gm_uM (gm_uM (gm_uM (gm_uM (gm_uM (gm_uM (gm_uM (gm_uM M 204 0 lane) 204 1 row) 204 2 year) 204 3 0) 204 4 speed) 204 5 0) 204 6 0) 204 7 0) 204 8 0) 204 9 0)) (q3 : ¬ lane = 0 → ¬ lane = ((N 0) - 1) → ¬ (N 12) ≤ lane → Q (.inl (none)) n K R (gm_uM (gm_uM (gm_uM (gm_uM (gm_uM (gm_uM (gm_uM (gm_uM (gm_uM (gm_uM M 204 0 lane) 204 1 row) 204 2 year) 204 3 0) 204 4 speed) 204 5 0) 204 6 0) 204 7 0) 204 8 0) 204 9 1)) (q4 : ¬ lane = 0 → lane = ((N 0) - 1) → (N 12) ≤ lane → Q (.inl (none)) n K R (gm_uM (gm_uM (gm_uM (gm_uM (gm_uM (gm_uM (gm_uM (gm_uM (gm_uM (gm_uM M 204 0 lane) 204 1 row) 204 2 year) 204 3 0) 204 4 speed) 204 5 0) 204 6 0) 204 7 0) 204 8 1) 204 9 0)) (q5 : ¬ lane = 0 → lane = ((N 0) - 1) → ¬ (N 12) ≤ lane → Q (.inl (none)) n K R (gm_uM (gm_uM (gm_uM (gm_uM (gm_uM (gm_uM (gm_uM (gm_uM (gm_uM (gm_uM M 204 0 lane) 204 1 row) 204 2 year) 204 3 0) 204 4 speed) 204 5 0) 204 6 0) 204 7 0) 204 8 1) 204 9 1)) : gm_Wp X LX d bc bs 39 0 (gm_ent 39 [gm_vr 200, gm_vi lane, gm_vi row, gm_vi year, gm_vi speed]) [] n K R M Q := by
  obtain ⟨⟨⟨a0, b0⟩, ⟨a1, b1⟩, ⟨a10, b10⟩, ⟨a11, b11⟩, ⟨a12, b12⟩, a9, b9⟩, ⟨⟨a2, b2⟩, ⟨a5, b5⟩, ⟨a3, b3⟩, ⟨a4, b4⟩, ⟨a6, b6⟩, ⟨a14, b14⟩, ⟨a7, b7⟩, a13, b13⟩, rF, rP, rL⟩ := id hN
  refine gm_sz (gm_p_load (pc := 0) (i := .aload_n 0) (sr := 2) (j := 0) (by decide +kernel) rfl rfl rfl) ?_
  refine gm_sz (fw_gr (pc := 1) (ix := 23) (ci := 4) (j := 4) (r := 204) (by decide +kernel) (e0k hE (k := 200) (c := 4) (by decide +kernel)) (by decide +kernel) (by decide +kernel) (e0r hE (k := 200) (j := 4) (r := 204) (by decide +kernel))) ?_
  refine gm_sz (gm_p_const (pc := 4) (i := .iconst 0) (v := gm_vi 0) (by decide +kernel) (by decide +kernel)) ?_
  refine gm_sz (gm_p_load (pc := 5) (i := .iload_n 1) (sr := 0) (j := 1) (by decide +kernel) rfl rfl rfl) ?_
  refine gm_sz (fw_is (pc := 6) (k := 204) (len := 10) (e0 := 0) (x := lane) (M' := gm_uM M 204 0 lane) (by decide +kernel) (e0a hE (k := 204) (q := ((0 : Nat), (10 : Nat))) (by decide +kernel)).1 (e0a hE (k := 204) (q := ((0 : Nat), (10 : Nat))) (by decide +kernel)).2 (by decide) ⟨by omega, by omega⟩ rfl) ?_
  refine gm_sz (gm_p_load (pc := 7) (i := .aload_n 0) (sr := 2) (j := 0) (by decide +kernel) rfl rfl rfl) ?_
  refine gm_sz (fw_gr (pc := 8) (ix := 23) (ci := 4) (j := 4) (r := 204) (by decide +kernel) (e0k hE (k := 200) (c := 4) (by decide +kernel)) (by decide +kernel) (by decide +kernel) (e0r hE (k := 200) (j := 4) (r := 204) (by decide +kernel))) ?_
  refine gm_sz (gm_p_const (pc := 11) (i := .iconst 1) (v := gm_vi 1) (by decide +kernel) (by decide +kernel)) ?_
  refine gm_sz (gm_p_load (pc := 12) (i := .iload_n 2) (sr := 0) (j := 2) (by decide +kernel) rfl rfl rfl) ?_
  refine gm_sz (fw_is (pc := 13) (k := 204) (len := 10) (e0 := 1) (x := row) (M' := gm_uM (gm_uM M 204 0 lane) 204 1 row) (by decide +kernel) (e0a hE (k := 204) (q := ((0 : Nat), (10 : Nat))) (by decide +kernel)).1 (e0a hE (k := 204) (q := ((0 : Nat), (10 : Nat))) (by decide +kernel)).2 (by decide) ⟨by omega, by omega⟩ rfl) ?_
  refine gm_sz (gm_p_load (pc := 14) (i := .aload_n 0) (sr := 2) (j := 0) (by decide +kernel) rfl rfl rfl) ?_
  refine gm_sz (fw_gr (pc := 15) (ix := 23) (ci := 4) (j := 4) (r := 204) (by decide +kernel) (e0k hE (k := 200) (c := 4) (by decide +kernel)) (by decide +kernel) (by decide +kernel) (e0r hE (k := 200) (j := 4) (r := 204) (by decide +kernel))) ?_
  refine gm_sz (gm_p_const (pc := 18) (i := .iconst 2) (v := gm_vi 2) (by decide +kernel) (by decide +kernel)) ?_
  refine gm_sz (gm_p_load (pc := 19) (i := .iload_n 3) (sr := 0) (j := 3) (by decide +kernel) rfl rfl rfl) ?_
  refine gm_sz (fw_is (pc := 20) (k := 204) (len := 10) (e0 := 2) (x := year) (M' := gm_uM (gm_uM (gm_uM M 204 0 lane) 204 1 row) 204 2 year) (by decide +kernel) (e0a hE (k := 204) (q := ((0 : Nat), (10 : Nat))) (by decide +kernel)).1 (e0a hE (k := 204) (q := ((0 : Nat), (10 : Nat))) (by decide +kernel)).2 (by decide) ⟨by omega, by omega⟩ rfl) ?_
  refine gm_sz (gm_p_load (pc := 21) (i := .aload_n 0) (sr := 2) (j := 0) (by decide +kernel) rfl rfl rfl) ?_
  refine gm_sz (fw_gr (pc := 22) (ix := 23) (ci := 4) (j := 4) (r := 204) (by decide +kernel) (e0k hE (k := 200) (c := 4) (by decide +kernel)) (by decide +kernel) (by decide +kernel) (e0r hE (k := 200) (j := 4) (r := 204) (by decide +kernel))) ?_
  refine gm_sz (gm_p_const (pc := 25) (i := .iconst 3) (v := gm_vi 3) (by decide +kernel) (by decide +kernel)) ?_
  refine gm_sz (gm_p_load (pc := 26) (i := .aload_n 0) (sr := 2) (j := 0) (by decide +kernel) rfl rfl rfl) ?_
  refine gm_sz (gm_p_load (pc := 27) (i := .iload_n 3) (sr := 0) (j := 3) (by decide +kernel) rfl rfl rfl) ?_
  refine gm_c_virt (k := 200) (ci := 4) (mj := 34) (ix := 123) (pc := 28) (as := [gm_vi year]) (st := [gm_vi 3, gm_vr 204]) (d' := d - 1) (bc' := 0) (bs' := 0) (by decide +kernel) (by decide +kernel) (by decide +kernel) (by decide +kernel) (e0k hE (k := 200) (c := 4) (by decide +kernel)).1 (e0k hE (k := 200) (c := 4) (by decide +kernel)).2 (by decide) (by decide +kernel) (show 1 = gm_na 34 by decide +kernel) (fw_c1 fw_si) (show 2 ≤ gm_ml 34 by decide +kernel) (Nat.le_of_ble_eq_true rfl) (by omega) (Nat.zero_le _) (Nat.zero_le _) ?_
  refine ln_heat hE (ti_fr (W := [((204 : Nat), some (0 : Int)), ((204 : Nat), some (1 : Int)), ((204 : Nat), some (2 : Int))]) hT (fr_p (fr_p (fr_p fr_0 (Or.inr (by decide))) (Or.inr (by decide))) (Or.inr (by decide))) (by decide) (by decide +kernel)) hN h2 ?_
  show gm_Wp X LX d _ _ 39 31 _ [gm_vi 0, gm_vi 3, gm_vr 204] n K _ _ Q
  refine gm_sz (fw_is (pc := 31) (k := 204) (len := 10) (e0 := 3) (x := 0) (M' := gm_uM (gm_uM (gm_uM (gm_uM M 204 0 lane) 204 1 row) 204 2 year) 204 3 0) (by decide +kernel) (e0a hE (k := 204) (q := ((0 : Nat), (10 : Nat))) (by decide +kernel)).1 (e0a hE (k := 204) (q := ((0 : Nat), (10 : Nat))) (by decide +kernel)).2 (by decide) ⟨by omega, by omega⟩ rfl) ?_
  refine gm_sz (gm_p_load (pc := 32) (i := .aload_n 0) (sr := 2) (j := 0) (by decide +kernel) rfl rfl rfl) ?_
  refine gm_sz (fw_gr (pc := 33) (ix := 23) (ci := 4) (j := 4) (r := 204) (by decide +kernel) (e0k hE (k := 200) (c := 4) (by decide +kernel)) (by decide +kernel) (by decide +kernel) (e0r hE (k := 200) (j := 4) (r := 204) (by decide +kernel))) ?_
  refine gm_sz (gm_p_const (pc := 36) (i := .iconst 4) (v := gm_vi 4) (by decide +kernel) (by decide +kernel)) ?_
  refine gm_sz (gm_p_load (pc := 37) (i := .iload 4) (sr := 0) (j := 4) (by decide +kernel) rfl rfl rfl) ?_
  refine gm_sz (fw_is (pc := 39) (k := 204) (len := 10) (e0 := 4) (x := speed) (M' := gm_uM (gm_uM (gm_uM (gm_uM (gm_uM M 204 0 lane) 204 1 row) 204 2 year) 204 3 0) 204 4 speed) (by decide +kernel) (e0a hE (k := 204) (q := ((0 : Nat), (10 : Nat))) (by decide +kernel)).1 (e0a hE (k := 204) (q := ((0 : Nat), (10 : Nat))) (by decide +kernel)).2 (by decide) ⟨by omega, by omega⟩ rfl) ?_
  refine gm_sz (gm_p_load (pc := 40) (i := .aload_n 0) (sr := 2) (j := 0) (by decide +kernel) rfl rfl rfl) ?_
  refine gm_sz (fw_gr (pc := 41) (ix := 23) (ci := 4) (j := 4) (r := 204) (by decide +kernel) (e0k hE (k := 200) (c := 4) (by decide +kernel)) (by decide +kernel) (by decide +kernel) (e0r hE (k := 200) (j := 4) (r := 204) (by decide +kernel))) ?_
  refine gm_sz (gm_p_const (pc := 44) (i := .iconst 5) (v := gm_vi 5) (by decide +kernel) (by decide +kernel)) ?_
  refine gm_sz (gm_p_const (pc := 45) (i := .iconst 0) (v := gm_vi 0) (by decide +kernel) (by decide +kernel)) ?_
  refine gm_sz (fw_is (pc := 46) (k := 204) (len := 10) (e0 := 5) (x := 0) (M' := gm_uM (gm_uM (gm_uM (gm_uM (gm_uM (gm_uM M 204 0 lane) 204 1 row) 204 2 year) 204 3 0) 204 4 speed) 204 5 0) (by decide +kernel) (e0a hE (k := 204) (q := ((0 : Nat), (10 : Nat))) (by decide +kernel)).1 (e0a hE (k := 204) (q := ((0 : Nat), (10 : Nat))) (by decide +kernel)).2 (by decide) ⟨by omega, by omega⟩ rfl) ?_
  refine gm_sz (gm_p_load (pc := 47) (i := .aload_n 0) (sr := 2) (j := 0) (by decide +kernel) rfl rfl rfl) ?_
  refine gm_sz (fw_gr (pc := 48) (ix := 23) (ci := 4) (j := 4) (r := 204) (by decide +kernel) (e0k hE (k := 200) (c := 4) (by decide +kernel)) (by decide +kernel) (by decide +kernel) (e0r hE (k := 200) (j := 4) (r := 204) (by decide +kernel))) ?_
  refine gm_sz (gm_p_const (pc := 51) (i := .bipush 6) (v := gm_vi 6) (by decide +kernel) (by decide +kernel)) ?_
  refine gm_sz (gm_p_const (pc := 53) (i := .iconst 0) (v := gm_vi 0) (by decide +kernel) (by decide +kernel)) ?_
  refine gm_sz (fw_is (pc := 54) (k := 204) (len := 10) (e0 := 6) (x := 0) (M' := gm_uM (gm_uM (gm_uM (gm_uM (gm_uM (gm_uM (gm_uM M 204 0 lane) 204 1 row) 204 2 year) 204 3 0) 204 4 speed) 204 5 0) 204 6 0) (by decide +kernel) (e0a hE (k := 204) (q := ((0 : Nat), (10 : Nat))) (by decide +kernel)).1 (e0a hE (k := 204) (q := ((0 : Nat), (10 : Nat))) (by decide +kernel)).2 (by decide) ⟨by omega, by omega⟩ rfl) ?_
  refine gm_sz (gm_p_load (pc := 55) (i := .aload_n 0) (sr := 2) (j := 0) (by decide +kernel) rfl rfl rfl) ?_
  refine gm_sz (fw_gr (pc := 56) (ix := 23) (ci := 4) (j := 4) (r := 204) (by decide +kernel) (e0k hE (k := 200) (c := 4) (by decide +kernel)) (by decide +kernel) (by decide +kernel) (e0r hE (k := 200) (j := 4) (r := 204) (by decide +kernel))) ?_
  refine gm_sz (gm_p_const (pc := 59) (i := .bipush 7) (v := gm_vi 7) (by decide +kernel) (by decide +kernel)) ?_
  refine gm_sz (gm_p_const (pc := 61) (i := .iconst 0) (v := gm_vi 0) (by decide +kernel) (by decide +kernel)) ?_
  refine gm_sz (fw_is (pc := 62) (k := 204) (len := 10) (e0 := 7) (x := 0) (M' := gm_uM (gm_uM (gm_uM (gm_uM (gm_uM (gm_uM (gm_uM (gm_uM M 204 0 lane) 204 1 row) 204 2 year) 204 3 0) 204 4 speed) 204 5 0) 204 6 0) 204 7 0) (by decide +kernel) (e0a hE (k := 204) (q := ((0 : Nat), (10 : Nat))) (by decide +kernel)).1 (e0a hE (k := 204) (q := ((0 : Nat), (10 : Nat))) (by decide +kernel)).2 (by decide) ⟨by omega, by omega⟩ rfl) ?_
  refine gm_sz (gm_p_load (pc := 63) (i := .aload_n 0) (sr := 2) (j := 0) (by decide +kernel) rfl rfl rfl) ?_
  refine gm_sz (fw_gr (pc := 64) (ix := 23) (ci := 4) (j := 4) (r := 204) (by decide +kernel) (e0k hE (k := 200) (c := 4) (by decide +kernel)) (by decide +kernel) (by decide +kernel) (e0r hE (k := 200) (j := 4) (r := 204) (by decide +kernel))) ?_
  refine gm_sz (gm_p_const (pc := 67) (i := .bipush 8) (v := gm_vi 8) (by decide +kernel) (by decide +kernel)) ?_
  refine gm_sz (gm_p_load (pc := 69) (i := .iload_n 1) (sr := 0) (j := 1) (by decide +kernel) rfl rfl rfl) ?_
  refine fw_if (cc := .eq) (pc := 70) (off := 16) (by decide +kernel) (by decide) ⟨by omega, by omega⟩ (fun h70 => ?_) (fun h70 => ?_)
  · have h70 : lane = 0 := h70
    refine gm_sz (gm_p_const (pc := 86) (i := .iconst 1) (v := gm_vi 1) (by decide +kernel) (by decide +kernel)) ?_
    refine gm_sz (gm_p_goto (pc := 87) (off := 4) (by decide +kernel) (by decide)) ?_
    refine gm_sz (fw_is (pc := 91) (k := 204) (len := 10) (e0 := 8) (x := 1) (M' := gm_uM (gm_uM (gm_uM (gm_uM (gm_uM (gm_uM (gm_uM (gm_uM (gm_uM M 204 0 lane) 204 1 row) 204 2 year) 204 3 0) 204 4 speed) 204 5 0) 204 6 0) 204 7 0) 204 8 1) (by decide +kernel) (e0a hE (k := 204) (q := ((0 : Nat), (10 : Nat))) (by decide +kernel)).1 (e0a hE (k := 204) (q := ((0 : Nat), (10 : Nat))) (by decide +kernel)).2 (by decide) ⟨by omega, by omega⟩ rfl) ?_
    refine gm_sz (gm_p_load (pc := 92) (i := .aload_n 0) (sr := 2) (j := 0) (by decide +kernel) rfl rfl rfl) ?_
    refine gm_sz (fw_gr (pc := 93) (ix := 23) (ci := 4) (j := 4) (r := 204) (by decide +kernel) (e0k hE (k := 200) (c := 4) (by decide +kernel)) (by decide +kernel) (by decide +kernel) (e0r hE (k := 200) (j := 4) (r := 204) (by decide +kernel))) ?_
    refine gm_sz (gm_p_const (pc := 96) (i := .bipush 9) (v := gm_vi 9) (by decide +kernel) (by decide +kernel)) ?_
    refine gm_sz (gm_p_load (pc := 98) (i := .iload_n 1) (sr := 0) (j := 1) (by decide +kernel) rfl rfl rfl) ?_
    refine gm_sz (gm_p_load (pc := 99) (i := .aload_n 0) (sr := 2) (j := 0) (by decide +kernel) rfl rfl rfl) ?_
    refine gm_sz (fw_gr (pc := 100) (ix := 34) (ci := 4) (j := 0) (r := 3) (by decide +kernel) (e0k hE (k := 200) (c := 4) (by decide +kernel)) (by decide +kernel) (by decide +kernel) (e0r hE (k := 200) (j := 0) (r := 3) (by decide +kernel))) ?_
    refine gm_sz (fw_gi (pc := 103) (ix := 126) (ci := 1) (j := 4) (x := N 12) (by decide +kernel) (e0k hE (k := 3) (c := 1) (by decide +kernel)) (by decide +kernel) (by decide +kernel) ((uM_ne (by omega)).trans ((uM_ne (by omega)).trans ((uM_ne (by omega)).trans ((uM_ne (by omega)).trans ((uM_ne (by omega)).trans ((uM_ne (by omega)).trans ((uM_ne (by omega)).trans ((uM_ne (by omega)).trans ((uM_ne (by omega)).trans (ti_str hT))))))))))) ?_
    refine fw_ic (cc := .ge) (pc := 106) (off := 7) (by decide +kernel) (by decide) ⟨by omega, by omega⟩ ⟨by omega, by omega⟩ (fun h106 => ?_) (fun h106 => ?_)
    · have h106 : (N 12) ≤ lane := h106
      refine gm_sz (gm_p_const (pc := 113) (i := .iconst 0) (v := gm_vi 0) (by decide +kernel) (by decide +kernel)) ?_
      refine gm_sz (fw_is (pc := 114) (k := 204) (len := 10) (e0 := 9) (x := 0) (M' := gm_uM (gm_uM (gm_uM (gm_uM (gm_uM (gm_uM (gm_uM (gm_uM (gm_uM (gm_uM M 204 0 lane) 204 1 row) 204 2 year) 204 3 0) 204 4 speed) 204 5 0) 204 6 0) 204 7 0) 204 8 1) 204 9 0) (by decide +kernel) (e0a hE (k := 204) (q := ((0 : Nat), (10 : Nat))) (by decide +kernel)).1 (e0a hE (k := 204) (q := ((0 : Nat), (10 : Nat))) (by decide +kernel)).2 (by decide) ⟨by omega, by omega⟩ rfl) ?_
      exact gm_r_void (pc := 115) (by decide +kernel) (by decide +kernel) (q0 h70 h106)
    · have h106 : ¬ (N 12) ≤ lane := h106
      refine gm_sz (gm_p_const (pc := 109) (i := .iconst 1) (v := gm_vi 1) (by decide +kernel) (by decide +kernel)) ?_
      refine gm_sz (gm_p_goto (pc := 110) (off := 4) (by decide +kernel) (by decide)) ?_
      refine gm_sz (fw_is (pc := 114) (k := 204) (len := 10) (e0 := 9) (x := 1) (M' := gm_uM (gm_uM (gm_uM (gm_uM (gm_uM (gm_uM (gm_uM (gm_uM (gm_uM (gm_uM M 204 0 lane) 204 1 row) 204 2 year) 204 3 0) 204 4 speed) 204 5 0) 204 6 0) 204 7 0) 204 8 1) 204 9 1) (by decide +kernel) (e0a hE (k := 204) (q := ((0 : Nat), (10 : Nat))) (by decide +kernel)).1 (e0a hE (k := 204) (q := ((0 : Nat), (10 : Nat))) (by decide +kernel)).2 (by decide) ⟨by omega, by omega⟩ rfl) ?_
      exact gm_r_void (pc := 115) (by decide +kernel) (by decide +kernel) (q1 h70 h106)
  · have h70 : ¬ lane = 0 := h70
    refine gm_sz (gm_p_load (pc := 73) (i := .iload_n 1) (sr := 0) (j := 1) (by decide +kernel) rfl rfl rfl) ?_
    refine gm_sz (gm_p_load (pc := 74) (i := .aload_n 0) (sr := 2) (j := 0) (by decide +kernel) rfl rfl rfl) ?_
    refine gm_sz (fw_gr (pc := 75) (ix := 34) (ci := 4) (j := 0) (r := 3) (by decide +kernel) (e0k hE (k := 200) (c := 4) (by decide +kernel)) (by decide +kernel) (by decide +kernel) (e0r hE (k := 200) (j := 0) (r := 3) (by decide +kernel))) ?_
    refine gm_sz (fw_gi (pc := 78) (ix := 82) (ci := 1) (j := 0) (x := N 0) (by decide +kernel) (e0k hE (k := 3) (c := 1) (by decide +kernel)) (by decide +kernel) (by decide +kernel) ((uM_ne (by omega)).trans ((uM_ne (by omega)).trans ((uM_ne (by omega)).trans ((uM_ne (by omega)).trans ((uM_ne (by omega)).trans ((uM_ne (by omega)).trans ((uM_ne (by omega)).trans ((uM_ne (by omega)).trans (ti_lan hT)))))))))) ?_
    refine gm_sz (gm_p_const (pc := 81) (i := .iconst 1) (v := gm_vi 1) (by decide +kernel) (by decide +kernel)) ?_
    refine gm_sz (gm_p_bin (pc := 82) (i := .isub) (f := fun x y => x - y) (by decide +kernel) rfl) ?_
    refine fw_ic (cc := .ne) (pc := 83) (off := 7) (by decide +kernel) (by decide) ⟨by omega, by omega⟩ ⟨by omega, by omega⟩ (fun h83 => ?_) (fun h83 => ?_)
    · have h83 : ¬ lane = ((N 0) - 1) := h83
      refine gm_sz (gm_p_const (pc := 90) (i := .iconst 0) (v := gm_vi 0) (by decide +kernel) (by decide +kernel)) ?_
      refine gm_sz (fw_is (pc := 91) (k := 204) (len := 10) (e0 := 8) (x := 0) (M' := gm_uM (gm_uM (gm_uM (gm_uM (gm_uM (gm_uM (gm_uM (gm_uM (gm_uM M 204 0 lane) 204 1 row) 204 2 year) 204 3 0) 204 4 speed) 204 5 0) 204 6 0) 204 7 0) 204 8 0) (by decide +kernel) (e0a hE (k := 204) (q := ((0 : Nat), (10 : Nat))) (by decide +kernel)).1 (e0a hE (k := 204) (q := ((0 : Nat), (10 : Nat))) (by decide +kernel)).2 (by decide) ⟨by omega, by omega⟩ rfl) ?_
      refine gm_sz (gm_p_load (pc := 92) (i := .aload_n 0) (sr := 2) (j := 0) (by decide +kernel) rfl rfl rfl) ?_
      refine gm_sz (fw_gr (pc := 93) (ix := 23) (ci := 4) (j := 4) (r := 204) (by decide +kernel) (e0k hE (k := 200) (c := 4) (by decide +kernel)) (by decide +kernel) (by decide +kernel) (e0r hE (k := 200) (j := 4) (r := 204) (by decide +kernel))) ?_
      refine gm_sz (gm_p_const (pc := 96) (i := .bipush 9) (v := gm_vi 9) (by decide +kernel) (by decide +kernel)) ?_
      refine gm_sz (gm_p_load (pc := 98) (i := .iload_n 1) (sr := 0) (j := 1) (by decide +kernel) rfl rfl rfl) ?_
      refine gm_sz (gm_p_load (pc := 99) (i := .aload_n 0) (sr := 2) (j := 0) (by decide +kernel) rfl rfl rfl) ?_
      refine gm_sz (fw_gr (pc := 100) (ix := 34) (ci := 4) (j := 0) (r := 3) (by decide +kernel) (e0k hE (k := 200) (c := 4) (by decide +kernel)) (by decide +kernel) (by decide +kernel) (e0r hE (k := 200) (j := 0) (r := 3) (by decide +kernel))) ?_
      refine gm_sz (fw_gi (pc := 103) (ix := 126) (ci := 1) (j := 4) (x := N 12) (by decide +kernel) (e0k hE (k := 3) (c := 1) (by decide +kernel)) (by decide +kernel) (by decide +kernel) ((uM_ne (by omega)).trans ((uM_ne (by omega)).trans ((uM_ne (by omega)).trans ((uM_ne (by omega)).trans ((uM_ne (by omega)).trans ((uM_ne (by omega)).trans ((uM_ne (by omega)).trans ((uM_ne (by omega)).trans ((uM_ne (by omega)).trans (ti_str hT))))))))))) ?_
      refine fw_ic (cc := .ge) (pc := 106) (off := 7) (by decide +kernel) (by decide) ⟨by omega, by omega⟩ ⟨by omega, by omega⟩ (fun h106 => ?_) (fun h106 => ?_)
      · have h106 : (N 12) ≤ lane := h106
        refine gm_sz (gm_p_const (pc := 113) (i := .iconst 0) (v := gm_vi 0) (by decide +kernel) (by decide +kernel)) ?_
        refine gm_sz (fw_is (pc := 114) (k := 204) (len := 10) (e0 := 9) (x := 0) (M' := gm_uM (gm_uM (gm_uM (gm_uM (gm_uM (gm_uM (gm_uM (gm_uM (gm_uM (gm_uM M 204 0 lane) 204 1 row) 204 2 year) 204 3 0) 204 4 speed) 204 5 0) 204 6 0) 204 7 0) 204 8 0) 204 9 0) (by decide +kernel) (e0a hE (k := 204) (q := ((0 : Nat), (10 : Nat))) (by decide +kernel)).1 (e0a hE (k := 204) (q := ((0 : Nat), (10 : Nat))) (by decide +kernel)).2 (by decide) ⟨by omega, by omega⟩ rfl) ?_
        exact gm_r_void (pc := 115) (by decide +kernel) (by decide +kernel) (q2 h70 h83 h106)
      · have h106 : ¬ (N 12) ≤ lane := h106
        refine gm_sz (gm_p_const (pc := 109) (i := .iconst 1) (v := gm_vi 1) (by decide +kernel) (by decide +kernel)) ?_
        refine gm_sz (gm_p_goto (pc := 110) (off := 4) (by decide +kernel) (by decide)) ?_
        refine gm_sz (fw_is (pc := 114) (k := 204) (len := 10) (e0 := 9) (x := 1) (M' := gm_uM (gm_uM (gm_uM (gm_uM (gm_uM (gm_uM (gm_uM (gm_uM (gm_uM (gm_uM M 204 0 lane) 204 1 row) 204 2 year) 204 3 0) 204 4 speed) 204 5 0) 204 6 0) 204 7 0) 204 8 0) 204 9 1) (by decide +kernel) (e0a hE (k := 204) (q := ((0 : Nat), (10 : Nat))) (by decide +kernel)).1 (e0a hE (k := 204) (q := ((0 : Nat), (10 : Nat))) (by decide +kernel)).2 (by decide) ⟨by omega, by omega⟩ rfl) ?_
        exact gm_r_void (pc := 115) (by decide +kernel) (by decide +kernel) (q3 h70 h83 h106)
    · have h83 : lane = ((N 0) - 1) := Classical.not_not.mp h83
      refine gm_sz (gm_p_const (pc := 86) (i := .iconst 1) (v := gm_vi 1) (by decide +kernel) (by decide +kernel)) ?_
      refine gm_sz (gm_p_goto (pc := 87) (off := 4) (by decide +kernel) (by decide)) ?_
      refine gm_sz (fw_is (pc := 91) (k := 204) (len := 10) (e0 := 8) (x := 1) (M' := gm_uM (gm_uM (gm_uM (gm_uM (gm_uM (gm_uM (gm_uM (gm_uM (gm_uM M 204 0 lane) 204 1 row) 204 2 year) 204 3 0) 204 4 speed) 204 5 0) 204 6 0) 204 7 0) 204 8 1) (by decide +kernel) (e0a hE (k := 204) (q := ((0 : Nat), (10 : Nat))) (by decide +kernel)).1 (e0a hE (k := 204) (q := ((0 : Nat), (10 : Nat))) (by decide +kernel)).2 (by decide) ⟨by omega, by omega⟩ rfl) ?_
      refine gm_sz (gm_p_load (pc := 92) (i := .aload_n 0) (sr := 2) (j := 0) (by decide +kernel) rfl rfl rfl) ?_
      refine gm_sz (fw_gr (pc := 93) (ix := 23) (ci := 4) (j := 4) (r := 204) (by decide +kernel) (e0k hE (k := 200) (c := 4) (by decide +kernel)) (by decide +kernel) (by decide +kernel) (e0r hE (k := 200) (j := 4) (r := 204) (by decide +kernel))) ?_
      refine gm_sz (gm_p_const (pc := 96) (i := .bipush 9) (v := gm_vi 9) (by decide +kernel) (by decide +kernel)) ?_
      refine gm_sz (gm_p_load (pc := 98) (i := .iload_n 1) (sr := 0) (j := 1) (by decide +kernel) rfl rfl rfl) ?_
      refine gm_sz (gm_p_load (pc := 99) (i := .aload_n 0) (sr := 2) (j := 0) (by decide +kernel) rfl rfl rfl) ?_
      refine gm_sz (fw_gr (pc := 100) (ix := 34) (ci := 4) (j := 0) (r := 3) (by decide +kernel) (e0k hE (k := 200) (c := 4) (by decide +kernel)) (by decide +kernel) (by decide +kernel) (e0r hE (k := 200) (j := 0) (r := 3) (by decide +kernel))) ?_
      refine gm_sz (fw_gi (pc := 103) (ix := 126) (ci := 1) (j := 4) (x := N 12) (by decide +kernel) (e0k hE (k := 3) (c := 1) (by decide +kernel)) (by decide +kernel) (by decide +kernel) ((uM_ne (by omega)).trans ((uM_ne (by omega)).trans ((uM_ne (by omega)).trans ((uM_ne (by omega)).trans ((uM_ne (by omega)).trans ((uM_ne (by omega)).trans ((uM_ne (by omega)).trans ((uM_ne (by omega)).trans ((uM_ne (by omega)).trans (ti_str hT))))))))))) ?_
      refine fw_ic (cc := .ge) (pc := 106) (off := 7) (by decide +kernel) (by decide) ⟨by omega, by omega⟩ ⟨by omega, by omega⟩ (fun h106 => ?_) (fun h106 => ?_)
      · have h106 : (N 12) ≤ lane := h106
        refine gm_sz (gm_p_const (pc := 113) (i := .iconst 0) (v := gm_vi 0) (by decide +kernel) (by decide +kernel)) ?_
        refine gm_sz (fw_is (pc := 114) (k := 204) (len := 10) (e0 := 9) (x := 0) (M' := gm_uM (gm_uM (gm_uM (gm_uM (gm_uM (gm_uM (gm_uM (gm_uM (gm_uM (gm_uM M 204 0 lane) 204 1 row) 204 2 year) 204 3 0) 204 4 speed) 204 5 0) 204 6 0) 204 7 0) 204 8 1) 204 9 0) (by decide +kernel) (e0a hE (k := 204) (q := ((0 : Nat), (10 : Nat))) (by decide +kernel)).1 (e0a hE (k := 204) (q := ((0 : Nat), (10 : Nat))) (by decide +kernel)).2 (by decide) ⟨by omega, by omega⟩ rfl) ?_
        exact gm_r_void (pc := 115) (by decide +kernel) (by decide +kernel) (q4 h70 h83 h106)
      · have h106 : ¬ (N 12) ≤ lane := h106
        refine gm_sz (gm_p_const (pc := 109) (i := .iconst 1) (v := gm_vi 1) (by decide +kernel) (by decide +kernel)) ?_
        refine gm_sz (gm_p_goto (pc := 110) (off := 4) (by decide +kernel) (by decide)) ?_
        refine gm_sz (fw_is (pc := 114) (k := 204) (len := 10) (e0 := 9) (x := 1) (M' := gm_uM (gm_uM (gm_uM (gm_uM (gm_uM (gm_uM (gm_uM (gm_uM (gm_uM (gm_uM M 204 0 lane) 204 1 row) 204 2 year) 204 3 0) 204 4 speed) 204 5 0) 204 6 0) 204 7 0) 204 8 1) 204 9 1) (by decide +kernel) (e0a hE (k := 204) (q := ((0 : Nat), (10 : Nat))) (by decide +kernel)).1 (e0a hE (k := 204) (q := ((0 : Nat), (10 : Nat))) (by decide +kernel)).2 (by decide) ⟨by omega, by omega⟩ rfl) ?_
        exact gm_r_void (pc := 115) (by decide +kernel) (by decide +kernel) (q5 h70 h83 h106)
theorem ln_sfm (hd : 1 ≤ d) (hE : E0 n K R) (hT : TI N h sp M) (hN : NR N) (h1 : lane = -1) (h2 : year = -1) (hm : h year = 0) (hq : Q (.inl none) n K R (ic_fa M N h lane row year speed)) : gm_Wp X LX d bc bs 39 0 (gm_ent 39 [gm_vr 200, gm_vi lane, gm_vi row, gm_vi year, gm_vi speed]) [] n K R M Q := by
  unfold ic_fa at hq
  rw [hm] at hq
  refine ln_sf0m hd hE hT hN h1 h2 (fun g0 g1 => ?_) (fun g0 g1 => ?_) (fun g0 g1 g2 => ?_) (fun g0 g1 g2 => ?_) (fun g0 g1 g2 => ?_) (fun g0 g1 g2 => ?_)
  · rw [if_pos (by omega), if_neg (by omega)] at hq
    exact hq
  · rw [if_pos (by omega), if_pos (by omega)] at hq
    exact hq
  · rw [if_neg (by omega), if_neg (by omega)] at hq
    exact hq
  · rw [if_neg (by omega), if_pos (by omega)] at hq
    exact hq
  · rw [if_pos (by omega), if_neg (by omega)] at hq
    exact hq
  · rw [if_pos (by omega), if_pos (by omega)] at hq
    exact hq
theorem ln_rc (hd : 1 ≤ d) (hE : E0 n K R) (hb : gm_ir (M 200 6)) (h0 : -100000 ≤ cell ∧ cell < 0) (hq : ∀ M2, fr [((200 : Nat), some (6 : Int)), ((205 : Nat), none)] M M2 → M2 200 6 = 0 → (∀ c, 0 ≤ c → c < 178200 → kv M2 c = kv M c) → Q (.inl (some (gm_vi 31))) n K R M2) : gm_Wp X LX d bc bs 37 0 (gm_ent 37 [gm_vr 200, gm_vi cell]) [] n K R M Q := by
  refine gm_sz (gm_p_load (pc := 0) (i := .aload_n 0) (sr := 2) (j := 0) (by decide +kernel) rfl rfl rfl) ?_
  refine gm_sz (fw_gi (pc := 1) (ix := 30) (ci := 4) (j := 6) (x := M 200 6) (by decide +kernel) (e0k hE (k := 200) (c := 4) (by decide +kernel)) (by decide +kernel) (by decide +kernel) rfl) ?_
  refine fw_if (cc := .eq) (pc := 4) (off := 18) (by decide +kernel) (by decide) hb (fun h4 => ?_) (fun h4 => ?_)
  · have h4 : (M 200 6) = 0 := h4
    refine gm_sz (gm_p_load (pc := 22) (i := .iload_n 1) (sr := 0) (j := 1) (by decide +kernel) rfl rfl rfl) ?_
    refine gm_sz (gm_p_const (pc := 23) (i := .bipush 12) (v := gm_vi 12) (by decide +kernel) (by decide +kernel)) ?_
    refine gm_sz (gm_p_div (pc := 25) (by decide +kernel) (by decide)) ?_
    refine gm_sz (gm_p_stor (pc := 26) (i := .istore_n 2) (sr := 0) (j := 2) (by decide +kernel) rfl (show 3 ≤ _ from Nat.le_of_ble_eq_true rfl) rfl) ?_
    refine gm_sz (gm_p_load (pc := 27) (i := .iload_n 1) (sr := 0) (j := 1) (by decide +kernel) rfl rfl rfl) ?_
    refine fw_ift (cc := .lt) (pc := 28) (off := 12) (by decide +kernel) (by decide) ⟨by omega, by omega⟩ (show cell < 0 by omega) ?_
    refine gm_sz (gm_p_const (pc := 40) (i := .bipush 31) (v := gm_vi 31) (by decide +kernel) (by decide +kernel)) ?_
    have q := hq M fr_0 h4 (fun _ _ _ => rfl)
    exact gm_r_int (pc := 42) (by decide +kernel) (Or.inl (by decide +kernel)) q
  · have h4 : ¬ (M 200 6) = 0 := h4
    refine gm_sz (gm_p_load (pc := 7) (i := .aload_n 0) (sr := 2) (j := 0) (by decide +kernel) rfl rfl rfl) ?_
    refine gm_sz (fw_gr (pc := 8) (ix := 26) (ci := 4) (j := 5) (r := 205) (by decide +kernel) (e0k hE (k := 200) (c := 4) (by decide +kernel)) (by decide +kernel) (by decide +kernel) (e0r hE (k := 200) (j := 5) (r := 205) (by decide +kernel))) ?_
    refine gm_sz (gm_p_ldcl (pc := 11) (ix := 116) (v := (-1)) (by decide +kernel) (by decide +kernel)) ?_
    refine gm_c_stat2 (mj := 38) (ix := 118) (pc := 14) (u0 := gm_vr 205) (u1 := gm_vl (-1)) (st := []) (d' := d - 1) (bc' := 0) (bs' := 0) (by decide +kernel) (by decide +kernel) (by decide +kernel) (by decide +kernel) (show 2 = gm_na 38 by decide +kernel) fw_sr (show 3 ≤ gm_ml 38 by decide +kernel) (Nat.le_of_ble_eq_true rfl) (by omega) (Nat.zero_le _) (Nat.zero_le _) ?_
    refine fl_c38 (e0a hE (k := 205) (q := ((2 : Nat), (14850 : Nat))) (by decide +kernel)) (by decide) ?_
    show gm_Wp X LX d _ _ 37 17 _ [] n K _ _ Q
    refine gm_sz (gm_p_load (pc := 17) (i := .aload_n 0) (sr := 2) (j := 0) (by decide +kernel) rfl rfl rfl) ?_
    refine gm_sz (gm_p_const (pc := 18) (i := .iconst 0) (v := gm_vi 0) (by decide +kernel) (by decide +kernel)) ?_
    refine gm_sz (fw_pz (pc := 19) (ix := 30) (ci := 4) (j := 6) (M' := gm_uM (gm_fil M 205 ((14850 : Nat) : Int) (-1)) 200 6 0) (by decide +kernel) (e0k hE (k := 200) (c := 4) (by decide +kernel)) (by decide +kernel) (by decide +kernel) (by decide +kernel) (Or.inl rfl) rfl) ?_
    refine gm_sz (gm_p_load (pc := 22) (i := .iload_n 1) (sr := 0) (j := 1) (by decide +kernel) rfl rfl rfl) ?_
    refine gm_sz (gm_p_const (pc := 23) (i := .bipush 12) (v := gm_vi 12) (by decide +kernel) (by decide +kernel)) ?_
    refine gm_sz (gm_p_div (pc := 25) (by decide +kernel) (by decide)) ?_
    refine gm_sz (gm_p_stor (pc := 26) (i := .istore_n 2) (sr := 0) (j := 2) (by decide +kernel) rfl (show 3 ≤ _ from Nat.le_of_ble_eq_true rfl) rfl) ?_
    refine gm_sz (gm_p_load (pc := 27) (i := .iload_n 1) (sr := 0) (j := 1) (by decide +kernel) rfl rfl rfl) ?_
    refine fw_ift (cc := .lt) (pc := 28) (off := 12) (by decide +kernel) (by decide) ⟨by omega, by omega⟩ (show cell < 0 by omega) ?_
    refine gm_sz (gm_p_const (pc := 40) (i := .bipush 31) (v := gm_vi 31) (by decide +kernel) (by decide +kernel)) ?_
    have k9 : ∀ c, 0 ≤ c → c < 178200 → kv (gm_uM (gm_fil M 205 ((14850 : Nat) : Int) (-1)) 200 6 0) c = kv M c := fun c c0 c1 => by
      obtain ⟨k, hk, -⟩ := sh12_s (c := c % 12) ⟨by omega, by omega⟩
      have e6 : gm_uM (gm_fil M 205 ((14850 : Nat) : Int) (-1)) 200 6 0 200 6 = 0 := uM_at
      have e5 : gm_uM (gm_fil M 205 ((14850 : Nat) : Int) (-1)) 200 6 0 205 (c / 12) = -1 := ((uM_ne (by omega)).trans (gm_fil_in (by omega) (by omega)))
      unfold kv
      rw [if_pos e6, if_neg h4, e5]
      exact fld_m1 hk
    have q := hq (gm_uM (gm_fil M 205 ((14850 : Nat) : Int) (-1)) 200 6 0) (fr_p (fr_t fr_0 gm_fil_fr (by decide)) (Or.inr (by decide))) uM_at k9
    exact gm_r_int (pc := 42) (by decide +kernel) (Or.inl (by decide +kernel)) q
theorem ln_kp (hE : E0 n K R) (h0 : -100000 ≤ cell ∧ cell < 0) (hq : Q (.inl none) n K R M) : gm_Wp X LX d bc bs 42 0 (gm_ent 42 [gm_vr 200, gm_vi cell, gm_vi f]) [] n K R M Q := by
  refine gm_sz (gm_p_load (pc := 0) (i := .iload_n 1) (sr := 0) (j := 1) (by decide +kernel) rfl rfl rfl) ?_
  refine gm_sz (gm_p_const (pc := 1) (i := .bipush 12) (v := gm_vi 12) (by decide +kernel) (by decide +kernel)) ?_
  refine gm_sz (gm_p_div (pc := 3) (by decide +kernel) (by decide)) ?_
  refine gm_sz (gm_p_stor (pc := 4) (i := .istore_n 3) (sr := 0) (j := 3) (by decide +kernel) rfl (show 4 ≤ _ from Nat.le_of_ble_eq_true rfl) rfl) ?_
  refine gm_sz (gm_p_load (pc := 5) (i := .iload_n 1) (sr := 0) (j := 1) (by decide +kernel) rfl rfl rfl) ?_
  refine fw_ift (cc := .lt) (pc := 6) (off := 53) (by decide +kernel) (by decide) ⟨by omega, by omega⟩ (show cell < 0 by omega) ?_
  exact gm_r_void (pc := 59) (by decide +kernel) (by decide +kernel) hq
theorem ic_fln (hE : E0 n K R) (hL : LE n K R NC) (hlw : R 3 ((8 : Nat) : Int) = 246) (hN : NR N) : ∀ (d bc bs : Nat) (M : gm_M) (Q : gm_Q) (lane row year : Int), 12 ≤ d → lane = -1 → -1 ≤ row ∧ row < 99 → 0 ≤ year ∧ year < 300 → TI N h sp M → (LB NC C Ln m M ∧ KFL N φ M) → (∀ M2 v, fr [((200 : Nat), some (6 : Int)), ((204 : Nat), none), ((205 : Nat), none)] M M2 → (LB NC C Ln m M2 ∧ KFL N φ M2) → Q (.inl (some (gm_vi v))) n K R M2) → gm_Wp X LX d bc bs 35 0 (gm_ent 35 [gm_vr 200, gm_vi lane, gm_vi row, gm_vi year]) [] n K R M Q := by
  intro d bc bs M Q lane row year hd hl h2 h3 hT hI hq
  obtain ⟨hB, ⟨k6, k7⟩, hk⟩ := hI
  have hB9 := lb_lines hB
  obtain ⟨⟨⟨a0, b0⟩, ⟨a1, b1⟩, ⟨a10, b10⟩, ⟨a11, b11⟩, ⟨a12, b12⟩, a9, b9⟩, ⟨⟨a2, b2⟩, ⟨a5, b5⟩, ⟨a3, b3⟩, ⟨a4, b4⟩, ⟨a6, b6⟩, ⟨a14, b14⟩, ⟨a7, b7⟩, a13, b13⟩, rF, rP, rL⟩ := id hN
  refine gm_sz (gm_p_load (pc := 0) (i := .aload_n 0) (sr := 2) (j := 0) (by decide +kernel) rfl rfl rfl) ?_
  refine gm_sz (gm_p_load (pc := 1) (i := .iload_n 1) (sr := 0) (j := 1) (by decide +kernel) rfl rfl rfl) ?_
  refine gm_sz (gm_p_load (pc := 2) (i := .iload_n 2) (sr := 0) (j := 2) (by decide +kernel) rfl rfl rfl) ?_
  refine gm_c_virt (k := 200) (ci := 4) (mj := 36) (ix := 90) (pc := 3) (as := [gm_vi lane, gm_vi row]) (st := []) (d' := d - 1) (bc' := 0) (bs' := 0) (by decide +kernel) (by decide +kernel) (by decide +kernel) (by decide +kernel) (e0k hE (k := 200) (c := 4) (by decide +kernel)).1 (e0k hE (k := 200) (c := 4) (by decide +kernel)).2 (by decide) (by decide +kernel) (show 2 = gm_na 36 by decide +kernel) (fw_c2 fw_si fw_si) (show 3 ≤ gm_ml 36 by decide +kernel) (Nat.le_of_ble_eq_true rfl) (by omega) (Nat.zero_le _) (Nat.zero_le _) ?_
  refine ln_spd hE hT hN hl ⟨by omega, by omega⟩ ?_
  show gm_Wp X LX d _ _ 35 6 _ [gm_vi 0] n K _ _ Q
  refine gm_sz (gm_p_stor (pc := 6) (i := .istore 4) (sr := 0) (j := 4) (by decide +kernel) rfl (show 5 ≤ _ from Nat.le_of_ble_eq_true rfl) rfl) ?_
  refine gm_sz (gm_p_load (pc := 8) (i := .aload_n 0) (sr := 2) (j := 0) (by decide +kernel) rfl rfl rfl) ?_
  refine gm_sz (fw_gr (pc := 9) (ix := 34) (ci := 4) (j := 0) (r := 3) (by decide +kernel) (e0k hE (k := 200) (c := 4) (by decide +kernel)) (by decide +kernel) (by decide +kernel) (e0r hE (k := 200) (j := 0) (r := 3) (by decide +kernel))) ?_
  refine gm_sz (fw_gr (pc := 12) (ix := 93) (ci := 1) (j := 8) (r := 246) (by decide +kernel) (e0k hE (k := 3) (c := 1) (by decide +kernel)) (by decide +kernel) (by decide +kernel) hlw) ?_
  refine gm_b_nnul (pc := 15) (off := 6) (k0 := 246) (by decide) (by decide +kernel) (by decide) (fun _ => ?_) (fun h => absurd h (by decide))
  refine gm_sz (gm_p_load (pc := 21) (i := .iload_n 1) (sr := 0) (j := 1) (by decide +kernel) rfl rfl rfl) ?_
  refine gm_sz (gm_p_const (pc := 22) (i := .bipush 99) (v := gm_vi 99) (by decide +kernel) (by decide +kernel)) ?_
  refine gm_sz (gm_p_bin (pc := 24) (i := .imul) (f := fun x y => x * y) (by decide +kernel) rfl) ?_
  refine gm_sz (gm_p_load (pc := 25) (i := .iload_n 2) (sr := 0) (j := 2) (by decide +kernel) rfl rfl rfl) ?_
  refine gm_sz (gm_p_bin (pc := 26) (i := .iadd) (f := fun x y => x + y) (by decide +kernel) rfl) ?_
  refine gm_sz (gm_p_const (pc := 27) (i := .sipush 300) (v := gm_vi 300) (by decide +kernel) (by decide +kernel)) ?_
  refine gm_sz (gm_p_bin (pc := 30) (i := .imul) (f := fun x y => x * y) (by decide +kernel) rfl) ?_
  refine gm_sz (gm_p_load (pc := 31) (i := .iload_n 3) (sr := 0) (j := 3) (by decide +kernel) rfl rfl rfl) ?_
  refine gm_sz (gm_p_bin (pc := 32) (i := .iadd) (f := fun x y => x + y) (by decide +kernel) rfl) ?_
  refine gm_sz (gm_p_stor (pc := 33) (i := .istore 5) (sr := 0) (j := 5) (by decide +kernel) rfl (show 6 ≤ _ from Nat.le_of_ble_eq_true rfl) rfl) ?_
  refine gm_sz (gm_p_load (pc := 35) (i := .aload_n 0) (sr := 2) (j := 0) (by decide +kernel) rfl rfl rfl) ?_
  refine gm_sz (gm_p_load (pc := 36) (i := .iload 5) (sr := 0) (j := 5) (by decide +kernel) rfl rfl rfl) ?_
  refine gm_c_virt (k := 200) (ci := 4) (mj := 37) (ix := 97) (pc := 38) (as := [gm_vi ((((lane * 99) + row) * 300) + year)]) (st := []) (d' := d - 1) (bc' := 0) (bs' := 0) (by decide +kernel) (by decide +kernel) (by decide +kernel) (by decide +kernel) (e0k hE (k := 200) (c := 4) (by decide +kernel)).1 (e0k hE (k := 200) (c := 4) (by decide +kernel)).2 (by decide) (by decide +kernel) (show 1 = gm_na 37 by decide +kernel) (fw_c1 fw_si) (show 2 ≤ gm_ml 37 by decide +kernel) (Nat.le_of_ble_eq_true rfl) (by omega) (Nat.zero_le _) (Nat.zero_le _) ?_
  refine ln_rc (cell := (((lane * 99) + row) * 300) + year) (by omega) hE ⟨by omega, by omega⟩ ⟨by omega, by omega⟩ (fun M37 hf37 h637 hk37 => ?_)
  show gm_Wp X LX d _ _ 35 41 _ [gm_vi 31] n K _ _ Q
  refine gm_sz (gm_p_stor (pc := 41) (i := .istore 6) (sr := 0) (j := 6) (by decide +kernel) rfl (show 7 ≤ _ from Nat.le_of_ble_eq_true rfl) rfl) ?_
  refine gm_sz (gm_p_load (pc := 43) (i := .iload 6) (sr := 0) (j := 6) (by decide +kernel) rfl rfl rfl) ?_
  refine gm_sz (gm_p_const (pc := 45) (i := .bipush 31) (v := gm_vi 31) (by decide +kernel) (by decide +kernel)) ?_
  refine fw_icfd (cc := .ne) (pc := 47) (off := 48) (by decide +kernel) (by decide) ⟨by decide, by decide⟩ ⟨by decide, by decide⟩ (by decide) ?_
  refine gm_sz (gm_p_load (pc := 50) (i := .aload_n 0) (sr := 2) (j := 0) (by decide +kernel) rfl rfl rfl) ?_
  refine gm_sz (gm_p_load (pc := 51) (i := .iload_n 1) (sr := 0) (j := 1) (by decide +kernel) rfl rfl rfl) ?_
  refine gm_sz (gm_p_load (pc := 52) (i := .iload_n 2) (sr := 0) (j := 2) (by decide +kernel) rfl rfl rfl) ?_
  refine gm_sz (gm_p_load (pc := 53) (i := .iload_n 3) (sr := 0) (j := 3) (by decide +kernel) rfl rfl rfl) ?_
  refine gm_sz (gm_p_load (pc := 54) (i := .iload 4) (sr := 0) (j := 4) (by decide +kernel) rfl rfl rfl) ?_
  refine gm_c_virt (k := 200) (ci := 4) (mj := 39) (ix := 101) (pc := 56) (as := [gm_vi lane, gm_vi row, gm_vi year, gm_vi 0]) (st := []) (d' := d - 1) (bc' := 0) (bs' := 0) (by decide +kernel) (by decide +kernel) (by decide +kernel) (by decide +kernel) (e0k hE (k := 200) (c := 4) (by decide +kernel)).1 (e0k hE (k := 200) (c := 4) (by decide +kernel)).2 (by decide) (by decide +kernel) (show 4 = gm_na 39 by decide +kernel) (fw_c4 fw_si fw_si fw_si fw_si) (show 5 ≤ gm_ml 39 by decide +kernel) (Nat.le_of_ble_eq_true rfl) (by omega) (Nat.zero_le _) (Nat.zero_le _) ?_
  refine ln_sf (by omega) hE (ti_fr (W := [((200 : Nat), some (6 : Int)), ((205 : Nat), none)]) hT (fr_t fr_0 hf37 (by decide)) (by decide) (by decide +kernel)) hN hl ⟨by omega, by omega⟩ ?_
  show gm_Wp X LX d _ _ 35 59 _ [] n K _ _ Q
  refine gm_sz (gm_p_const (pc := 59) (i := .iconst 0) (v := gm_vi 0) (by decide +kernel) (by decide +kernel)) ?_
  refine gm_sz (gm_p_const (pc := 60) (i := .bipush 30) (v := gm_vi 30) (by decide +kernel) (by decide +kernel)) ?_
  refine gm_sz (gm_p_load (pc := 62) (i := .iload 4) (sr := 0) (j := 4) (by decide +kernel) rfl rfl rfl) ?_
  refine gm_sz (gm_p_load (pc := 64) (i := .aload_n 0) (sr := 2) (j := 0) (by decide +kernel) rfl rfl rfl) ?_
  refine gm_sz (fw_gr (pc := 65) (ix := 34) (ci := 4) (j := 0) (r := 3) (by decide +kernel) (e0k hE (k := 200) (c := 4) (by decide +kernel)) (by decide +kernel) (by decide +kernel) (e0r hE (k := 200) (j := 0) (r := 3) (by decide +kernel))) ?_
  refine gm_sz (fw_gr (pc := 68) (ix := 93) (ci := 1) (j := 8) (r := 246) (by decide +kernel) (e0k hE (k := 3) (c := 1) (by decide +kernel)) (by decide +kernel) (by decide +kernel) hlw) ?_
  refine gm_sz (gm_p_load (pc := 71) (i := .aload_n 0) (sr := 2) (j := 0) (by decide +kernel) rfl rfl rfl) ?_
  refine gm_sz (fw_gr (pc := 72) (ix := 23) (ci := 4) (j := 4) (r := 204) (by decide +kernel) (e0k hE (k := 200) (c := 4) (by decide +kernel)) (by decide +kernel) (by decide +kernel) (e0r hE (k := 200) (j := 4) (r := 204) (by decide +kernel))) ?_
  refine gm_c_virt (k := 246) (ci := 10) (mj := 40) (ix := 105) (pc := 75) (as := [gm_vr 204]) (st := [gm_vi 0, gm_vi 30, gm_vi 0]) (d' := d - 1) (bc' := 0) (bs' := 0) (by decide +kernel) (by decide +kernel) (by decide +kernel) (by decide +kernel) (lk6 hL).1 (lk6 hL).2 (by decide) (by decide +kernel) (show 1 = gm_na 40 by decide +kernel) (fw_c1 fw_sr) (show 2 ≤ gm_ml 40 by decide +kernel) (Nat.le_of_ble_eq_true rfl) (by omega) (Nat.zero_le _) (Nat.zero_le _) ?_
  refine fa_c40 (F := (fcts N h lane row year 0 0 0 0)) (C := C) (L := Ln) (m := m) (by omega) hE hL (lb_fr (W := [((200 : Nat), some (6 : Int)), ((205 : Nat), none), ((204 : Nat), some (0 : Int)), ((204 : Nat), some (1 : Int)), ((204 : Nat), some (2 : Int)), ((204 : Nat), some (3 : Int)), ((204 : Nat), some (4 : Int)), ((204 : Nat), some (5 : Int)), ((204 : Nat), some (6 : Int)), ((204 : Nat), some (7 : Int)), ((204 : Nat), some (8 : Int)), ((204 : Nat), some (9 : Int))]) (fr_p (fr_p (fr_p (fr_p (fr_p (fr_p (fr_p (fr_p (fr_p (fr_p (fr_t fr_0 hf37 (by decide)) (Or.inr (by decide))) (Or.inr (by decide))) (Or.inr (by decide))) (Or.inr (by decide))) (Or.inr (by decide))) (Or.inr (by decide))) (Or.inr (by decide))) (Or.inr (by decide))) (Or.inr (by decide))) (Or.inr (by decide))) (by decide) hB).1 (fun j j0 j1 => ic_fa_s j j0 j1) (lb_fr (W := [((200 : Nat), some (6 : Int)), ((205 : Nat), none), ((204 : Nat), some (0 : Int)), ((204 : Nat), some (1 : Int)), ((204 : Nat), some (2 : Int)), ((204 : Nat), some (3 : Int)), ((204 : Nat), some (4 : Int)), ((204 : Nat), some (5 : Int)), ((204 : Nat), some (6 : Int)), ((204 : Nat), some (7 : Int)), ((204 : Nat), some (8 : Int)), ((204 : Nat), some (9 : Int))]) (fr_p (fr_p (fr_p (fr_p (fr_p (fr_p (fr_p (fr_p (fr_p (fr_p (fr_t fr_0 hf37 (by decide)) (Or.inr (by decide))) (Or.inr (by decide))) (Or.inr (by decide))) (Or.inr (by decide))) (Or.inr (by decide))) (Or.inr (by decide))) (Or.inr (by decide))) (Or.inr (by decide))) (Or.inr (by decide))) (Or.inr (by decide))) (by decide) hB).2.1 (lb_fr (W := [((200 : Nat), some (6 : Int)), ((205 : Nat), none), ((204 : Nat), some (0 : Int)), ((204 : Nat), some (1 : Int)), ((204 : Nat), some (2 : Int)), ((204 : Nat), some (3 : Int)), ((204 : Nat), some (4 : Int)), ((204 : Nat), some (5 : Int)), ((204 : Nat), some (6 : Int)), ((204 : Nat), some (7 : Int)), ((204 : Nat), some (8 : Int)), ((204 : Nat), some (9 : Int))]) (fr_p (fr_p (fr_p (fr_p (fr_p (fr_p (fr_p (fr_p (fr_p (fr_p (fr_t fr_0 hf37 (by decide)) (Or.inr (by decide))) (Or.inr (by decide))) (Or.inr (by decide))) (Or.inr (by decide))) (Or.inr (by decide))) (Or.inr (by decide))) (Or.inr (by decide))) (Or.inr (by decide))) (Or.inr (by decide))) (Or.inr (by decide))) (by decide) hB).2.2.1 (lb_fr (W := [((200 : Nat), some (6 : Int)), ((205 : Nat), none), ((204 : Nat), some (0 : Int)), ((204 : Nat), some (1 : Int)), ((204 : Nat), some (2 : Int)), ((204 : Nat), some (3 : Int)), ((204 : Nat), some (4 : Int)), ((204 : Nat), some (5 : Int)), ((204 : Nat), some (6 : Int)), ((204 : Nat), some (7 : Int)), ((204 : Nat), some (8 : Int)), ((204 : Nat), some (9 : Int))]) (fr_p (fr_p (fr_p (fr_p (fr_p (fr_p (fr_p (fr_p (fr_p (fr_p (fr_t fr_0 hf37 (by decide)) (Or.inr (by decide))) (Or.inr (by decide))) (Or.inr (by decide))) (Or.inr (by decide))) (Or.inr (by decide))) (Or.inr (by decide))) (Or.inr (by decide))) (Or.inr (by decide))) (Or.inr (by decide))) (Or.inr (by decide))) (by decide) hB).2.2.2 ?_
  show gm_Wp X LX d _ _ 35 78 _ [gm_vi (lfas (fcts N h lane row year 0 0 0 0) C Ln m.toNat), gm_vi 0, gm_vi 30, gm_vi 0] n K _ _ Q
  have hl9 := lfas_b (C := C) (F := (fcts N h lane row year 0 0 0 0)) hB9.2 m.toNat (by omega)
  refine gm_sz (gm_p_bin (pc := 78) (i := .iadd) (f := fun x y => x + y) (by decide +kernel) rfl) ?_
  refine gm_sz (gm_p_min (pc := 79) (ix := 109) (x := 30) (y := 0 + (lfas (fcts N h lane row year 0 0 0 0) C Ln m.toNat)) (by decide +kernel) (by decide +kernel) (gm_w_id (by omega) (by omega)) (gm_w_id (by omega) (by omega)) (Nat.le_of_ble_eq_true rfl) (by omega)) ?_
  refine gm_sz (gm_p_max (pc := 82) (ix := 77) (x := 0) (y := min 30 (0 + (lfas (fcts N h lane row year 0 0 0 0) C Ln m.toNat))) (by decide +kernel) (by decide +kernel) (gm_w_id (by omega) (by omega)) (gm_w_id (by omega) (by omega)) (Nat.le_of_ble_eq_true rfl) (by omega)) ?_
  refine gm_sz (gm_p_stor (pc := 85) (i := .istore 6) (sr := 0) (j := 6) (by decide +kernel) rfl (show 7 ≤ _ from Nat.le_of_ble_eq_true rfl) rfl) ?_
  refine gm_sz (gm_p_load (pc := 87) (i := .aload_n 0) (sr := 2) (j := 0) (by decide +kernel) rfl rfl rfl) ?_
  refine gm_sz (gm_p_load (pc := 88) (i := .iload 5) (sr := 0) (j := 5) (by decide +kernel) rfl rfl rfl) ?_
  refine gm_sz (gm_p_load (pc := 90) (i := .iload 6) (sr := 0) (j := 6) (by decide +kernel) rfl rfl rfl) ?_
  refine gm_c_virt (k := 200) (ci := 4) (mj := 42) (ix := 112) (pc := 92) (as := [gm_vi ((((lane * 99) + row) * 300) + year), gm_vi (max 0 (min 30 (0 + (lfas (fcts N h lane row year 0 0 0 0) C Ln m.toNat))))]) (st := []) (d' := d - 1) (bc' := 0) (bs' := 0) (by decide +kernel) (by decide +kernel) (by decide +kernel) (by decide +kernel) (e0k hE (k := 200) (c := 4) (by decide +kernel)).1 (e0k hE (k := 200) (c := 4) (by decide +kernel)).2 (by decide) (by decide +kernel) (show 2 = gm_na 42 by decide +kernel) (fw_c2 fw_si fw_si) (show 3 ≤ gm_ml 42 by decide +kernel) (Nat.le_of_ble_eq_true rfl) (by omega) (Nat.zero_le _) (Nat.zero_le _) ?_
  refine ln_kp (cell := (((lane * 99) + row) * 300) + year) (f := max 0 (min 30 (0 + (lfas (fcts N h lane row year 0 0 0 0) C Ln m.toNat)))) hE ⟨by omega, by omega⟩ ?_
  show gm_Wp X LX d _ _ 35 95 _ [] n K _ _ Q
  refine gm_sz (gm_p_load (pc := 95) (i := .iload 6) (sr := 0) (j := 6) (by decide +kernel) rfl rfl rfl) ?_
  have ke : ∀ c, kv (gm_uM (gm_uM (gm_uM (gm_uM (gm_uM (gm_uM (gm_uM (gm_uM (gm_uM (gm_uM M37 204 0 lane) 204 1 row) 204 2 year) 204 3 (h year)) 204 4 0) 204 5 0) 204 6 0) 204 7 0) 204 8 (if lane = 0 ∨ lane = N 0 - 1 then 1 else 0)) 204 9 (if lane < N 12 then 1 else 0)) c = kv M37 c := kv_e ((uM_ne (by omega)).trans ((uM_ne (by omega)).trans ((uM_ne (by omega)).trans ((uM_ne (by omega)).trans ((uM_ne (by omega)).trans ((uM_ne (by omega)).trans ((uM_ne (by omega)).trans ((uM_ne (by omega)).trans ((uM_ne (by omega)).trans ((uM_ne (by omega)).trans rfl)))))))))) (fun j => ((uM_ne (by omega)).trans ((uM_ne (by omega)).trans ((uM_ne (by omega)).trans ((uM_ne (by omega)).trans ((uM_ne (by omega)).trans ((uM_ne (by omega)).trans ((uM_ne (by omega)).trans ((uM_ne (by omega)).trans ((uM_ne (by omega)).trans ((uM_ne (by omega)).trans rfl)))))))))))
  have kf : KFL N φ (gm_uM (gm_uM (gm_uM (gm_uM (gm_uM (gm_uM (gm_uM (gm_uM (gm_uM (gm_uM M37 204 0 lane) 204 1 row) 204 2 year) 204 3 (h year)) 204 4 0) 204 5 0) 204 6 0) 204 7 0) 204 8 (if lane = 0 ∨ lane = N 0 - 1 then 1 else 0)) 204 9 (if lane < N 12 then 1 else 0)) := by
    refine ⟨?_, fun l r y l0 l1 r0 r1 y0 y1 => ?_⟩
    · rw [show (gm_uM (gm_uM (gm_uM (gm_uM (gm_uM (gm_uM (gm_uM (gm_uM (gm_uM (gm_uM M37 204 0 lane) 204 1 row) 204 2 year) 204 3 (h year)) 204 4 0) 204 5 0) 204 6 0) 204 7 0) 204 8 (if lane = 0 ∨ lane = N 0 - 1 then 1 else 0)) 204 9 (if lane < N 12 then 1 else 0)) 200 6 = 0 from ((uM_ne (by omega)).trans ((uM_ne (by omega)).trans ((uM_ne (by omega)).trans ((uM_ne (by omega)).trans ((uM_ne (by omega)).trans ((uM_ne (by omega)).trans ((uM_ne (by omega)).trans ((uM_ne (by omega)).trans ((uM_ne (by omega)).trans ((uM_ne (by omega)).trans h637))))))))))]
      exact ⟨by decide, by decide⟩
    · rw [ke _, hk37 _ (by omega) (by omega)]
      exact hk l r y l0 l1 r0 r1 y0 y1
  exact gm_r_int (pc := 97) (by decide +kernel) (Or.inl (by decide +kernel)) (hq _ _ (fr_p (fr_p (fr_p (fr_p (fr_p (fr_p (fr_p (fr_p (fr_p (fr_p (fr_t fr_0 hf37 (by decide)) (Or.inl (by decide))) (Or.inl (by decide))) (Or.inl (by decide))) (Or.inl (by decide))) (Or.inl (by decide))) (Or.inl (by decide))) (Or.inl (by decide))) (Or.inl (by decide))) (Or.inl (by decide))) (Or.inl (by decide))) ⟨(lb_fr (W := [((200 : Nat), some (6 : Int)), ((205 : Nat), none), ((204 : Nat), some (0 : Int)), ((204 : Nat), some (1 : Int)), ((204 : Nat), some (2 : Int)), ((204 : Nat), some (3 : Int)), ((204 : Nat), some (4 : Int)), ((204 : Nat), some (5 : Int)), ((204 : Nat), some (6 : Int)), ((204 : Nat), some (7 : Int)), ((204 : Nat), some (8 : Int)), ((204 : Nat), some (9 : Int))]) (fr_p (fr_p (fr_p (fr_p (fr_p (fr_p (fr_p (fr_p (fr_p (fr_p (fr_t fr_0 hf37 (by decide)) (Or.inr (by decide))) (Or.inr (by decide))) (Or.inr (by decide))) (Or.inr (by decide))) (Or.inr (by decide))) (Or.inr (by decide))) (Or.inr (by decide))) (Or.inr (by decide))) (Or.inr (by decide))) (Or.inr (by decide))) (by decide) hB), kf⟩)
theorem ic_flm (hE : E0 n K R) (hL : LE n K R NC) (hlw : R 3 ((8 : Nat) : Int) = 246) (hN : NR N) : ∀ (d bc bs : Nat) (M : gm_M) (Q : gm_Q) (lane row year : Int), 12 ≤ d → lane = -1 → -1 ≤ row ∧ row < 99 → year = -1 → h year = 0 → TI N h sp M → (LB NC C Ln m M ∧ KFL N φ M) → (∀ M2 v, fr [((200 : Nat), some (6 : Int)), ((204 : Nat), none), ((205 : Nat), none)] M M2 → (LB NC C Ln m M2 ∧ KFL N φ M2) → Q (.inl (some (gm_vi v))) n K R M2) → gm_Wp X LX d bc bs 35 0 (gm_ent 35 [gm_vr 200, gm_vi lane, gm_vi row, gm_vi year]) [] n K R M Q := by
  intro d bc bs M Q lane row year hd hl h2 hy hm hT hI hq
  obtain ⟨hB, ⟨k6, k7⟩, hk⟩ := hI
  have hB9 := lb_lines hB
  obtain ⟨⟨⟨a0, b0⟩, ⟨a1, b1⟩, ⟨a10, b10⟩, ⟨a11, b11⟩, ⟨a12, b12⟩, a9, b9⟩, ⟨⟨a2, b2⟩, ⟨a5, b5⟩, ⟨a3, b3⟩, ⟨a4, b4⟩, ⟨a6, b6⟩, ⟨a14, b14⟩, ⟨a7, b7⟩, a13, b13⟩, rF, rP, rL⟩ := id hN
  refine gm_sz (gm_p_load (pc := 0) (i := .aload_n 0) (sr := 2) (j := 0) (by decide +kernel) rfl rfl rfl) ?_
  refine gm_sz (gm_p_load (pc := 1) (i := .iload_n 1) (sr := 0) (j := 1) (by decide +kernel) rfl rfl rfl) ?_
  refine gm_sz (gm_p_load (pc := 2) (i := .iload_n 2) (sr := 0) (j := 2) (by decide +kernel) rfl rfl rfl) ?_
  refine gm_c_virt (k := 200) (ci := 4) (mj := 36) (ix := 90) (pc := 3) (as := [gm_vi lane, gm_vi row]) (st := []) (d' := d - 1) (bc' := 0) (bs' := 0) (by decide +kernel) (by decide +kernel) (by decide +kernel) (by decide +kernel) (e0k hE (k := 200) (c := 4) (by decide +kernel)).1 (e0k hE (k := 200) (c := 4) (by decide +kernel)).2 (by decide) (by decide +kernel) (show 2 = gm_na 36 by decide +kernel) (fw_c2 fw_si fw_si) (show 3 ≤ gm_ml 36 by decide +kernel) (Nat.le_of_ble_eq_true rfl) (by omega) (Nat.zero_le _) (Nat.zero_le _) ?_
  refine ln_spd hE hT hN hl ⟨by omega, by omega⟩ ?_
  show gm_Wp X LX d _ _ 35 6 _ [gm_vi 0] n K _ _ Q
  refine gm_sz (gm_p_stor (pc := 6) (i := .istore 4) (sr := 0) (j := 4) (by decide +kernel) rfl (show 5 ≤ _ from Nat.le_of_ble_eq_true rfl) rfl) ?_
  refine gm_sz (gm_p_load (pc := 8) (i := .aload_n 0) (sr := 2) (j := 0) (by decide +kernel) rfl rfl rfl) ?_
  refine gm_sz (fw_gr (pc := 9) (ix := 34) (ci := 4) (j := 0) (r := 3) (by decide +kernel) (e0k hE (k := 200) (c := 4) (by decide +kernel)) (by decide +kernel) (by decide +kernel) (e0r hE (k := 200) (j := 0) (r := 3) (by decide +kernel))) ?_
  refine gm_sz (fw_gr (pc := 12) (ix := 93) (ci := 1) (j := 8) (r := 246) (by decide +kernel) (e0k hE (k := 3) (c := 1) (by decide +kernel)) (by decide +kernel) (by decide +kernel) hlw) ?_
  refine gm_b_nnul (pc := 15) (off := 6) (k0 := 246) (by decide) (by decide +kernel) (by decide) (fun _ => ?_) (fun h => absurd h (by decide))
  refine gm_sz (gm_p_load (pc := 21) (i := .iload_n 1) (sr := 0) (j := 1) (by decide +kernel) rfl rfl rfl) ?_
  refine gm_sz (gm_p_const (pc := 22) (i := .bipush 99) (v := gm_vi 99) (by decide +kernel) (by decide +kernel)) ?_
  refine gm_sz (gm_p_bin (pc := 24) (i := .imul) (f := fun x y => x * y) (by decide +kernel) rfl) ?_
  refine gm_sz (gm_p_load (pc := 25) (i := .iload_n 2) (sr := 0) (j := 2) (by decide +kernel) rfl rfl rfl) ?_
  refine gm_sz (gm_p_bin (pc := 26) (i := .iadd) (f := fun x y => x + y) (by decide +kernel) rfl) ?_
  refine gm_sz (gm_p_const (pc := 27) (i := .sipush 300) (v := gm_vi 300) (by decide +kernel) (by decide +kernel)) ?_
  refine gm_sz (gm_p_bin (pc := 30) (i := .imul) (f := fun x y => x * y) (by decide +kernel) rfl) ?_
  refine gm_sz (gm_p_load (pc := 31) (i := .iload_n 3) (sr := 0) (j := 3) (by decide +kernel) rfl rfl rfl) ?_
  refine gm_sz (gm_p_bin (pc := 32) (i := .iadd) (f := fun x y => x + y) (by decide +kernel) rfl) ?_
  refine gm_sz (gm_p_stor (pc := 33) (i := .istore 5) (sr := 0) (j := 5) (by decide +kernel) rfl (show 6 ≤ _ from Nat.le_of_ble_eq_true rfl) rfl) ?_
  refine gm_sz (gm_p_load (pc := 35) (i := .aload_n 0) (sr := 2) (j := 0) (by decide +kernel) rfl rfl rfl) ?_
  refine gm_sz (gm_p_load (pc := 36) (i := .iload 5) (sr := 0) (j := 5) (by decide +kernel) rfl rfl rfl) ?_
  refine gm_c_virt (k := 200) (ci := 4) (mj := 37) (ix := 97) (pc := 38) (as := [gm_vi ((((lane * 99) + row) * 300) + year)]) (st := []) (d' := d - 1) (bc' := 0) (bs' := 0) (by decide +kernel) (by decide +kernel) (by decide +kernel) (by decide +kernel) (e0k hE (k := 200) (c := 4) (by decide +kernel)).1 (e0k hE (k := 200) (c := 4) (by decide +kernel)).2 (by decide) (by decide +kernel) (show 1 = gm_na 37 by decide +kernel) (fw_c1 fw_si) (show 2 ≤ gm_ml 37 by decide +kernel) (Nat.le_of_ble_eq_true rfl) (by omega) (Nat.zero_le _) (Nat.zero_le _) ?_
  refine ln_rc (cell := (((lane * 99) + row) * 300) + year) (by omega) hE ⟨by omega, by omega⟩ ⟨by omega, by omega⟩ (fun M37 hf37 h637 hk37 => ?_)
  show gm_Wp X LX d _ _ 35 41 _ [gm_vi 31] n K _ _ Q
  refine gm_sz (gm_p_stor (pc := 41) (i := .istore 6) (sr := 0) (j := 6) (by decide +kernel) rfl (show 7 ≤ _ from Nat.le_of_ble_eq_true rfl) rfl) ?_
  refine gm_sz (gm_p_load (pc := 43) (i := .iload 6) (sr := 0) (j := 6) (by decide +kernel) rfl rfl rfl) ?_
  refine gm_sz (gm_p_const (pc := 45) (i := .bipush 31) (v := gm_vi 31) (by decide +kernel) (by decide +kernel)) ?_
  refine fw_icfd (cc := .ne) (pc := 47) (off := 48) (by decide +kernel) (by decide) ⟨by decide, by decide⟩ ⟨by decide, by decide⟩ (by decide) ?_
  refine gm_sz (gm_p_load (pc := 50) (i := .aload_n 0) (sr := 2) (j := 0) (by decide +kernel) rfl rfl rfl) ?_
  refine gm_sz (gm_p_load (pc := 51) (i := .iload_n 1) (sr := 0) (j := 1) (by decide +kernel) rfl rfl rfl) ?_
  refine gm_sz (gm_p_load (pc := 52) (i := .iload_n 2) (sr := 0) (j := 2) (by decide +kernel) rfl rfl rfl) ?_
  refine gm_sz (gm_p_load (pc := 53) (i := .iload_n 3) (sr := 0) (j := 3) (by decide +kernel) rfl rfl rfl) ?_
  refine gm_sz (gm_p_load (pc := 54) (i := .iload 4) (sr := 0) (j := 4) (by decide +kernel) rfl rfl rfl) ?_
  refine gm_c_virt (k := 200) (ci := 4) (mj := 39) (ix := 101) (pc := 56) (as := [gm_vi lane, gm_vi row, gm_vi year, gm_vi 0]) (st := []) (d' := d - 1) (bc' := 0) (bs' := 0) (by decide +kernel) (by decide +kernel) (by decide +kernel) (by decide +kernel) (e0k hE (k := 200) (c := 4) (by decide +kernel)).1 (e0k hE (k := 200) (c := 4) (by decide +kernel)).2 (by decide) (by decide +kernel) (show 4 = gm_na 39 by decide +kernel) (fw_c4 fw_si fw_si fw_si fw_si) (show 5 ≤ gm_ml 39 by decide +kernel) (Nat.le_of_ble_eq_true rfl) (by omega) (Nat.zero_le _) (Nat.zero_le _) ?_
  refine ln_sfm (by omega) hE (ti_fr (W := [((200 : Nat), some (6 : Int)), ((205 : Nat), none)]) hT (fr_t fr_0 hf37 (by decide)) (by decide) (by decide +kernel)) hN hl hy hm ?_
  show gm_Wp X LX d _ _ 35 59 _ [] n K _ _ Q
  refine gm_sz (gm_p_const (pc := 59) (i := .iconst 0) (v := gm_vi 0) (by decide +kernel) (by decide +kernel)) ?_
  refine gm_sz (gm_p_const (pc := 60) (i := .bipush 30) (v := gm_vi 30) (by decide +kernel) (by decide +kernel)) ?_
  refine gm_sz (gm_p_load (pc := 62) (i := .iload 4) (sr := 0) (j := 4) (by decide +kernel) rfl rfl rfl) ?_
  refine gm_sz (gm_p_load (pc := 64) (i := .aload_n 0) (sr := 2) (j := 0) (by decide +kernel) rfl rfl rfl) ?_
  refine gm_sz (fw_gr (pc := 65) (ix := 34) (ci := 4) (j := 0) (r := 3) (by decide +kernel) (e0k hE (k := 200) (c := 4) (by decide +kernel)) (by decide +kernel) (by decide +kernel) (e0r hE (k := 200) (j := 0) (r := 3) (by decide +kernel))) ?_
  refine gm_sz (fw_gr (pc := 68) (ix := 93) (ci := 1) (j := 8) (r := 246) (by decide +kernel) (e0k hE (k := 3) (c := 1) (by decide +kernel)) (by decide +kernel) (by decide +kernel) hlw) ?_
  refine gm_sz (gm_p_load (pc := 71) (i := .aload_n 0) (sr := 2) (j := 0) (by decide +kernel) rfl rfl rfl) ?_
  refine gm_sz (fw_gr (pc := 72) (ix := 23) (ci := 4) (j := 4) (r := 204) (by decide +kernel) (e0k hE (k := 200) (c := 4) (by decide +kernel)) (by decide +kernel) (by decide +kernel) (e0r hE (k := 200) (j := 4) (r := 204) (by decide +kernel))) ?_
  refine gm_c_virt (k := 246) (ci := 10) (mj := 40) (ix := 105) (pc := 75) (as := [gm_vr 204]) (st := [gm_vi 0, gm_vi 30, gm_vi 0]) (d' := d - 1) (bc' := 0) (bs' := 0) (by decide +kernel) (by decide +kernel) (by decide +kernel) (by decide +kernel) (lk6 hL).1 (lk6 hL).2 (by decide) (by decide +kernel) (show 1 = gm_na 40 by decide +kernel) (fw_c1 fw_sr) (show 2 ≤ gm_ml 40 by decide +kernel) (Nat.le_of_ble_eq_true rfl) (by omega) (Nat.zero_le _) (Nat.zero_le _) ?_
  refine fa_c40 (F := (fcts N h lane row year 0 0 0 0)) (C := C) (L := Ln) (m := m) (by omega) hE hL (lb_fr (W := [((200 : Nat), some (6 : Int)), ((205 : Nat), none), ((204 : Nat), some (0 : Int)), ((204 : Nat), some (1 : Int)), ((204 : Nat), some (2 : Int)), ((204 : Nat), some (3 : Int)), ((204 : Nat), some (4 : Int)), ((204 : Nat), some (5 : Int)), ((204 : Nat), some (6 : Int)), ((204 : Nat), some (7 : Int)), ((204 : Nat), some (8 : Int)), ((204 : Nat), some (9 : Int))]) (fr_p (fr_p (fr_p (fr_p (fr_p (fr_p (fr_p (fr_p (fr_p (fr_p (fr_t fr_0 hf37 (by decide)) (Or.inr (by decide))) (Or.inr (by decide))) (Or.inr (by decide))) (Or.inr (by decide))) (Or.inr (by decide))) (Or.inr (by decide))) (Or.inr (by decide))) (Or.inr (by decide))) (Or.inr (by decide))) (Or.inr (by decide))) (by decide) hB).1 (fun j j0 j1 => ic_fa_s j j0 j1) (lb_fr (W := [((200 : Nat), some (6 : Int)), ((205 : Nat), none), ((204 : Nat), some (0 : Int)), ((204 : Nat), some (1 : Int)), ((204 : Nat), some (2 : Int)), ((204 : Nat), some (3 : Int)), ((204 : Nat), some (4 : Int)), ((204 : Nat), some (5 : Int)), ((204 : Nat), some (6 : Int)), ((204 : Nat), some (7 : Int)), ((204 : Nat), some (8 : Int)), ((204 : Nat), some (9 : Int))]) (fr_p (fr_p (fr_p (fr_p (fr_p (fr_p (fr_p (fr_p (fr_p (fr_p (fr_t fr_0 hf37 (by decide)) (Or.inr (by decide))) (Or.inr (by decide))) (Or.inr (by decide))) (Or.inr (by decide))) (Or.inr (by decide))) (Or.inr (by decide))) (Or.inr (by decide))) (Or.inr (by decide))) (Or.inr (by decide))) (Or.inr (by decide))) (by decide) hB).2.1 (lb_fr (W := [((200 : Nat), some (6 : Int)), ((205 : Nat), none), ((204 : Nat), some (0 : Int)), ((204 : Nat), some (1 : Int)), ((204 : Nat), some (2 : Int)), ((204 : Nat), some (3 : Int)), ((204 : Nat), some (4 : Int)), ((204 : Nat), some (5 : Int)), ((204 : Nat), some (6 : Int)), ((204 : Nat), some (7 : Int)), ((204 : Nat), some (8 : Int)), ((204 : Nat), some (9 : Int))]) (fr_p (fr_p (fr_p (fr_p (fr_p (fr_p (fr_p (fr_p (fr_p (fr_p (fr_t fr_0 hf37 (by decide)) (Or.inr (by decide))) (Or.inr (by decide))) (Or.inr (by decide))) (Or.inr (by decide))) (Or.inr (by decide))) (Or.inr (by decide))) (Or.inr (by decide))) (Or.inr (by decide))) (Or.inr (by decide))) (Or.inr (by decide))) (by decide) hB).2.2.1 (lb_fr (W := [((200 : Nat), some (6 : Int)), ((205 : Nat), none), ((204 : Nat), some (0 : Int)), ((204 : Nat), some (1 : Int)), ((204 : Nat), some (2 : Int)), ((204 : Nat), some (3 : Int)), ((204 : Nat), some (4 : Int)), ((204 : Nat), some (5 : Int)), ((204 : Nat), some (6 : Int)), ((204 : Nat), some (7 : Int)), ((204 : Nat), some (8 : Int)), ((204 : Nat), some (9 : Int))]) (fr_p (fr_p (fr_p (fr_p (fr_p (fr_p (fr_p (fr_p (fr_p (fr_p (fr_t fr_0 hf37 (by decide)) (Or.inr (by decide))) (Or.inr (by decide))) (Or.inr (by decide))) (Or.inr (by decide))) (Or.inr (by decide))) (Or.inr (by decide))) (Or.inr (by decide))) (Or.inr (by decide))) (Or.inr (by decide))) (Or.inr (by decide))) (by decide) hB).2.2.2 ?_
  show gm_Wp X LX d _ _ 35 78 _ [gm_vi (lfas (fcts N h lane row year 0 0 0 0) C Ln m.toNat), gm_vi 0, gm_vi 30, gm_vi 0] n K _ _ Q
  have hl9 := lfas_b (C := C) (F := (fcts N h lane row year 0 0 0 0)) hB9.2 m.toNat (by omega)
  refine gm_sz (gm_p_bin (pc := 78) (i := .iadd) (f := fun x y => x + y) (by decide +kernel) rfl) ?_
  refine gm_sz (gm_p_min (pc := 79) (ix := 109) (x := 30) (y := 0 + (lfas (fcts N h lane row year 0 0 0 0) C Ln m.toNat)) (by decide +kernel) (by decide +kernel) (gm_w_id (by omega) (by omega)) (gm_w_id (by omega) (by omega)) (Nat.le_of_ble_eq_true rfl) (by omega)) ?_
  refine gm_sz (gm_p_max (pc := 82) (ix := 77) (x := 0) (y := min 30 (0 + (lfas (fcts N h lane row year 0 0 0 0) C Ln m.toNat))) (by decide +kernel) (by decide +kernel) (gm_w_id (by omega) (by omega)) (gm_w_id (by omega) (by omega)) (Nat.le_of_ble_eq_true rfl) (by omega)) ?_
  refine gm_sz (gm_p_stor (pc := 85) (i := .istore 6) (sr := 0) (j := 6) (by decide +kernel) rfl (show 7 ≤ _ from Nat.le_of_ble_eq_true rfl) rfl) ?_
  refine gm_sz (gm_p_load (pc := 87) (i := .aload_n 0) (sr := 2) (j := 0) (by decide +kernel) rfl rfl rfl) ?_
  refine gm_sz (gm_p_load (pc := 88) (i := .iload 5) (sr := 0) (j := 5) (by decide +kernel) rfl rfl rfl) ?_
  refine gm_sz (gm_p_load (pc := 90) (i := .iload 6) (sr := 0) (j := 6) (by decide +kernel) rfl rfl rfl) ?_
  refine gm_c_virt (k := 200) (ci := 4) (mj := 42) (ix := 112) (pc := 92) (as := [gm_vi ((((lane * 99) + row) * 300) + year), gm_vi (max 0 (min 30 (0 + (lfas (fcts N h lane row year 0 0 0 0) C Ln m.toNat))))]) (st := []) (d' := d - 1) (bc' := 0) (bs' := 0) (by decide +kernel) (by decide +kernel) (by decide +kernel) (by decide +kernel) (e0k hE (k := 200) (c := 4) (by decide +kernel)).1 (e0k hE (k := 200) (c := 4) (by decide +kernel)).2 (by decide) (by decide +kernel) (show 2 = gm_na 42 by decide +kernel) (fw_c2 fw_si fw_si) (show 3 ≤ gm_ml 42 by decide +kernel) (Nat.le_of_ble_eq_true rfl) (by omega) (Nat.zero_le _) (Nat.zero_le _) ?_
  refine ln_kp (cell := (((lane * 99) + row) * 300) + year) (f := max 0 (min 30 (0 + (lfas (fcts N h lane row year 0 0 0 0) C Ln m.toNat)))) hE ⟨by omega, by omega⟩ ?_
  show gm_Wp X LX d _ _ 35 95 _ [] n K _ _ Q
  refine gm_sz (gm_p_load (pc := 95) (i := .iload 6) (sr := 0) (j := 6) (by decide +kernel) rfl rfl rfl) ?_
  have ke : ∀ c, kv (gm_uM (gm_uM (gm_uM (gm_uM (gm_uM (gm_uM (gm_uM (gm_uM (gm_uM (gm_uM M37 204 0 lane) 204 1 row) 204 2 year) 204 3 (h year)) 204 4 0) 204 5 0) 204 6 0) 204 7 0) 204 8 (if lane = 0 ∨ lane = N 0 - 1 then 1 else 0)) 204 9 (if lane < N 12 then 1 else 0)) c = kv M37 c := kv_e ((uM_ne (by omega)).trans ((uM_ne (by omega)).trans ((uM_ne (by omega)).trans ((uM_ne (by omega)).trans ((uM_ne (by omega)).trans ((uM_ne (by omega)).trans ((uM_ne (by omega)).trans ((uM_ne (by omega)).trans ((uM_ne (by omega)).trans ((uM_ne (by omega)).trans rfl)))))))))) (fun j => ((uM_ne (by omega)).trans ((uM_ne (by omega)).trans ((uM_ne (by omega)).trans ((uM_ne (by omega)).trans ((uM_ne (by omega)).trans ((uM_ne (by omega)).trans ((uM_ne (by omega)).trans ((uM_ne (by omega)).trans ((uM_ne (by omega)).trans ((uM_ne (by omega)).trans rfl)))))))))))
  have kf : KFL N φ (gm_uM (gm_uM (gm_uM (gm_uM (gm_uM (gm_uM (gm_uM (gm_uM (gm_uM (gm_uM M37 204 0 lane) 204 1 row) 204 2 year) 204 3 (h year)) 204 4 0) 204 5 0) 204 6 0) 204 7 0) 204 8 (if lane = 0 ∨ lane = N 0 - 1 then 1 else 0)) 204 9 (if lane < N 12 then 1 else 0)) := by
    refine ⟨?_, fun l r y l0 l1 r0 r1 y0 y1 => ?_⟩
    · rw [show (gm_uM (gm_uM (gm_uM (gm_uM (gm_uM (gm_uM (gm_uM (gm_uM (gm_uM (gm_uM M37 204 0 lane) 204 1 row) 204 2 year) 204 3 (h year)) 204 4 0) 204 5 0) 204 6 0) 204 7 0) 204 8 (if lane = 0 ∨ lane = N 0 - 1 then 1 else 0)) 204 9 (if lane < N 12 then 1 else 0)) 200 6 = 0 from ((uM_ne (by omega)).trans ((uM_ne (by omega)).trans ((uM_ne (by omega)).trans ((uM_ne (by omega)).trans ((uM_ne (by omega)).trans ((uM_ne (by omega)).trans ((uM_ne (by omega)).trans ((uM_ne (by omega)).trans ((uM_ne (by omega)).trans ((uM_ne (by omega)).trans h637))))))))))]
      exact ⟨by decide, by decide⟩
    · rw [ke _, hk37 _ (by omega) (by omega)]
      exact hk l r y l0 l1 r0 r1 y0 y1
  exact gm_r_int (pc := 97) (by decide +kernel) (Or.inl (by decide +kernel)) (hq _ _ (fr_p (fr_p (fr_p (fr_p (fr_p (fr_p (fr_p (fr_p (fr_p (fr_p (fr_t fr_0 hf37 (by decide)) (Or.inl (by decide))) (Or.inl (by decide))) (Or.inl (by decide))) (Or.inl (by decide))) (Or.inl (by decide))) (Or.inl (by decide))) (Or.inl (by decide))) (Or.inl (by decide))) (Or.inl (by decide))) (Or.inl (by decide))) ⟨(lb_fr (W := [((200 : Nat), some (6 : Int)), ((205 : Nat), none), ((204 : Nat), some (0 : Int)), ((204 : Nat), some (1 : Int)), ((204 : Nat), some (2 : Int)), ((204 : Nat), some (3 : Int)), ((204 : Nat), some (4 : Int)), ((204 : Nat), some (5 : Int)), ((204 : Nat), some (6 : Int)), ((204 : Nat), some (7 : Int)), ((204 : Nat), some (8 : Int)), ((204 : Nat), some (9 : Int))]) (fr_p (fr_p (fr_p (fr_p (fr_p (fr_p (fr_p (fr_p (fr_p (fr_p (fr_t fr_0 hf37 (by decide)) (Or.inr (by decide))) (Or.inr (by decide))) (Or.inr (by decide))) (Or.inr (by decide))) (Or.inr (by decide))) (Or.inr (by decide))) (Or.inr (by decide))) (Or.inr (by decide))) (Or.inr (by decide))) (Or.inr (by decide))) (by decide) hB), kf⟩)
end LN
end
/-! 7c26.sn -/
section
/-! THE TRAVELLERS under a law: steps; FLOWs that are kept stay right. -/
section ST26
variable {X : Int → Int} {LX n n1 n2 : Nat} {K K1 K2 : gm_K} {R R2 : gm_R} {M M1 M2 : gm_M} {N h : Int → Int} {lw : Option (List lln)} {ls : List lln} {φ : Int → Int → Int → Int} {C Ln G : Int → Int} {NC : Nat}
noncomputable def q35n : ck_Sum := (((12 : Nat), (0 : Nat), (0 : Nat)), (249 : Nat), [.inr (.inr (.inl (200 : Nat))), .inl ((-1 : Int), (-1 : Int), []), .inl ((-1 : Int), (98 : Int), []), .inl ((-1 : Int), (299 : Int), [])], ([], [((3 : Nat), (8 : Int), (246 : Nat))], []), ([((200 : Nat), (6 : Int), (6 : Int)), ((204 : Nat), (0 : Int), (9 : Int)), ((205 : Nat), (0 : Int), (14849 : Int))], []), [(.inr (some (.inl ((0 : Int), (30 : Int), []))), (249 : Nat), ([], [], [((200 : Nat), (6 : Int), (6 : Int), ck_one 0)]))])
theorem q35n_s (hS : ck_Ok p2_OL X LX 35 q35p) : ck_Ok qL_O X LX 35 q35n := by
  intro d σ vs n K R M hd hn hvs hσ hF hf
  obtain ⟨v0, w0, rfl, g0, v1, w1, rfl, ⟨l, rfl, hl, l0, l1, -⟩, v2, w2, rfl, ⟨r, rfl, hr, r0, r1, -⟩, v3, w3, rfl, ⟨y, rfl, hy, y0, y1, -⟩, g4⟩ := hvs
  have g4 : w3 = [] := g4
  subst g4
  have g0 : v0 = gm_vr 200 := g0
  subst g0
  have l0 : (-1 : Int) ≤ l := l0
  have l1 : l ≤ (-1 : Int) := l1
  have r0 : (-1 : Int) ≤ r := r0
  have r1 : r ≤ (98 : Int) := r1
  have y0 : (-1 : Int) ≤ y := y0
  have y1 : y ≤ (299 : Int) := y1
  have hd : 12 ≤ d := hd
  have hn : n = 249 := hn
  subst hn
  have F0 := qL_p hF
  have h8 : R 3 8 = 246 := (hf.2.1 (3, 8, 246) List.mem_cons_self).2
  have hrow := hS d σ [gm_vr 200, gm_vi l, gm_vi r, gm_vi y] 249 K R M (show 2 ≤ d by omega) rfl ⟨_, _, rfl, rfl, _, _, rfl, ⟨l, rfl, hl, (show (-2147483648 : Int) ≤ l by omega), (show l ≤ (2147483647 : Int) by omega), fun _ h => nomatch h⟩, _, _, rfl, ⟨r, rfl, hr, (show (-2147483648 : Int) ≤ r by omega), (show r ≤ (2147483647 : Int) by omega), fun _ h => nomatch h⟩, _, _, rfl, ⟨y, rfl, hy, (show (-2147483648 : Int) ≤ y by omega), (show y ≤ (2147483647 : Int) by omega), fun _ h => nomatch h⟩, rfl⟩ (fun q hq => hσ q (List.mem_append_left _ hq)) F0 hf
  obtain ⟨hJ, N, ls, hq, hk, hw, hlr⟩ := hF.2.2.2.2
  obtain ⟨NC, C, Ln, hcc, hlb⟩ := qL_cc hF h8 hw hlr
  have hE : E0 249 K R := e0F (pl_o F0)
  have hT := ti_x (cstF (pl_o F0)) hq.2.1
  have hfun : gm_Wp X LX d 0 0 35 0 (gm_ent 35 [gm_vr 200, gm_vi l, gm_vi r, gm_vi y]) [] 249 K R M (fun o n1 K1 R1 M1 => K1 = K ∧ FIC NC C Ln (some ls) N (hts (N 13)) M1) := by
    obtain ⟨h8', hL, -⟩ := hcc.2 ls rfl
    have hl1 : l = -1 := by omega
    by_cases h6 : y = -1
    · refine ic_flm (h := fun y => if y < 0 then 0 else hts (N 13) y) (sp := spd N) hE hL h8' hq.1.1.1 d 0 0 M _ l r y hd hl1 ⟨r0, by omega⟩ h6 (if_pos (by omega)) ⟨hT.1, hT.2.1, fun z z0 z1 => ?_, hT.2.2.2⟩ ⟨hlb, hk⟩ (fun M2 v _ hI => ⟨rfl, fun ls2 e => by cases e; exact hI⟩)
      show M 201 z = (if z < 0 then 0 else hts (N 13) z) ∧ (0 ≤ (if z < 0 then 0 else hts (N 13) z) ∧ (if z < 0 then 0 else hts (N 13) z) ≤ 9) ∧ _
      rw [if_neg (by omega)]
      exact hT.2.2.1 z z0 z1
    · exact ic_fln (sp := spd N) hE hL h8' hq.1.1.1 d 0 0 M _ l r y hd hl1 ⟨r0, by omega⟩ ⟨by omega, by omega⟩ hT ⟨hlb, hk⟩ (fun M2 v _ hI => ⟨rfl, fun ls2 e => by cases e; exact hI⟩)
  refine gm_Wp_mono (fun o n2 K2 R2 M2 hh => ?_) (gm_Wp_and hrow hfun)
  obtain ⟨⟨hF2, hfr, hoc⟩, o3, n3, K3, R3, M3, ⟨rfl, hI⟩, -, hdt⟩ := hh
  have hKK : ∀ k, 1 ≤ k → k ≤ 249 → K3 k = K2 k := fun k _ hk => (hfr.2.1 k hk).symm
  refine ⟨qL_b hF (by decide) hF2 hfr (fun N2 ls2 hq2 hk2 hw2 hlr2 => ?_), hfr, hoc⟩
  have eN : N2 = N := hq2.2.1.1.symm.trans hq.2.1.1
  subst eN
  have ea : aphx (some ls2) N2 (hts (N2 13)) = aphx (some ls) N2 (hts (N2 13)) := aphx_u hlr2 hlr
  have e1 : ∀ k j, k ≤ 249 → ¬ (k = 200 ∨ k = 204 ∨ k = 205) → M2 k j = M k j := fun k j hk h => hfr.2.2.1 k j hk (fun w hw hh => by
    have := of_decide_eq_true (List.all_eq_true.mp (show q35p.2.2.2.2.1.1.all (fun w => decide (w.1 = 200 ∨ w.1 = 204 ∨ w.1 = 205)) = true by decide) w hw)
    omega)
  refine ⟨?_, ?_⟩
  · rw [e1 1 15 (by decide) (by decide)]
    refine hq2.2.2.imp_right fun hh => ⟨hh.1, ends_x hh.2 (fun k j hk => e1 k j (by omega) (by omega))⟩
  · rw [ea]
    exact kfl_dt (dt_sym hdt) (by decide) hKK (pl_o hF2) (hI ls rfl).2
noncomputable def q43n (c : Nat) : ck_Sum := ((1, 0, 0), 249, [.inr (.inr (.inl c))], ([], [], [(c, 5, 5, (-1, 128, [])), (c, 7, 7, (0, 299, []))]), ([(c, 5, 5), (c, 8, 8)], []), [(.inr none, 249, ([], [], [(c, 5, 5, (-1, 300, []))]))])
theorem nfl_300n (hN : NR N) {y wo r : Int} (hr : -1 ≤ r ∧ r ≤ 128) : -1 ≤ nfl N y wo (N 5).toNat r ∧ nfl N y wo (N 5).toNat r ≤ 300 := by
  have h5 := hN.2.1.2.1
  have := nfl_b (N := N) (y := y) (wo := wo) (r := r) (fun f f0 f1 => (hN.2.2.1 f f0 f1).2.2) (N 5).toNat (by omega)
  omega
theorem q43n_206 (hS : ck_Ok p2_OL X LX 43 (q43p 206)) : ck_Ok qL_O X LX 43 (q43n 206) := by
  intro d σ vs n K R M hd hn hvs hσ hF hf
  obtain ⟨v0, w0, rfl, g0, g4⟩ := hvs
  have g4 : w0 = [] := g4
  subst g4
  have g0 : v0 = gm_vr 206 := g0
  subst g0
  have hn : n = 249 := hn
  subst hn
  have F0 := pl_o (qL_p hF)
  have hrow := hS d σ [gm_vr 206] 249 K R M hd rfl ⟨_, _, rfl, rfl, rfl⟩ (fun q hq => hσ q (List.mem_append_left _ hq)) (qL_p hF) ⟨(fun _ h => nomatch h), (fun _ h => nomatch h), (fun _ h => nomatch h)⟩
  have f4 := ((gm_tyr_s F0 (show gm_tyr p2_O 206 4 4 = some (-1, 7) by decide +kernel)).2 4 (Int.le_refl _) (Int.le_refl _)).1
  have f5 := (hf.2.2 (206, 5, 5, (-1, 128, [])) List.mem_cons_self).2 5 (Int.le_refl _) (Int.le_refl _)
  have f7 := (hf.2.2 (206, 7, 7, (0, 299, [])) (List.mem_cons_of_mem _ List.mem_cons_self)).2 7 (Int.le_refl _) (Int.le_refl _)
  have a5 : -1 ≤ M 206 5 ∧ M 206 5 ≤ 128 := ⟨f5.2.1, f5.2.2.1⟩
  have a7 : 0 ≤ M 206 7 ∧ M 206 7 ≤ 299 := ⟨f7.2.1, f7.2.2.1⟩
  have hq : ∃ N ls, qC (some ls) N M := by
    obtain ⟨hJ, N, ls, hq, -⟩ := hF.2.2.2.2
    exact ⟨N, ls, hq⟩
  obtain ⟨N, ls, hq⟩ := hq
  have hfun := wy_c43_206 (X := X) (LX := LX) (bc := 0) (bs := 0) (Q := fun o n1 K1 R1 M1 => K1 = K ∧ -1 ≤ M1 206 5 ∧ M1 206 5 ≤ 300) (wo := M 206 4) (y := M 206 7) (r0 := M 206 5) hd (e0F F0) (ti_x (cstF F0) hq.2.1) hq.1.1.1 rfl rfl rfl ⟨a7.1, by omega⟩ f4 ⟨by omega, by omega⟩ (fun M2 hfr h5 => ⟨rfl, by rw [h5]; exact nfl_300n hq.1.1.1 a5⟩)
  refine gm_Wp_mono (fun o n2 K2 R2 M2 hh => ?_) (gm_Wp_and hrow hfun)
  obtain ⟨⟨hF2, hfr, oc, hoc, ho, hn2, -⟩, o3, n3, K3, R3, M3, ⟨rfl, hI⟩, -, hdt⟩ := hh
  have hKK : ∀ k, 1 ≤ k → k ≤ 249 → K3 k = K2 k := fun k _ hk => (hfr.2.1 k hk).symm
  have e1 : ∀ k j, k ≤ 249 → ¬ k = 206 → M2 k j = M k j := fun k j hk h => hfr.2.2.1 k j hk (fun w hw hh => by
    have := of_decide_eq_true (List.all_eq_true.mp (show (q43p 206).2.2.2.2.1.1.all (fun w => decide (w.1 = 206)) = true by decide) w hw)
    omega)
  have e5 : M2 206 5 = gm_w (M3 206 5) := dw_f (dt_sym hdt) (by decide) hKK (pl_o hF2) (show tyF 206 5 5 = true by decide +kernel)
  rw [dw_i ⟨by omega, by omega⟩] at e5
  have ho2 : oc = (.inr none, 249, ([], [], [])) := List.mem_singleton.mp hoc
  subst ho2
  refine ⟨qL_b hF (by decide) hF2 hfr (fun N2 ls2 hq2 hk2 hw2 hlr2 => ⟨?_, ?_⟩), hfr, _, List.mem_cons_self, ho, hn2, (fun _ h => nomatch h), (fun _ h => nomatch h), fun q hq9 => ?_⟩
  · rw [e1 1 15 (by decide) (by decide)]
    exact hq2.2.2.imp_right fun hh => ⟨hh.1, ends_x hh.2 (fun k j hk => e1 k j (by omega) (by omega))⟩
  · exact kfl_b hk2 ⟨by have := hq2.1.1.1.1.1; omega, by have := hq2.1.1.1.1.2.1; omega⟩ (e1 200 6 (by decide) (by decide)) (fun j _ _ => e1 205 j (by decide) (by decide))
  · rw [List.mem_singleton.mp hq9]
    refine ⟨show 206 ≤ n2 by have := hfr.1; omega, fun j j1 j2 => ?_⟩
    have ej : j = 5 := Int.le_antisymm j2 j1
    subst ej
    show gm_ir (M2 206 5) ∧ ck_gi σ (-1, 300, []) (M2 206 5)
    rw [e5]
    exact ⟨⟨by omega, by omega⟩, hI.1, hI.2, fun _ h => nomatch h⟩
theorem q43n_207 (hS : ck_Ok p2_OL X LX 43 (q43p 207)) : ck_Ok qL_O X LX 43 (q43n 207) := by
  intro d σ vs n K R M hd hn hvs hσ hF hf
  obtain ⟨v0, w0, rfl, g0, g4⟩ := hvs
  have g4 : w0 = [] := g4
  subst g4
  have g0 : v0 = gm_vr 207 := g0
  subst g0
  have hn : n = 249 := hn
  subst hn
  have F0 := pl_o (qL_p hF)
  have hrow := hS d σ [gm_vr 207] 249 K R M hd rfl ⟨_, _, rfl, rfl, rfl⟩ (fun q hq => hσ q (List.mem_append_left _ hq)) (qL_p hF) ⟨(fun _ h => nomatch h), (fun _ h => nomatch h), (fun _ h => nomatch h)⟩
  have f4 := ((gm_tyr_s F0 (show gm_tyr p2_O 207 4 4 = some (-1, -1) by decide +kernel)).2 4 (Int.le_refl _) (Int.le_refl _)).1
  have f5 := (hf.2.2 (207, 5, 5, (-1, 128, [])) List.mem_cons_self).2 5 (Int.le_refl _) (Int.le_refl _)
  have f7 := (hf.2.2 (207, 7, 7, (0, 299, [])) (List.mem_cons_of_mem _ List.mem_cons_self)).2 7 (Int.le_refl _) (Int.le_refl _)
  have a5 : -1 ≤ M 207 5 ∧ M 207 5 ≤ 128 := ⟨f5.2.1, f5.2.2.1⟩
  have a7 : 0 ≤ M 207 7 ∧ M 207 7 ≤ 299 := ⟨f7.2.1, f7.2.2.1⟩
  have hq : ∃ N ls, qC (some ls) N M := by
    obtain ⟨hJ, N, ls, hq, -⟩ := hF.2.2.2.2
    exact ⟨N, ls, hq⟩
  obtain ⟨N, ls, hq⟩ := hq
  have hfun := wy_c43_207 (X := X) (LX := LX) (bc := 0) (bs := 0) (Q := fun o n1 K1 R1 M1 => K1 = K ∧ -1 ≤ M1 207 5 ∧ M1 207 5 ≤ 300) (wo := M 207 4) (y := M 207 7) (r0 := M 207 5) hd (e0F F0) (ti_x (cstF F0) hq.2.1) hq.1.1.1 rfl rfl rfl ⟨a7.1, by omega⟩ f4 ⟨by omega, by omega⟩ (fun M2 hfr h5 => ⟨rfl, by rw [h5]; exact nfl_300n hq.1.1.1 a5⟩)
  refine gm_Wp_mono (fun o n2 K2 R2 M2 hh => ?_) (gm_Wp_and hrow hfun)
  obtain ⟨⟨hF2, hfr, oc, hoc, ho, hn2, -⟩, o3, n3, K3, R3, M3, ⟨rfl, hI⟩, -, hdt⟩ := hh
  have hKK : ∀ k, 1 ≤ k → k ≤ 249 → K3 k = K2 k := fun k _ hk => (hfr.2.1 k hk).symm
  have e1 : ∀ k j, k ≤ 249 → ¬ k = 207 → M2 k j = M k j := fun k j hk h => hfr.2.2.1 k j hk (fun w hw hh => by
    have := of_decide_eq_true (List.all_eq_true.mp (show (q43p 207).2.2.2.2.1.1.all (fun w => decide (w.1 = 207)) = true by decide) w hw)
    omega)
  have e5 : M2 207 5 = gm_w (M3 207 5) := dw_f (dt_sym hdt) (by decide) hKK (pl_o hF2) (show tyF 207 5 5 = true by decide +kernel)
  rw [dw_i ⟨by omega, by omega⟩] at e5
  have ho2 : oc = (.inr none, 249, ([], [], [])) := List.mem_singleton.mp hoc
  subst ho2
  refine ⟨qL_b hF (by decide) hF2 hfr (fun N2 ls2 hq2 hk2 hw2 hlr2 => ⟨?_, ?_⟩), hfr, _, List.mem_cons_self, ho, hn2, (fun _ h => nomatch h), (fun _ h => nomatch h), fun q hq9 => ?_⟩
  · rw [e1 1 15 (by decide) (by decide)]
    exact hq2.2.2.imp_right fun hh => ⟨hh.1, ends_x hh.2 (fun k j hk => e1 k j (by omega) (by omega))⟩
  · exact kfl_b hk2 ⟨by have := hq2.1.1.1.1.1; omega, by have := hq2.1.1.1.1.2.1; omega⟩ (e1 200 6 (by decide) (by decide)) (fun j _ _ => e1 205 j (by decide) (by decide))
  · rw [List.mem_singleton.mp hq9]
    refine ⟨show 207 ≤ n2 by have := hfr.1; omega, fun j j1 j2 => ?_⟩
    have ej : j = 5 := Int.le_antisymm j2 j1
    subst ej
    show gm_ir (M2 207 5) ∧ ck_gi σ (-1, 300, []) (M2 207 5)
    rw [e5]
    exact ⟨⟨by omega, by omega⟩, hI.1, hI.2, fun _ h => nomatch h⟩
noncomputable def q44m : ck_Sum := (((0 : Nat), (0 : Nat), (0 : Nat)), (249 : Nat), [.inr (.inr (.inl (200 : Nat))), .inl ((-1 : Int), (-1 : Int), [])], ([], [], []), ([], []), [(.inr (some (.inl (ck_one 0))), (249 : Nat), ([], [], []))])
theorem q44m_s : ck_Ok qL_O X LX 44 q44m := ck_okq (cuts := []) (f := 60) ⟨qL_nmu, ck_E0⟩ (by decide +kernel)
noncomputable def q43m_206 : ck_Sum := (((1 : Nat), (0 : Nat), (0 : Nat)), (249 : Nat), [.inr (.inr (.inl (206 : Nat)))], ([], [], [((206 : Nat), (5 : Int), (5 : Int), ((-1 : Int), (128 : Int), [])), ((206 : Nat), (7 : Int), (7 : Int), ((-1 : Int), (-1 : Int), []))]), ([((206 : Nat), (5 : Int), (5 : Int)), ((206 : Nat), (8 : Int), (8 : Int))], []), [(.inr none, (249 : Nat), ([], [], [((206 : Nat), (5 : Int), (5 : Int), ((-1 : Int), (300 : Int), []))]))])
theorem q43m_206_s : ck_Ok qL_O X LX 43 q43m_206 := ck_okq (cuts := []) (f := 120) ⟨qL_nmu, ck_E1 (ck_S1 q44m_s ck_S0) ck_E0⟩ (by decide +kernel)
noncomputable def q31n_206 : ck_Sum := (((0 : Nat), (0 : Nat), (0 : Nat)), (249 : Nat), [.inr (.inr (.inl (206 : Nat)))], ([], [], [((206 : Nat), (5 : Int), (5 : Int), ((-1 : Int), (300 : Int), []))]), ([], []), [(.inr (some (.inl (ck_one 0))), (249 : Nat), ([], [], [((206 : Nat), (5 : Int), (5 : Int), ((-1 : Int), (98 : Int), []))])), (.inr (some (.inl (ck_one 1))), (249 : Nat), ([], [], [((206 : Nat), (5 : Int), (5 : Int), ((-1 : Int), (300 : Int), []))]))])
theorem q31n_206_s : ck_Ok qL_O X LX 31 q31n_206 := ck_okq (cuts := []) (f := 100) ⟨qL_nmu, ck_E0⟩ (by decide +kernel)
noncomputable def q32n_206 : ck_Sum := (((13 : Nat), (0 : Nat), (0 : Nat)), (249 : Nat), [.inr (.inr (.inl (206 : Nat)))], ([], [((3 : Nat), (8 : Int), (246 : Nat))], [((206 : Nat), (2 : Int), (2 : Int), ((-1 : Int), (-1 : Int), [])), ((206 : Nat), (5 : Int), (5 : Int), ((-1 : Int), (300 : Int), [])), ((206 : Nat), (7 : Int), (7 : Int), ((0 : Int), (299 : Int), [((28 : Nat), (0 : Int))]))]), ([((200 : Nat), (6 : Int), (6 : Int)), ((204 : Nat), (0 : Int), (9 : Int)), ((205 : Nat), (0 : Int), (14849 : Int)), ((206 : Nat), (5 : Int), (8 : Int))], []), [(.inr none, (249 : Nat), ([], [], [((206 : Nat), (5 : Int), (5 : Int), ((-1 : Int), (300 : Int), [])), ((206 : Nat), (7 : Int), (7 : Int), ((1 : Int), (300 : Int), [((28 : Nat), (1 : Int))]))]))])
set_option maxRecDepth 100000 in
theorem q32n_206_e : ck_ok qL_O none [] [(31, [q31n_206]), (33, [q33_206]), (35, [q35n]), (43, [q43n 206])] 32 [] 200 q32n_206 = true := by decide +kernel
theorem q32n_206_s (h33 : ck_Ok qL_O X LX 33 q33_206) (h35 : ck_Ok qL_O X LX 35 q35n) (h43 : ck_Ok qL_O X LX 43 (q43n 206)) : ck_Ok qL_O X LX 32 q32n_206 := ck_ok_s ⟨qL_nmu, ck_E1 (ck_S1 q31n_206_s ck_S0) (ck_E1 (ck_S1 h33 ck_S0) (ck_E1 (ck_S1 h35 ck_S0) (ck_E1 (ck_S1 h43 ck_S0) ck_E0)))⟩ ck_X0 ck_l0 q32n_206_e
noncomputable def q32m_206 : ck_Sum := (((13 : Nat), (0 : Nat), (0 : Nat)), (249 : Nat), [.inr (.inr (.inl (206 : Nat)))], ([], [((3 : Nat), (8 : Int), (246 : Nat))], [((206 : Nat), (2 : Int), (2 : Int), ((-1 : Int), (-1 : Int), [])), ((206 : Nat), (5 : Int), (5 : Int), ((-1 : Int), (300 : Int), [])), ((206 : Nat), (7 : Int), (7 : Int), ((-1 : Int), (-1 : Int), []))]), ([((200 : Nat), (6 : Int), (6 : Int)), ((204 : Nat), (0 : Int), (9 : Int)), ((205 : Nat), (0 : Int), (14849 : Int)), ((206 : Nat), (5 : Int), (8 : Int))], []), [(.inr none, (249 : Nat), ([], [], [((206 : Nat), (5 : Int), (5 : Int), ((-1 : Int), (300 : Int), [])), ((206 : Nat), (7 : Int), (7 : Int), ((0 : Int), (0 : Int), []))]))])
set_option maxRecDepth 100000 in
theorem q32m_206_e : ck_ok qL_O none [] [(31, [q31n_206]), (33, [q33_206]), (35, [q35n]), (43, [q43m_206])] 32 [] 200 q32m_206 = true := by decide +kernel
theorem q32m_206_s (h33 : ck_Ok qL_O X LX 33 q33_206) (h35 : ck_Ok qL_O X LX 35 q35n) (h43 : ck_Ok qL_O X LX 43 (q43m_206)) : ck_Ok qL_O X LX 32 q32m_206 := ck_ok_s ⟨qL_nmu, ck_E1 (ck_S1 q31n_206_s ck_S0) (ck_E1 (ck_S1 h33 ck_S0) (ck_E1 (ck_S1 h35 ck_S0) (ck_E1 (ck_S1 h43 ck_S0) ck_E0)))⟩ ck_X0 ck_l0 q32m_206_e
noncomputable def q43m_207 : ck_Sum := (((1 : Nat), (0 : Nat), (0 : Nat)), (249 : Nat), [.inr (.inr (.inl (207 : Nat)))], ([], [], [((207 : Nat), (5 : Int), (5 : Int), ((-1 : Int), (128 : Int), [])), ((207 : Nat), (7 : Int), (7 : Int), ((-1 : Int), (-1 : Int), []))]), ([((207 : Nat), (5 : Int), (5 : Int)), ((207 : Nat), (8 : Int), (8 : Int))], []), [(.inr none, (249 : Nat), ([], [], [((207 : Nat), (5 : Int), (5 : Int), ((-1 : Int), (300 : Int), []))]))])
theorem q43m_207_s : ck_Ok qL_O X LX 43 q43m_207 := ck_okq (cuts := []) (f := 120) ⟨qL_nmu, ck_E1 (ck_S1 q44m_s ck_S0) ck_E0⟩ (by decide +kernel)
noncomputable def q31n_207 : ck_Sum := (((0 : Nat), (0 : Nat), (0 : Nat)), (249 : Nat), [.inr (.inr (.inl (207 : Nat)))], ([], [], [((207 : Nat), (5 : Int), (5 : Int), ((-1 : Int), (300 : Int), []))]), ([], []), [(.inr (some (.inl (ck_one 0))), (249 : Nat), ([], [], [((207 : Nat), (5 : Int), (5 : Int), ((-1 : Int), (98 : Int), []))])), (.inr (some (.inl (ck_one 1))), (249 : Nat), ([], [], [((207 : Nat), (5 : Int), (5 : Int), ((-1 : Int), (300 : Int), []))]))])
theorem q31n_207_s : ck_Ok qL_O X LX 31 q31n_207 := ck_okq (cuts := []) (f := 100) ⟨qL_nmu, ck_E0⟩ (by decide +kernel)
noncomputable def q32n_207 : ck_Sum := (((13 : Nat), (0 : Nat), (0 : Nat)), (249 : Nat), [.inr (.inr (.inl (207 : Nat)))], ([], [((3 : Nat), (8 : Int), (246 : Nat))], [((207 : Nat), (2 : Int), (2 : Int), ((-1 : Int), (-1 : Int), [])), ((207 : Nat), (5 : Int), (5 : Int), ((-1 : Int), (300 : Int), [])), ((207 : Nat), (7 : Int), (7 : Int), ((0 : Int), (299 : Int), [((29 : Nat), (0 : Int))]))]), ([((200 : Nat), (6 : Int), (6 : Int)), ((204 : Nat), (0 : Int), (9 : Int)), ((205 : Nat), (0 : Int), (14849 : Int)), ((207 : Nat), (5 : Int), (8 : Int))], []), [(.inr none, (249 : Nat), ([], [], [((207 : Nat), (5 : Int), (5 : Int), ((-1 : Int), (300 : Int), [])), ((207 : Nat), (7 : Int), (7 : Int), ((1 : Int), (300 : Int), [((29 : Nat), (1 : Int))]))]))])
set_option maxRecDepth 100000 in
theorem q32n_207_e : ck_ok qL_O none [] [(31, [q31n_207]), (33, [q33_207]), (35, [q35n]), (43, [q43n 207])] 32 [] 200 q32n_207 = true := by decide +kernel
theorem q32n_207_s (h33 : ck_Ok qL_O X LX 33 q33_207) (h35 : ck_Ok qL_O X LX 35 q35n) (h43 : ck_Ok qL_O X LX 43 (q43n 207)) : ck_Ok qL_O X LX 32 q32n_207 := ck_ok_s ⟨qL_nmu, ck_E1 (ck_S1 q31n_207_s ck_S0) (ck_E1 (ck_S1 h33 ck_S0) (ck_E1 (ck_S1 h35 ck_S0) (ck_E1 (ck_S1 h43 ck_S0) ck_E0)))⟩ ck_X0 ck_l0 q32n_207_e
noncomputable def q32m_207 : ck_Sum := (((13 : Nat), (0 : Nat), (0 : Nat)), (249 : Nat), [.inr (.inr (.inl (207 : Nat)))], ([], [((3 : Nat), (8 : Int), (246 : Nat))], [((207 : Nat), (2 : Int), (2 : Int), ((-1 : Int), (-1 : Int), [])), ((207 : Nat), (5 : Int), (5 : Int), ((-1 : Int), (300 : Int), [])), ((207 : Nat), (7 : Int), (7 : Int), ((-1 : Int), (-1 : Int), []))]), ([((200 : Nat), (6 : Int), (6 : Int)), ((204 : Nat), (0 : Int), (9 : Int)), ((205 : Nat), (0 : Int), (14849 : Int)), ((207 : Nat), (5 : Int), (8 : Int))], []), [(.inr none, (249 : Nat), ([], [], [((207 : Nat), (5 : Int), (5 : Int), ((-1 : Int), (300 : Int), [])), ((207 : Nat), (7 : Int), (7 : Int), ((0 : Int), (0 : Int), []))]))])
set_option maxRecDepth 100000 in
theorem q32m_207_e : ck_ok qL_O none [] [(31, [q31n_207]), (33, [q33_207]), (35, [q35n]), (43, [q43m_207])] 32 [] 200 q32m_207 = true := by decide +kernel
theorem q32m_207_s (h33 : ck_Ok qL_O X LX 33 q33_207) (h35 : ck_Ok qL_O X LX 35 q35n) (h43 : ck_Ok qL_O X LX 43 (q43m_207)) : ck_Ok qL_O X LX 32 q32m_207 := ck_ok_s ⟨qL_nmu, ck_E1 (ck_S1 q31n_207_s ck_S0) (ck_E1 (ck_S1 h33 ck_S0) (ck_E1 (ck_S1 h35 ck_S0) (ck_E1 (ck_S1 h43 ck_S0) ck_E0)))⟩ ck_X0 ck_l0 q32m_207_e
end ST26
end
