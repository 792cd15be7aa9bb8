/-! LAWS BY EVERY STEP; a call on the class, a call on the reference, as a step of what is told. -/
/-- class and reference told the same -/
noncomputable def REL (la : Nat → Nat) (K : gm_K) (M : gm_M) (N : Int → Int) (lw : Option (List lln)) (A : List (Int → Int)) (im : Option ((Int → Int) × Option (List lln))) (t w : Int) (f : Int → Int) : Prop := RA N lw A im t w f ∧ LWL la K M lw A im ∧ CLV N lw A im t w f M ∧ RFV N lw A im t w f M
/-- the class has done it, the reference hasn't -/
noncomputable def MID (la : Nat → Nat) (K : gm_K) (M : gm_M) (N : Int → Int) (lw : Option (List lln)) (A : List (Int → Int)) (im : Option ((Int → Int) × Option (List lln))) (t w : Int) (f : Int → Int) (N0 : Int → Int) (lw0 : Option (List lln)) (A0 : List (Int → Int)) (im0 : Option ((Int → Int) × Option (List lln))) (t0 w0 : Int) (f0 : Int → Int) : Prop := RA N lw A im t w f ∧ RA N0 lw0 A0 im0 t0 w0 f0 ∧ LWL la K M lw A im ∧ CLV N lw A im t w f M ∧ RFV N0 lw0 A0 im0 t0 w0 f0 M
section MW16
variable {X : Int → Int} {LX : Nat} {g z g1 : Nat} {la la2 : Nat → Nat} {K K2 : gm_K} {R R1 R2 : gm_R} {M M1 M2 : gm_M} {L : gm_L} {st : List gm_V} {Q : gm_Q} {N N0 : Int → Int} {lw lw0 : Option (List lln)} {A A0 A' : List (Int → Int)} {im im0 : Option ((Int → Int) × Option (List lln))} {t w t0 w0 : Int} {f f0 : Int → Int}
theorem lwl_c (h : LWL la K M lw A im) (hl : ∀ s ∈ bg_ss, la s ≤ g) (e3 : la2 3 = la 3) (eS : ∀ i : Nat, i < A'.length → la2 (slotN (M2 42 1) i) = la 3) (e29 : la2 29 = la 29) (eK : ∀ k, 246 ≤ k → k ≤ 245 + 4 * g → K2 k = K k) (eM : ∀ k j, 246 ≤ k → k ≤ 245 + 4 * g → M2 k j = M k j) : LWL la2 K2 M2 lw A' im := by
  obtain ⟨h1, h2, h3⟩ := h
  refine ⟨by rw [e3]; exact lawc_e h1 (hl 3 (by decide)) eK eM, fun i hi => (eS i hi).trans e3.symm, fun NI lI e => ?_⟩
  rw [e29]
  exact lawc_e (h3 NI lI e) (hl 29 (by decide)) eK eM
theorem lwl_e (h : LWL la K M lw A im) (hl : ∀ s ∈ bg_ss, la s ≤ g) (e : ∀ s ∈ bg_ss, la2 s = la s) (e42 : M2 42 1 = M 42 1) (eK : ∀ k, 246 ≤ k → k ≤ 245 + 4 * g → K2 k = K k) (eM : ∀ k j, 246 ≤ k → k ≤ 245 + 4 * g → M2 k j = M k j) : LWL la2 K2 M2 lw A im :=
  lwl_c h hl (e 3 (by decide)) (fun i hi => by rw [e42, e _ slotN_s]; exact h.2.1 i hi) (e 29 (by decide)) eK eM
theorem la_u {s c c' : Nat} (hz : bs_ok la z g1) (hs : s ∈ bg_ss) (hc' : c' ∈ bg_ss) : bg_la la g 0 (gm_uR (bs_R z g1) c 8 (bs_R z g1 c' 8)) s = if s = c then la c' else la s := by
  show bg_dc la g 0 (gm_uR (bs_R z g1) c 8 (bs_R z g1 c' 8) s 8) = _
  unfold gm_uR
  by_cases e : s = c
  · rw [if_pos ⟨e, rfl⟩, if_pos e]
    exact bg_dcs hz hc'
  · rw [if_neg (fun h => e h.1), if_neg e]
    exact bg_dcs hz hs
theorem lwl_step (h : LWL la K M lw A im) (hl : ∀ s ∈ bg_ss, la s ≤ g) (hz : bs_ok la z g1) (hs : STEP (bs_R z g1) R1 (bs_M la M) M1 A A') (e42 : M2 42 1 = M1 42 1) (eK : ∀ k, 246 ≤ k → k ≤ 245 + 4 * g → K2 k = K k) (eM : ∀ k j, 246 ≤ k → k ≤ 245 + 4 * g → M2 k j = M k j) : LWL (bg_la la g 0 R1) K2 M2 lw A' im := by
  have v42 : bs_M la M 42 1 = M 42 1 := vM (by decide)
  have n3 : ∀ p : Nat, ¬ 3 = 44 + 13 * p := fun p => by omega
  have n29 : ∀ p : Nat, ¬ 29 = 44 + 13 * p := fun p => by omega
  rcases hs with ⟨rfl, h1, rfl⟩ | ⟨p, hp, ⟨h1, h2⟩, rfl, N0, rfl⟩ | ⟨p, hp, ⟨h1, h2⟩, rfl, N0, rfl⟩
  · exact lwl_e h hl (fun s hs => bg_dcs hz hs) (by rw [e42, h1, v42]) eK eM
  · rw [v42] at h1
    refine lwl_c h hl ((la_u hz (by decide) (by decide)).trans (if_neg (n3 p))) (fun i hi => ?_) ((la_u hz (by decide) (by decide)).trans (if_neg (n29 p))) eK eM
    rw [la_u hz slotN_s (by decide)]
    have hi2 : i < 12 ∧ i < A.length + 1 := by
      rw [List.length_take, List.length_cons] at hi
      omega
    rw [e42, h2]
    cases i with
    | zero =>
      rw [if_pos (by unfold slotN; omega)]
    | succ i =>
      rw [if_neg (by unfold slotN; omega), show slotN (((p : Int) + 1) % 12) (i + 1) = slotN (M 42 1) i by rw [h1]; unfold slotN; omega]
      exact h.2.1 i (by omega)
  · rw [v42] at h2
    have e0 : la (44 + 13 * p) = la 3 := by
      have := h.2.1 0 (by rw [List.length_cons]; omega)
      rw [h2, show slotN (((p : Int) + 1) % 12) 0 = 44 + 13 * p by unfold slotN; omega] at this
      exact this
    have e9 : ∀ s ∈ bg_ss, bg_la la g 0 (gm_uR (bs_R z g1) 3 8 (bs_R z g1 (44 + 13 * p) 8)) s = la s := fun s hs => by
      rw [la_u hz hs (slot_s hp)]
      by_cases e : s = 3
      · rw [if_pos e, e, e0]
      · rw [if_neg e]
    refine lwl_c h hl (e9 3 (by decide)) (fun i hi => ?_) (e9 29 (by decide)) eK eM
    rw [e9 _ slotN_s, e42, h1, show slotN (p : Int) i = slotN (M 42 1) (i + 1) by rw [h2]; unfold slotN; omega]
    exact h.2.1 (i + 1) (by rw [List.length_cons]; omega)
theorem lwl_v (h : LWL la K M lw A im) (hl : ∀ s ∈ bg_ss, la s ≤ g) (hz : bs_ok la z g1) (hr : R1 = gm_uR (bs_R z g1) 16 8 (bs_R z g1 3 8) ∨ R1 = gm_uR (gm_uR (bs_R z g1) 16 8 (bs_R z g1 3 8)) 3 8 ((gm_uR (bs_R z g1) 16 8 (bs_R z g1 3 8)) 16 8)) (hA : A' = A ∨ A' = []) (e42 : M2 42 1 = M 42 1) (eK : ∀ k, 246 ≤ k → k ≤ 245 + 4 * g → K2 k = K k) (eM : ∀ k j, 246 ≤ k → k ≤ 245 + 4 * g → M2 k j = M k j) : LWL (bg_la la g 0 R1) K2 M2 lw A' im := by
  have e9 : ∀ s ∈ bg_ss, ¬ s = 16 → bg_la la g 0 R1 s = la s := fun s hs h16 => by
    rcases hr with rfl | rfl
    · rw [la_u hz hs (by decide), if_neg h16]
    · show bg_dc la g 0 (gm_uR (gm_uR (bs_R z g1) 16 8 (bs_R z g1 3 8)) 3 8 ((gm_uR (bs_R z g1) 16 8 (bs_R z g1 3 8)) 16 8) s 8) = _
      by_cases e3 : s = 3
      · subst e3
        rw [show gm_uR (gm_uR (bs_R z g1) 16 8 (bs_R z g1 3 8)) 3 8 ((gm_uR (bs_R z g1) 16 8 (bs_R z g1 3 8)) 16 8) 3 8 = bs_R z g1 3 8 by unfold gm_uR; rw [if_pos ⟨rfl, rfl⟩, if_pos ⟨rfl, rfl⟩]]
        exact bg_dcs hz hs
      · rw [show gm_uR (gm_uR (bs_R z g1) 16 8 (bs_R z g1 3 8)) 3 8 ((gm_uR (bs_R z g1) 16 8 (bs_R z g1 3 8)) 16 8) s 8 = bs_R z g1 s 8 by unfold gm_uR; rw [if_neg (fun h => e3 h.1), if_neg (fun h => h16 h.1)]]
        exact bg_dcs hz hs
  refine lwl_c h hl (e9 3 (by decide) (by decide)) (fun i hi => ?_) (e9 29 (by decide) (by decide)) eK eM
  rcases hA with rfl | rfl
  · rw [e9 _ slotN_s (by unfold slotN; omega), e42]
    exact h.2.1 i hi
  · exact absurd hi (Nat.not_lt_zero _)
theorem lwl_im (h : LWL la K M lw A im) (hl : ∀ s ∈ bg_ss, la s ≤ g) (hz : bs_ok la z g1) (e42 : M2 42 1 = M 42 1) (eK : ∀ k, 246 ≤ k → k ≤ 245 + 4 * g → K2 k = K k) (eM : ∀ k j, 246 ≤ k → k ≤ 245 + 4 * g → M2 k j = M k j) : LWL (bg_la la g 0 (gm_uR (bs_R z g1) 29 8 (bs_R z g1 3 8))) K2 M2 lw A (some (N, lw)) := by
  obtain ⟨h1, h2, h3⟩ := h
  have e3 : bg_la la g 0 (gm_uR (bs_R z g1) 29 8 (bs_R z g1 3 8)) 3 = la 3 := (la_u hz (by decide) (by decide)).trans (if_neg (by decide))
  have e29 : bg_la la g 0 (gm_uR (bs_R z g1) 29 8 (bs_R z g1 3 8)) 29 = la 3 := (la_u hz (by decide) (by decide)).trans (if_pos rfl)
  refine ⟨by rw [e3]; exact lawc_e h1 (hl 3 (by decide)) eK eM, fun i hi => ?_, fun NI lI e => ?_⟩
  · rw [e3, la_u hz slotN_s (by decide), if_neg (by unfold slotN; omega), e42]
    exact h2 i hi
  · cases e
    rw [e29]
    exact lawc_e h1 (hl 3 (by decide)) eK eM
theorem lwl_bk {NI : Int → Int} {lI : Option (List lln)} (h : LWL la K M lw A (some (NI, lI))) (hl : ∀ s ∈ bg_ss, la s ≤ g) (hz : bs_ok la z g1) (eK : ∀ k, 246 ≤ k → k ≤ 245 + 4 * g → K2 k = K k) (eM : ∀ k j, 246 ≤ k → k ≤ 245 + 4 * g → M2 k j = M k j) : LWL (bg_la la g 0 (gm_uR (bs_R z g1) 3 8 (bs_R z g1 29 8))) K2 M2 lI [] (some (NI, lI)) := by
  obtain ⟨h1, h2, h3⟩ := h
  have e3 : bg_la la g 0 (gm_uR (bs_R z g1) 3 8 (bs_R z g1 29 8)) 3 = la 29 := (la_u hz (by decide) (by decide)).trans (if_pos rfl)
  have e29 : bg_la la g 0 (gm_uR (bs_R z g1) 3 8 (bs_R z g1 29 8)) 29 = la 29 := (la_u hz (by decide) (by decide)).trans (if_neg (by decide))
  have h4 := lawc_e (h3 NI lI rfl) (hl 29 (by decide)) eK eM
  refine ⟨by rw [e3]; exact h4, fun i hi => absurd hi (Nat.not_lt_zero _), fun NI2 lI2 e => ?_⟩
  cases e
  rw [e29]
  exact h4
/-- behind a call on the class -/
noncomputable def mw_K (X : Int → Int) (LX bc bs pc : Nat) (L : gm_L) (st : List gm_V) (Q : gm_Q) (g : Nat) (u : Option gm_V) (ov : Option Int) (P : (Nat → Nat) → gm_K → gm_M → Prop) : Prop := ∀ (la2 : Nat → Nat) (K2 : gm_K) (R2 : gm_R) (M2 : gm_M), bg g la2 K2 R2 M2 → P la2 K2 M2 → (∀ v, ov = some v → Int64.ofInt (M2 245 0) = Int64.ofInt (gm_w v)) → gm_Wp X LX 280 (bc - 6) (bs - 600) 370 pc L (u.toList ++ st) (245 + 4 * g) K2 R2 M2 Q
theorem mw_in {l : List ck_Sum} {ds : List (Int × Int)} {xs : List Int} (hv : bc_cov 60 ds (l.map bc_box) = true) (hx : bc_in ds xs) : ∃ S ∈ l, bc_in (bc_box S) xs := by
  obtain ⟨r, hr, h⟩ := bc_cov_s 60 ds _ xs hv hx
  obtain ⟨S, hS, rfl⟩ := List.mem_map.mp hr
  exact ⟨S, hS, h⟩
theorem mw_k1 (hb : bg g la K R M) : (K 1).1 = 0 + 4 ∧ (K 226).1 = 11 + 4 := ⟨(e0k (e0F hb.2.1) (k := 1) (c := 0) (by decide +kernel)).2, (e0k (e0F hb.2.1) (k := 226) (c := 11) (by decide +kernel)).2⟩
section MWX
variable {bc bs pc ix mj : Nat} {l0 l1 l : List ck_Sum} {ds : List (Int × Int)} {xs : List Int} {u : Option gm_V} {ov oc : Option Int} {RR : Nat → Nat → gm_R → gm_M → Prop} {P : Option gm_V → Prop}
theorem wx_go (hR : REL la K M N0 lw0 A0 im0 t0 w0 f0) (hRA : RA N lw A im t w f) (hL : ∀ R1 M1 K2 M2, RR z g1 R1 M1 → (∀ k, 246 ≤ k → k ≤ 245 + 4 * g → K2 k = K k) → (∀ k j, 246 ≤ k → k ≤ 245 + 4 * g → M2 k j = M k j) → M2 42 1 = M1 42 1 → LWL (bg_la la g 0 R1) K2 M2 lw A im) (k : mw_K X LX bc bs pc L st Q g u ov (fun la2 K2 M2 => MID la2 K2 M2 N lw A im t w f N0 lw0 A0 im0 t0 w0 f0)) : wx_K X LX bc bs pc L st Q g z g1 la K M u ov (RR z g1) N lw A im t w f N0 lw0 A0 im0 t0 w0 f0 :=
  fun R1 M1 K2 R2 M2 hrr hb2 eK eM e42 hv hC hF => k _ K2 R2 M2 hb2 ⟨hRA, hR.1, hL R1 M1 K2 M2 hrr eK eM e42, hC, hF⟩ hv
/-- a call on the class by one of the law's own methods -/
theorem mw_x (hb : bg g la K R M) (hg : g < 10000) (hR : REL la K M N0 lw0 A0 im0 t0 w0 f0) (hRA : RA N lw A im t w f) (h : gm_at 370 pc = some (.invokestatic ix)) (hc : gm_cal (gm_ow 370) ix = some (5, mj)) (hmx : gm_ow mj ≠ gm_mxi) (hhj : ¬ gm_hh mj = []) (hna : xs.length + 2 = gm_na mj) (hlen : xs.length + 2 ≤ gm_ml mj) (hst : (st.map gm_cat).sum ≤ 8) (s0 : ∀ S ∈ l0, ck_Ok p2_O X LX mj S) (s1 : ∀ S ∈ l1, ck_Ok p2_OL X LX mj S) (c0 : l0.all (w_x p2_O 0 0 1 true) = true) (c1 : l1.all (w_x p2_OL 246 1 1 true) = true) (v0 : bc_cov 60 ds (l0.map bc_box) = true) (v1 : bc_cov 60 ds (l1.map bc_box) = true) (hx : bc_in ds xs) (hi : ∀ x ∈ xs, gm_ir x) (hbc : 6 ≤ bc) (hbs : 600 ≤ bs) (hu : u = none ∨ ∃ x, u = some (gm_vi x))
    (hf : ∀ z g1, bs_ok la z g1 → ¬ z = 100003 → gm_Wp X LX 279 6 600 mj 0 (gm_ent mj (gm_vr 1 :: bc_as xs true)) [] (245 + 4 * g1) (bs_K la K) (bs_R z g1) (bs_M la M) (DQ (245 + 4 * g1) (bs_K la K) u ov (RR z g1) N lw A im t w f))
    (hRR : ∀ z g1 R1 M1, bs_ok la z g1 → RR z g1 R1 M1 → rvR z g1 R1) (hL : ∀ z g1 R1 M1 K2 M2, bs_ok la z g1 → RR z g1 R1 M1 → (∀ k, 246 ≤ k → k ≤ 245 + 4 * g → K2 k = K k) → (∀ k j, 246 ≤ k → k ≤ 245 + 4 * g → M2 k j = M k j) → M2 42 1 = M1 42 1 → LWL (bg_la la g 0 R1) K2 M2 lw A im)
    (k : mw_K X LX bc bs (pc + 3) L st Q g u ov (fun la2 K2 M2 => MID la2 K2 M2 N lw A im t w f N0 lw0 A0 im0 t0 w0 f0)) : gm_Wp X LX 280 bc bs 370 pc L (gm_vr 245 :: ((xs.map gm_vi).reverse ++ gm_vr 1 :: st)) (245 + 4 * g) K R M Q := by
  by_cases h3 : la 3 = 0
  · have hz : bs_ok la 0 0 := Or.inl ⟨rfl, rfl, h3⟩
    obtain ⟨S, hS, hin⟩ := mw_in v0 hx
    have hck := List.all_eq_true.mp c0 S hS
    have hk2 := wx_s hb hz hg (fun _ _ _ _ h => h) hck hRA hR.2.2.2 hu (fun R1 M1 h => hRR 0 0 R1 M1 hz h) (wx_go hR hRA (fun R1 M1 K2 M2 h a b c => hL 0 0 R1 M1 K2 M2 hz h a b c) k)
    simp only [w_x, bc_ok, Bool.and_eq_true, decide_eq_true_eq] at hck
    exact bc_statM (O := p2_O) (z := 0) (g1 := 0) (d' := 279) (bc' := 6) (bs' := 600) hb hz p2_nmu (bs_F0 hb) h hc hmx hhj hna hlen hst (s0 S hS) hck.1.1 hck.1.2.1 (by omega) (by omega) (by omega) (by decide) hbc hbs (fun σ => bc_gas2 hck.2.1 hin hi) (hf 0 0 hz (by decide)) hk2
  · have hz : bs_ok la 246 1 := Or.inr (Or.inr ⟨rfl, rfl, h3⟩)
    obtain ⟨S, hS, hin⟩ := mw_in v1 hx
    have hck := List.all_eq_true.mp c1 S hS
    have hk2 := wx_s hb hz hg (fun _ _ _ _ h => pl_o h) hck hRA hR.2.2.2 hu (fun R1 M1 h => hRR 246 1 R1 M1 hz h) (wx_go hR hRA (fun R1 M1 K2 M2 h a b c => hL 246 1 R1 M1 K2 M2 hz h a b c) k)
    simp only [w_x, bc_ok, Bool.and_eq_true, decide_eq_true_eq] at hck
    exact bc_statM (O := p2_OL) (z := 246) (g1 := 1) (d' := 279) (bc' := 6) (bs' := 600) hb hz pl_nmu (bs_F1 hb h3) h hc hmx hhj hna hlen hst (s1 S hS) hck.1.1 hck.1.2.1 (by omega) (by omega) (by omega) (by decide) hbc hbs (fun σ => bc_gas2 hck.2.1 hin hi) (hf 246 1 hz (by decide)) hk2
theorem mw_as (xs : List Int) : bc_as xs false = xs.map gm_vi := by simp [bc_as]
/-- a call on the class itself -/
theorem mw_d (hb : bg g la K R M) (hg : g < 10000) (hR : REL la K M N0 lw0 A0 im0 t0 w0 f0) (hRA : RA N lw A im t w f) (h : gm_at 370 pc = some (.invokevirtual ix)) (hc : gm_cal (gm_ow 370) ix = some (0, mj)) (hmx : gm_ow mj ≠ gm_mxi) (hcn : gm_cn 0 = (gm_mn mj).cls) (hna : xs.length = gm_na mj) (hlen : xs.length + 1 ≤ gm_ml mj) (hst : (st.map gm_cat).sum ≤ 8) (s0 : ∀ S ∈ l0, ck_Ok p2_O X LX mj S) (s1 : ∀ S ∈ l1, ck_Ok p2_OL X LX mj S) (c0 : l0.all (w_x p2_O 0 0 1 false) = true) (c1 : l1.all (w_x p2_OL 246 1 1 false) = true) (v0 : bc_cov 60 ds (l0.map bc_box) = true) (v1 : bc_cov 60 ds (l1.map bc_box) = true) (hx : bc_in ds xs) (hi : ∀ x ∈ xs, gm_ir x) (hbc : 6 ≤ bc) (hbs : 600 ≤ bs) (hu : u = none ∨ ∃ x, u = some (gm_vi x))
    (hf : ∀ z g1, bs_ok la z g1 → ¬ z = 100003 → gm_Wp X LX 279 6 600 mj 0 (gm_ent mj (gm_vr 1 :: xs.map gm_vi)) [] (245 + 4 * g1) (bs_K la K) (bs_R z g1) (bs_M la M) (DQ (245 + 4 * g1) (bs_K la K) u ov (RR z g1) N lw A im t w f))
    (hRR : ∀ z g1 R1 M1, bs_ok la z g1 → RR z g1 R1 M1 → rvR z g1 R1) (hL : ∀ z g1 R1 M1 K2 M2, bs_ok la z g1 → RR z g1 R1 M1 → (∀ k, 246 ≤ k → k ≤ 245 + 4 * g → K2 k = K k) → (∀ k j, 246 ≤ k → k ≤ 245 + 4 * g → M2 k j = M k j) → M2 42 1 = M1 42 1 → LWL (bg_la la g 0 R1) K2 M2 lw A im)
    (k : mw_K X LX bc bs (pc + 3) L st Q g u ov (fun la2 K2 M2 => MID la2 K2 M2 N lw A im t w f N0 lw0 A0 im0 t0 w0 f0)) : gm_Wp X LX 280 bc bs 370 pc L ((xs.map gm_vi).reverse ++ gm_vr 1 :: st) (245 + 4 * g) K R M Q := by
  have ea : ∀ {S : ck_Sum}, bc_args S 1 false = true → bc_in (bc_box S) xs → ∀ σ, ck_gas σ S.2.2.1 (gm_vr 1 :: xs.map gm_vi) := fun ha hin σ => by
    have := bc_gas2 (σ := σ) ha hin hi
    rwa [mw_as] at this
  by_cases h3 : la 3 = 0
  · have hz : bs_ok la 0 0 := Or.inl ⟨rfl, rfl, h3⟩
    obtain ⟨S, hS, hin⟩ := mw_in v0 hx
    have hck := List.all_eq_true.mp c0 S hS
    have hk2 := wx_s hb hz hg (fun _ _ _ _ h => h) hck hRA hR.2.2.2 hu (fun R1 M1 h => hRR 0 0 R1 M1 hz h) (wx_go hR hRA (fun R1 M1 K2 M2 h a b c => hL 0 0 R1 M1 K2 M2 hz h a b c) k)
    simp only [w_x, bc_ok, Bool.and_eq_true, decide_eq_true_eq] at hck
    exact bc_virtM (O := p2_O) (z := 0) (g1 := 0) (k1 := 1) (ci := 0) (d' := 279) (bc' := 6) (bs' := 600) hb hz p2_nmu (bs_F0 hb) ⟨by decide, by decide⟩ (mw_k1 hb).1 h hc hmx (by decide) hcn hna hlen hst (s0 S hS) hck.1.1 hck.1.2.1 (by omega) (by omega) (by omega) (by decide) hbc hbs (ea hck.2.1 hin) (hf 0 0 hz (by decide)) hk2
  · have hz : bs_ok la 246 1 := Or.inr (Or.inr ⟨rfl, rfl, h3⟩)
    obtain ⟨S, hS, hin⟩ := mw_in v1 hx
    have hck := List.all_eq_true.mp c1 S hS
    have hk2 := wx_s hb hz hg (fun _ _ _ _ h => pl_o h) hck hRA hR.2.2.2 hu (fun R1 M1 h => hRR 246 1 R1 M1 hz h) (wx_go hR hRA (fun R1 M1 K2 M2 h a b c => hL 246 1 R1 M1 K2 M2 hz h a b c) k)
    simp only [w_x, bc_ok, Bool.and_eq_true, decide_eq_true_eq] at hck
    exact bc_virtM (O := p2_OL) (z := 246) (g1 := 1) (k1 := 1) (ci := 0) (d' := 279) (bc' := 6) (bs' := 600) hb hz pl_nmu (bs_F1 hb h3) ⟨by decide, by decide⟩ (mw_k1 hb).1 h hc hmx (by decide) hcn hna hlen hst (s1 S hS) hck.1.1 hck.1.2.1 (by omega) (by omega) (by omega) (by decide) hbc hbs (ea hck.2.1 hin) (hf 246 1 hz (by decide)) hk2
/-- behind a call on the reference -/
noncomputable def mm_K (X : Int → Int) (LX bc bs pc : Nat) (L : gm_L) (st : List gm_V) (Q : gm_Q) (g : Nat) (M : gm_M) (P : Option gm_V → Prop) (oc : Option Int) (RL : (Nat → Nat) → gm_K → gm_M → Prop) : Prop := ∀ (u : Option gm_V) (la2 : Nat → Nat) (K2 : gm_K) (R2 : gm_R) (M2 : gm_M), P u → bg g la2 K2 R2 M2 → RL la2 K2 M2 → M2 245 0 = M 245 0 → (∀ c, oc = some c → M2 226 0 = c) → gm_Wp X LX 280 (bc - 6) (bs - 600) 370 pc L (u.toList ++ st) (245 + 4 * g) K2 R2 M2 Q
theorem mw_m (hb : bg g la K R M) (hg : g < 10000) (hR : MID la K M N lw A im t w f N0 lw0 A0 im0 t0 w0 f0) (h : gm_at 370 pc = some (.invokevirtual ix)) (hc : gm_cal (gm_ow 370) ix = some (0, mj)) (hmx : gm_ow mj ≠ gm_mxi) (hcn : gm_cn 11 = (gm_mn mj).cls) (hna : xs.length = gm_na mj) (hlen : xs.length + 1 ≤ gm_ml mj) (hst : (st.map gm_cat).sum ≤ 8) (s0 : ∀ S ∈ l, ck_Ok p2_O X LX mj S) (c0 : l.all w_m = true) (v0 : bc_cov 60 ds (l.map bc_box) = true) (hx : bc_in ds xs) (hi : ∀ x ∈ xs, gm_ir x) (hbc : 6 ≤ bc) (hbs : 600 ≤ bs) (hP : ∀ u, P u → u = none ∨ ∃ x, u = some (gm_vi x))
    (hf : gm_Wp X LX 279 6 600 mj 0 (gm_ent mj (gm_vr 226 :: xs.map gm_vi)) [] 245 (bs_K la K) (bs_R 100003 0) (bs_M la M) (RDQ 245 (bs_K la K) (bs_R 100003 0) P oc N lw A im t w f))
    (k : mm_K X LX bc bs (pc + 3) L st Q g M P oc (fun la2 K2 M2 => REL la2 K2 M2 N lw A im t w f)) : gm_Wp X LX 280 bc bs 370 pc L ((xs.map gm_vi).reverse ++ gm_vr 226 :: st) (245 + 4 * g) K R M Q := by
  have ea : ∀ {S : ck_Sum}, bc_args S 226 false = true → bc_in (bc_box S) xs → ∀ σ, ck_gas σ S.2.2.1 (gm_vr 226 :: xs.map gm_vi) := fun ha hin σ => by
    have := bc_gas2 (σ := σ) ha hin hi
    rwa [mw_as] at this
  obtain ⟨hRA, hRA0, hLW, hC, hRf⟩ := hR
  have hl := hb.2.2.2
  obtain ⟨S, hS, hin⟩ := mw_in v0 hx
  have hck := List.all_eq_true.mp c0 S hS
  have hk2 := wm_s (st := st) (L := L) (Q := Q) (X := X) (LX := LX) (pc := pc + 3) (bc := bc) (bs := bs) (P := P) (oc := oc) hb hg hck hRA hC hP (fun u la2 K2 R2 M2 hu e hb2 eK eM e42 e245 hcc hC2 hF2 => k u la2 K2 R2 M2 hu hb2 ⟨hRA, lwl_e hLW hl e e42 eK eM, hC2, hF2⟩ e245 hcc)
  simp only [w_m, bc_ok, Bool.and_eq_true, decide_eq_true_eq] at hck
  exact bc_virtM (O := p2_O) (z := 100003) (g1 := 0) (k1 := 226) (ci := 11) (d' := 279) (bc' := 6) (bs' := 600) hb (Or.inr (Or.inl ⟨rfl, rfl⟩)) p2_nmu (bs_F0 hb) ⟨by decide, by decide⟩ (mw_k1 hb).2 h hc hmx (by decide) hcn hna hlen hst (s0 S hS) hck.1.1 hck.1.2.1 (by omega) (by omega) (by omega) (by decide) hbc hbs (ea hck.2.1 hin) hf hk2
end MWX
end MW16
