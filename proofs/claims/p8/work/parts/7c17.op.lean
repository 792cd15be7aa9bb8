/-! THE ACTS, told of the world. -/
section OP17
variable {X : Int → Int} {LX : Nat} {g z g1 n : Nat} {la la2 : Nat → Nat} {K K1 K2 : gm_K} {R R1 R2 : gm_R} {M M1 M2 : gm_M} {L : gm_L} {st : List gm_V} {Q : gm_Q} {N N0 : Int → Int} {lw lw0 : Option (List lln)} {A A0 A' : List (Int → Int)} {im im0 : Option ((Int → Int) × Option (List lln))} {t w t0 w0 : Int} {f f0 : Int → Int} {o : gm_O} {n1 : Nat}
theorem rv_step (hz : bs_ok la z g1) (h : STEP (bs_R z g1) R1 M M1 A A') : rvR z g1 R1 := by
  rcases h with ⟨rfl, -⟩ | ⟨p, hp, -, rfl, -⟩ | ⟨p, hp, -, rfl, -⟩
  · exact rvR_0 hz
  · exact rvR_u (rvR_0 hz) (slot_s hp) (by decide)
  · exact rvR_u (rvR_0 hz) (by decide) (slot_s hp)
theorem rv_v (hz : bs_ok la z g1) (h : R1 = gm_uR (bs_R z g1) 16 8 (bs_R z g1 3 8) ∨ R1 = gm_uR (gm_uR (bs_R z g1) 16 8 (bs_R z g1 3 8)) 3 8 ((gm_uR (bs_R z g1) 16 8 (bs_R z g1 3 8)) 16 8)) : rvR z g1 R1 := by
  have h16 : rvR z g1 (gm_uR (bs_R z g1) 16 8 (bs_R z g1 3 8)) := rvR_u (rvR_0 hz) (by decide) (by decide)
  rcases h with rfl | rfl
  · exact h16
  · exact rvR_u h16 (by decide) (by decide)
/-- what may come of a call: an answer, or which refusal -/
noncomputable def oV (c v : Int) : Option Int := if c = 0 then some v else none
noncomputable def PV (c v : Int) : Option gm_V → Prop := fun u => ∃ x, u = some (gm_vi x) ∧ (c = 0 → x = v)
noncomputable def PU (u0 : Option gm_V) : Option gm_V → Prop := fun u => u = u0
theorem pv_u {c v : Int} : ∀ u, PV c v u → u = none ∨ ∃ x, u = some (gm_vi x) := fun u ⟨x, e, _⟩ => Or.inr ⟨x, e⟩
theorem oV_s {c v y : Int} (h : oV c v = some y) : c = 0 ∧ y = v := by
  unfold oV at h
  by_cases e : c = 0
  · rw [if_pos e] at h
    cases h
    exact ⟨e, rfl⟩
  · rw [if_neg e] at h
    cases h
theorem dq_aq {r : Int × Int × (Int → Int) × List (Int → Int)} (h : AQ n K R M r lw im t w f A o n1 K1 R1 M1) : DQ n K (some (gm_vi r.1)) (oV r.1 r.2.1) (fun R1 M1 => STEP R R1 M M1 A r.2.2.2) r.2.2.1 lw r.2.2.2 im t w f o n1 K1 R1 M1 :=
  ⟨⟨h.1.1, h.1.2.1⟩, h.2.1, fun v hv => by
    obtain ⟨e1, e2⟩ := oV_s hv
    rw [e2]
    exact h.2.2.1 e1, h.2.2.2.1, h.2.2.2.2⟩
theorem rd_rq {r : Int × Int × (Int → Int) × List (Int → Int)} (hc : gm_ir r.1) (h : RQ n K R r lw im t w f o n1 K1 R1 M1) : RDQ n K R (PV r.1 r.2.1) (some r.1) r.2.2.1 lw r.2.2.2 im t w f o n1 K1 R1 M1 := by
  obtain ⟨h1, ⟨v, h2, h3⟩, h4, h5⟩ := h
  exact ⟨h1, ⟨_, h2, v, rfl, h3⟩, fun c e => by cases e; exact ⟨hc, h4⟩, h5⟩
theorem rd_rc {u : Option gm_V} (h : RC n K R (.inl u) N lw A im t w f o n1 K1 R1 M1) : RDQ n K R (PU u) none N lw A im t w f o n1 K1 R1 M1 :=
  ⟨h.1, ⟨u, h.2.1, rfl⟩, (fun c e => nomatch e), h.2.2⟩
theorem rd_rv {c v : Int} (hc : gm_ir c) (h : RV n K R c v N lw A im t w f o n1 K1 R1 M1) : RDQ n K R (PV c v) (some c) N lw A im t w f o n1 K1 R1 M1 := by
  obtain ⟨h1, ⟨v, h2, h3⟩, h4, h5⟩ := h
  exact ⟨h1, ⟨_, h2, v, rfl, h3⟩, fun c e => by cases e; exact ⟨hc, h4⟩, h5⟩
theorem dq_cq {u : Option gm_V} {RR : gm_R → gm_M → Prop} (h : CQ n K M (.inl u) RR N lw A im t w f o n1 K1 R1 M1) : DQ n K u none RR N lw A im t w f o n1 K1 R1 M1 :=
  ⟨⟨h.1.1, h.1.2.1⟩, h.2.1, (fun v e => nomatch e), h.2.2.1, h.2.2.2⟩
theorem dq_vq {r : Int × Int × (Int → Int) × List (Int → Int) × Int} (h : VQ n K R M r lw im f o n1 K1 R1 M1) : DQ n K (some (gm_vi r.1)) (oV r.1 r.2.1) (fun R1 M1 => M1 42 1 = M 42 1 ∧ (R1 = gm_uR R 16 8 (R 3 8) ∨ R1 = gm_uR (gm_uR R 16 8 (R 3 8)) 3 8 ((gm_uR R 16 8 (R 3 8)) 16 8))) r.2.2.1 lw r.2.2.2.1 im 0 r.2.2.2.2 f o n1 K1 R1 M1 :=
  ⟨⟨h.1.1, h.1.2.1⟩, h.2.1, fun v hv => by
    obtain ⟨e1, e2⟩ := oV_s hv
    rw [e2]
    exact h.2.2.1 e1, h.2.2.2.1, h.2.2.2.2⟩
theorem k245 (hE : E0 n K R) : 245 ≤ n ∧ K 245 = (2, 1) := ⟨(hE.1 245 (2, 1) (by decide +kernel)).1.2, (hE.1 245 (2, 1) (by decide +kernel)).2⟩
theorem k1_e (hE : E0 n K R) : (1 ≤ 1 ∧ 1 ≤ n) ∧ (K 1).1 = 0 + 4 := e0k hE (k := 1) (c := 0) (by decide +kernel)
theorem ns6_c : (List.range 8).all (fun s => (match gm_tyr p2_O 227 (15 + 7 * (s : Int)) (15 + 7 * (s : Int)) with
  | some q => decide (0 ≤ q.1 ∧ q.2 ≤ 98)
  | none => false) && (match gm_tyr p2_O 227 (16 + 7 * (s : Int)) (21 + 7 * (s : Int)) with
  | some q => decide (0 ≤ q.1 ∧ q.2 ≤ 20)
  | none => false)) = true := by decide +kernel
/-- speeds of all LANES that there may be -/
theorem ns6 (hF : gm_Fx p2_O n K R M) (hT : ws (M 227) = N) (hN : NR N) : NSb 6 N := fun s s0 s1 => by
  have h2 := hN.2.1.1
  obtain ⟨u, rfl⟩ : ∃ u : Nat, s = (u : Int) := ⟨s.toNat, by omega⟩
  have hc := List.all_eq_true.mp ns6_c u (List.mem_range.mpr (by omega))
  simp only [Bool.and_eq_true] at hc
  have e : ∀ j : Int, 0 ≤ j → j < 395 → ¬ j = 8 → N j = M 227 j := fun j j0 j1 j8 => by
    rw [← hT]
    exact if_pos ⟨j0, j1, j8⟩
  obtain ⟨c1, c2⟩ := hc
  constructor
  · cases h : gm_tyr p2_O 227 (15 + 7 * (u : Int)) (15 + 7 * (u : Int)) with
    | none => rw [h] at c1; cases c1
    | some q =>
      rw [h] at c1
      have c1 := of_decide_eq_true c1
      have := ((gm_tyr_s hF h).2 (15 + 7 * (u : Int)) (Int.le_refl _) (Int.le_refl _)).2
      rw [e _ (by omega) (by omega) (by omega)]
      omega
  · intro l l0 l1
    cases h : gm_tyr p2_O 227 (16 + 7 * (u : Int)) (21 + 7 * (u : Int)) with
    | none => rw [h] at c2; cases c2
    | some q =>
      rw [h] at c2
      have c2 := of_decide_eq_true c2
      have := ((gm_tyr_s hF h).2 (15 + 7 * (u : Int) + 1 + l) (by omega) (by omega)).2
      rw [e _ (by omega) (by omega) (by omega)]
      omega
theorem gJ_w (hb : bg g la K R M) : jT fun j => bs_M la M 227 (395 + j) := (bs_F0 (z := 100003) hb).2.2.2.2.2.2.1

section OPX
variable {bc bs pc ix : Nat} {l0 l1 l9 : List ck_Sum} {ds : List (Int × Int)} {a b p l y x : Int}
theorem ic_post : gm_ir (ap_post N A a b).1 := by
  have T : ∀ {P : Prop} {u v : Int × Int × (Int → Int) × List (Int → Int)}, gm_ir u.1 → gm_ir v.1 → gm_ir (tif P u v).1 := fun hu hv => tif_i (C := fun q : Int × Int × (Int → Int) × List (Int → Int) => gm_ir q.1) hu hv
  unfold ap_post
  exact T (show (-2147483648 : Int) ≤ 1 ∧ (1 : Int) < 2147483648 from by decide) (T (show (-2147483648 : Int) ≤ 2 ∧ (2 : Int) < 2147483648 from by decide) (T (show (-2147483648 : Int) ≤ 3 ∧ (3 : Int) < 2147483648 from by decide) ((show (-2147483648 : Int) ≤ 0 ∧ (0 : Int) < 2147483648 from by decide))))
theorem ow_post (hb : bg g la K R M) (hg : g < 10000) (hR : REL la K M N lw A im t w f) (h : gm_at 370 pc = some (.invokestatic ix)) (hc : gm_cal (gm_ow 370) ix = some (5, 151)) (hst : (st.map gm_cat).sum ≤ 8) (s0 : ∀ S ∈ l0, ck_Ok p2_O X LX 151 S) (s1 : ∀ S ∈ l1, ck_Ok p2_OL X LX 151 S) (c0 : l0.all (w_x p2_O 0 0 1 true) = true) (c1 : l1.all (w_x p2_OL 246 1 1 true) = true) (v0 : bc_cov 60 ds (l0.map bc_box) = true) (v1 : bc_cov 60 ds (l1.map bc_box) = true) (hx : bc_in ds [a, b]) (ha : gm_ir a) (hb2 : gm_ir b) (hbc : 6 ≤ bc) (hbs : 600 ≤ bs) (k : mw_K X LX bc bs (pc + 3) L st Q g (some (gm_vi (ap_post N A a b).1)) (oV (ap_post N A a b).1 (ap_post N A a b).2.1) (fun la2 K2 M2 => MID la2 K2 M2 (ap_post N A a b).2.2.1 lw (ap_post N A a b).2.2.2 im t w f N lw A im t w f)) : gm_Wp X LX 280 bc bs 370 pc L (gm_vr 245 :: gm_vi b :: gm_vi a :: gm_vr 1 :: st) (245 + 4 * g) K R M Q := by
  refine mw_x (xs := [a, b]) (mj := 151) (u := some (gm_vi (ap_post N A a b).1)) (ov := oV (ap_post N A a b).1 (ap_post N A a b).2.1) (RR := fun z g1 R1 M1 => STEP (bs_R z g1) R1 (bs_M la M) M1 A (ap_post N A a b).2.2.2) hb hg hR (ra_post hR.1 ha hb2) h hc (by decide +kernel) (by decide +kernel) (show 2 + 2 = gm_na 151 by decide +kernel) (show 2 + 2 ≤ gm_ml 151 by decide +kernel) hst s0 s1 c0 c1 v0 v1 hx (by intro v hv; simp only [List.mem_cons, List.not_mem_nil, or_false] at hv; rcases hv with rfl | rfl <;> assumption) hbc hbs (Or.inr ⟨_, rfl⟩) (fun z g1 hz hz3 => ?_) (fun z g1 R1 M1 hz hs => rv_step hz hs) (fun z g1 R1 M1 K2 M2 hz hs eK eM e42 => lwl_step hR.2.1 hb.2.2.2 hz hs e42 eK eM) k
  have hE := e0_w hb hz
  exact hl_151 (k1_e hE) (gm_Wp_mono (fun o n1 K1 R1 M1 hq => ⟨hq.1, hq.2.imp (fun ⟨v, e, q⟩ => ⟨v, e, dq_aq q⟩) (fun ⟨i, hi, e, q⟩ => ⟨i, hi, e, dq_aq q⟩)⟩) (ca_post (d := 278) (bc := 6) (bs := 600) (by decide) (by decide) (by decide) hE (k245 hE).1 (k245 hE).2 hR.1.1 (clv_w hb hR.2.2.1) ha hb2))
theorem om_post (hb : bg g la K R M) (hg : g < 10000) (hR : MID la K M (ap_post N A a b).2.2.1 lw (ap_post N A a b).2.2.2 im t w f N lw A im t w f) (h : gm_at 370 pc = some (.invokevirtual ix)) (hc : gm_cal (gm_ow 370) ix = some (0, 315)) (hst : (st.map gm_cat).sum ≤ 8) (s0 : ∀ S ∈ l9, ck_Ok p2_O X LX 315 S) (c0 : l9.all w_m = true) (v0 : bc_cov 60 ds (l9.map bc_box) = true) (hx : bc_in ds [a, b]) (ha : gm_ir a) (hb2 : gm_ir b) (hbc : 6 ≤ bc) (hbs : 600 ≤ bs) (k : mm_K X LX bc bs (pc + 3) L st Q g M (PV (ap_post N A a b).1 (ap_post N A a b).2.1) (some (ap_post N A a b).1) (fun la2 K2 M2 => REL la2 K2 M2 (ap_post N A a b).2.2.1 lw (ap_post N A a b).2.2.2 im t w f)) : gm_Wp X LX 280 bc bs 370 pc L (gm_vi b :: gm_vi a :: gm_vr 226 :: st) (245 + 4 * g) K R M Q := by
  refine mw_m (xs := [a, b]) (mj := 315) (P := PV (ap_post N A a b).1 (ap_post N A a b).2.1) (oc := some (ap_post N A a b).1) hb hg hR h hc (by decide +kernel) (by decide +kernel) (show 2 = gm_na 315 by decide +kernel) (show 2 + 1 ≤ gm_ml 315 by decide +kernel) hst s0 c0 v0 hx (by intro v hv; simp only [List.mem_cons, List.not_mem_nil, or_false] at hv; rcases hv with rfl | rfl <;> assumption) hbc hbs pv_u ?_ k
  exact gm_Wp_mono (fun o n1 K1 R1 M1 hq => rd_rq ic_post hq) (rr_post (by decide) (e0_w hb (Or.inr (Or.inl ⟨rfl, rfl⟩))) hR.2.1.1 (rfv_w hR.2.2.2.2) ha hb2)
theorem ic_watch : gm_ir (ap_watch N A p l).1 := by
  have T : ∀ {P : Prop} {u v : Int × Int × (Int → Int) × List (Int → Int)}, gm_ir u.1 → gm_ir v.1 → gm_ir (tif P u v).1 := fun hu hv => tif_i (C := fun q : Int × Int × (Int → Int) × List (Int → Int) => gm_ir q.1) hu hv
  unfold ap_watch
  exact T (show (-2147483648 : Int) ≤ 1 ∧ (1 : Int) < 2147483648 from by decide) ((show (-2147483648 : Int) ≤ 0 ∧ (0 : Int) < 2147483648 from by decide))
theorem ow_watch (hb : bg g la K R M) (hg : g < 10000) (hR : REL la K M N lw A im t w f) (h : gm_at 370 pc = some (.invokestatic ix)) (hc : gm_cal (gm_ow 370) ix = some (5, 155)) (hst : (st.map gm_cat).sum ≤ 8) (s0 : ∀ S ∈ l0, ck_Ok p2_O X LX 155 S) (s1 : ∀ S ∈ l1, ck_Ok p2_OL X LX 155 S) (c0 : l0.all (w_x p2_O 0 0 1 true) = true) (c1 : l1.all (w_x p2_OL 246 1 1 true) = true) (v0 : bc_cov 60 ds (l0.map bc_box) = true) (v1 : bc_cov 60 ds (l1.map bc_box) = true) (hx : bc_in ds [p, l]) (hp : gm_ir p) (hl : gm_ir l) (hbc : 6 ≤ bc) (hbs : 600 ≤ bs) (k : mw_K X LX bc bs (pc + 3) L st Q g (some (gm_vi (ap_watch N A p l).1)) (oV (ap_watch N A p l).1 (ap_watch N A p l).2.1) (fun la2 K2 M2 => MID la2 K2 M2 (ap_watch N A p l).2.2.1 lw (ap_watch N A p l).2.2.2 im t w f N lw A im t w f)) : gm_Wp X LX 280 bc bs 370 pc L (gm_vr 245 :: gm_vi l :: gm_vi p :: gm_vr 1 :: st) (245 + 4 * g) K R M Q := by
  refine mw_x (xs := [p, l]) (mj := 155) (u := some (gm_vi (ap_watch N A p l).1)) (ov := oV (ap_watch N A p l).1 (ap_watch N A p l).2.1) (RR := fun z g1 R1 M1 => STEP (bs_R z g1) R1 (bs_M la M) M1 A (ap_watch N A p l).2.2.2) hb hg hR (ra_watch hR.1 hl) h hc (by decide +kernel) (by decide +kernel) (show 2 + 2 = gm_na 155 by decide +kernel) (show 2 + 2 ≤ gm_ml 155 by decide +kernel) hst s0 s1 c0 c1 v0 v1 hx (by intro v hv; simp only [List.mem_cons, List.not_mem_nil, or_false] at hv; rcases hv with rfl | rfl <;> assumption) hbc hbs (Or.inr ⟨_, rfl⟩) (fun z g1 hz hz3 => ?_) (fun z g1 R1 M1 hz hs => rv_step hz hs) (fun z g1 R1 M1 K2 M2 hz hs eK eM e42 => lwl_step hR.2.1 hb.2.2.2 hz hs e42 eK eM) k
  have hE := e0_w hb hz
  exact hl_155 (k1_e hE) (gm_Wp_mono (fun o n1 K1 R1 M1 hq => ⟨hq.1, hq.2.imp (fun ⟨v, e, q⟩ => ⟨v, e, dq_aq q⟩) (fun ⟨i, hi, e, q⟩ => ⟨i, hi, e, dq_aq q⟩)⟩) (ca_watch (d := 278) (bc := 6) (bs := 600) (by decide) (by decide) (by decide) hE (k245 hE).1 (k245 hE).2 hR.1.1 (clv_w hb hR.2.2.1) hp hl))
theorem om_watch (hb : bg g la K R M) (hg : g < 10000) (hR : MID la K M (ap_watch N A p l).2.2.1 lw (ap_watch N A p l).2.2.2 im t w f N lw A im t w f) (h : gm_at 370 pc = some (.invokevirtual ix)) (hc : gm_cal (gm_ow 370) ix = some (0, 317)) (hst : (st.map gm_cat).sum ≤ 8) (s0 : ∀ S ∈ l9, ck_Ok p2_O X LX 317 S) (c0 : l9.all w_m = true) (v0 : bc_cov 60 ds (l9.map bc_box) = true) (hx : bc_in ds [p, l]) (hp : gm_ir p) (hl : gm_ir l) (hbc : 6 ≤ bc) (hbs : 600 ≤ bs) (k : mm_K X LX bc bs (pc + 3) L st Q g M (PV (ap_watch N A p l).1 (ap_watch N A p l).2.1) (some (ap_watch N A p l).1) (fun la2 K2 M2 => REL la2 K2 M2 (ap_watch N A p l).2.2.1 lw (ap_watch N A p l).2.2.2 im t w f)) : gm_Wp X LX 280 bc bs 370 pc L (gm_vi l :: gm_vi p :: gm_vr 226 :: st) (245 + 4 * g) K R M Q := by
  refine mw_m (xs := [p, l]) (mj := 317) (P := PV (ap_watch N A p l).1 (ap_watch N A p l).2.1) (oc := some (ap_watch N A p l).1) hb hg hR h hc (by decide +kernel) (by decide +kernel) (show 2 = gm_na 317 by decide +kernel) (show 2 + 1 ≤ gm_ml 317 by decide +kernel) hst s0 c0 v0 hx (by intro v hv; simp only [List.mem_cons, List.not_mem_nil, or_false] at hv; rcases hv with rfl | rfl <;> assumption) hbc hbs pv_u ?_ k
  exact gm_Wp_mono (fun o n1 K1 R1 M1 hq => rd_rq ic_watch hq) (rr_watch (by decide) (e0_w hb (Or.inr (Or.inl ⟨rfl, rfl⟩))) hR.2.1.1 (rfv_w hR.2.2.2.2) hp hl)
theorem ic_open : gm_ir (ap_open lw N A l).1 := by
  have T : ∀ {P : Prop} {u v : Int × Int × (Int → Int) × List (Int → Int)}, gm_ir u.1 → gm_ir v.1 → gm_ir (tif P u v).1 := fun hu hv => tif_i (C := fun q : Int × Int × (Int → Int) × List (Int → Int) => gm_ir q.1) hu hv
  unfold ap_open
  exact T (show (-2147483648 : Int) ≤ 1 ∧ (1 : Int) < 2147483648 from by decide) (T (show (-2147483648 : Int) ≤ 2 ∧ (2 : Int) < 2147483648 from by decide) ((show (-2147483648 : Int) ≤ 0 ∧ (0 : Int) < 2147483648 from by decide)))
theorem ow_open (hb : bg g la K R M) (hg : g < 10000) (hR : REL la K M N lw A im t w f) (h : gm_at 370 pc = some (.invokestatic ix)) (hc : gm_cal (gm_ow 370) ix = some (5, 157)) (hst : (st.map gm_cat).sum ≤ 8) (s0 : ∀ S ∈ l0, ck_Ok p2_O X LX 157 S) (s1 : ∀ S ∈ l1, ck_Ok p2_OL X LX 157 S) (c0 : l0.all (w_x p2_O 0 0 1 true) = true) (c1 : l1.all (w_x p2_OL 246 1 1 true) = true) (v0 : bc_cov 60 ds (l0.map bc_box) = true) (v1 : bc_cov 60 ds (l1.map bc_box) = true) (hx : bc_in ds [l]) (hl : gm_ir l) (hbc : 6 ≤ bc) (hbs : 600 ≤ bs) (k : mw_K X LX bc bs (pc + 3) L st Q g (some (gm_vi (ap_open lw N A l).1)) (oV (ap_open lw N A l).1 (ap_open lw N A l).2.1) (fun la2 K2 M2 => MID la2 K2 M2 (ap_open lw N A l).2.2.1 lw (ap_open lw N A l).2.2.2 im t w f N lw A im t w f)) : gm_Wp X LX 280 bc bs 370 pc L (gm_vr 245 :: gm_vi l :: gm_vr 1 :: st) (245 + 4 * g) K R M Q := by
  refine mw_x (xs := [l]) (mj := 157) (u := some (gm_vi (ap_open lw N A l).1)) (ov := oV (ap_open lw N A l).1 (ap_open lw N A l).2.1) (RR := fun z g1 R1 M1 => STEP (bs_R z g1) R1 (bs_M la M) M1 A (ap_open lw N A l).2.2.2) hb hg hR (ra_open hR.1) h hc (by decide +kernel) (by decide +kernel) (show 1 + 2 = gm_na 157 by decide +kernel) (show 1 + 2 ≤ gm_ml 157 by decide +kernel) hst s0 s1 c0 c1 v0 v1 hx (by intro v hv; simp only [List.mem_cons, List.not_mem_nil, or_false] at hv; rcases hv with rfl <;> assumption) hbc hbs (Or.inr ⟨_, rfl⟩) (fun z g1 hz hz3 => ?_) (fun z g1 R1 M1 hz hs => rv_step hz hs) (fun z g1 R1 M1 K2 M2 hz hs eK eM e42 => lwl_step hR.2.1 hb.2.2.2 hz hs e42 eK eM) k
  have hE := e0_w hb hz
  obtain ⟨NC, C, Ln, hcc, hlb⟩ := cc_w hb hz hz3 hR.2.1.1 hR.2.2.2.1.2.1
  exact hl_157 (k1_e hE) (gm_Wp_mono (fun o n1 K1 R1 M1 hq => ⟨hq.1, hq.2.imp (fun ⟨v, e, q⟩ => ⟨v, e, dq_aq q⟩) (fun ⟨i, hi, e, q⟩ => ⟨i, hi, e, dq_aq q⟩)⟩) (ca_open (d := 278) (bc := 6) (bs := 600) (by decide) (by decide) (by decide) hE (k245 hE).1 (k245 hE).2 hcc hlb hR.1.1 (clv_w hb hR.2.2.1) hl))
theorem om_open (hb : bg g la K R M) (hg : g < 10000) (hR : MID la K M (ap_open lw N A l).2.2.1 lw (ap_open lw N A l).2.2.2 im t w f N lw A im t w f) (h : gm_at 370 pc = some (.invokevirtual ix)) (hc : gm_cal (gm_ow 370) ix = some (0, 318)) (hst : (st.map gm_cat).sum ≤ 8) (s0 : ∀ S ∈ l9, ck_Ok p2_O X LX 318 S) (c0 : l9.all w_m = true) (v0 : bc_cov 60 ds (l9.map bc_box) = true) (hx : bc_in ds [l]) (hl : gm_ir l) (hbc : 6 ≤ bc) (hbs : 600 ≤ bs) (k : mm_K X LX bc bs (pc + 3) L st Q g M (PV (ap_open lw N A l).1 (ap_open lw N A l).2.1) (some (ap_open lw N A l).1) (fun la2 K2 M2 => REL la2 K2 M2 (ap_open lw N A l).2.2.1 lw (ap_open lw N A l).2.2.2 im t w f)) : gm_Wp X LX 280 bc bs 370 pc L (gm_vi l :: gm_vr 226 :: st) (245 + 4 * g) K R M Q := by
  refine mw_m (xs := [l]) (mj := 318) (P := PV (ap_open lw N A l).1 (ap_open lw N A l).2.1) (oc := some (ap_open lw N A l).1) hb hg hR h hc (by decide +kernel) (by decide +kernel) (show 1 = gm_na 318 by decide +kernel) (show 1 + 1 ≤ gm_ml 318 by decide +kernel) hst s0 c0 v0 hx (by intro v hv; simp only [List.mem_cons, List.not_mem_nil, or_false] at hv; rcases hv with rfl <;> assumption) hbc hbs pv_u ?_ k
  exact gm_Wp_mono (fun o n1 K1 R1 M1 hq => rd_rq ic_open hq) (rr_open (by decide) (e0_w hb (Or.inr (Or.inl ⟨rfl, rfl⟩))) (gJ_w hb) (ns6 (bs_F0 (z := 100003) hb) (rfv_w (la := la) hR.2.2.2.2).1.1.1 hR.2.1.1.1.1) hR.2.1.1 (rfv_w hR.2.2.2.2) hl)
theorem ic_years : gm_ir (ap_years lw N A y).1 := by
  have T : ∀ {P : Prop} {u v : Int × Int × (Int → Int) × List (Int → Int)}, gm_ir u.1 → gm_ir v.1 → gm_ir (tif P u v).1 := fun hu hv => tif_i (C := fun q : Int × Int × (Int → Int) × List (Int → Int) => gm_ir q.1) hu hv
  unfold ap_years
  exact T (show (-2147483648 : Int) ≤ 1 ∧ (1 : Int) < 2147483648 from by decide) ((show (-2147483648 : Int) ≤ 0 ∧ (0 : Int) < 2147483648 from by decide))
theorem ow_years (hb : bg g la K R M) (hg : g < 10000) (hR : REL la K M N lw A im t w f) (h : gm_at 370 pc = some (.invokestatic ix)) (hc : gm_cal (gm_ow 370) ix = some (5, 160)) (hst : (st.map gm_cat).sum ≤ 8) (s0 : ∀ S ∈ l0, ck_Ok p2_O X LX 160 S) (s1 : ∀ S ∈ l1, ck_Ok p2_OL X LX 160 S) (c0 : l0.all (w_x p2_O 0 0 1 true) = true) (c1 : l1.all (w_x p2_OL 246 1 1 true) = true) (v0 : bc_cov 60 ds (l0.map bc_box) = true) (v1 : bc_cov 60 ds (l1.map bc_box) = true) (hx : bc_in ds [y]) (hy : gm_ir y) (hbc : 6 ≤ bc) (hbs : 600 ≤ bs) (k : mw_K X LX bc bs (pc + 3) L st Q g (some (gm_vi (ap_years lw N A y).1)) (oV (ap_years lw N A y).1 (ap_years lw N A y).2.1) (fun la2 K2 M2 => MID la2 K2 M2 (ap_years lw N A y).2.2.1 lw (ap_years lw N A y).2.2.2 im t w f N lw A im t w f)) : gm_Wp X LX 280 bc bs 370 pc L (gm_vr 245 :: gm_vi y :: gm_vr 1 :: st) (245 + 4 * g) K R M Q := by
  refine mw_x (xs := [y]) (mj := 160) (u := some (gm_vi (ap_years lw N A y).1)) (ov := oV (ap_years lw N A y).1 (ap_years lw N A y).2.1) (RR := fun z g1 R1 M1 => STEP (bs_R z g1) R1 (bs_M la M) M1 A (ap_years lw N A y).2.2.2) hb hg hR (ra_years hR.1) h hc (by decide +kernel) (by decide +kernel) (show 1 + 2 = gm_na 160 by decide +kernel) (show 1 + 2 ≤ gm_ml 160 by decide +kernel) hst s0 s1 c0 c1 v0 v1 hx (by intro v hv; simp only [List.mem_cons, List.not_mem_nil, or_false] at hv; rcases hv with rfl <;> assumption) hbc hbs (Or.inr ⟨_, rfl⟩) (fun z g1 hz hz3 => ?_) (fun z g1 R1 M1 hz hs => rv_step hz hs) (fun z g1 R1 M1 K2 M2 hz hs eK eM e42 => lwl_step hR.2.1 hb.2.2.2 hz hs e42 eK eM) k
  have hE := e0_w hb hz
  obtain ⟨NC, C, Ln, hcc, hlb⟩ := cc_w hb hz hz3 hR.2.1.1 hR.2.2.2.1.2.1
  exact hl_160 (k1_e hE) (gm_Wp_mono (fun o n1 K1 R1 M1 hq => ⟨hq.1, hq.2.imp (fun ⟨v, e, q⟩ => ⟨v, e, dq_aq q⟩) (fun ⟨i, hi, e, q⟩ => ⟨i, hi, e, dq_aq q⟩)⟩) (ca_years (d := 278) (bc := 6) (bs := 600) (by decide) (by decide) (by decide) hE (k245 hE).1 (k245 hE).2 hcc hlb hR.1.1 (clv_w hb hR.2.2.1) hy))
theorem om_years (hb : bg g la K R M) (hg : g < 10000) (hR : MID la K M (ap_years lw N A y).2.2.1 lw (ap_years lw N A y).2.2.2 im t w f N lw A im t w f) (h : gm_at 370 pc = some (.invokevirtual ix)) (hc : gm_cal (gm_ow 370) ix = some (0, 320)) (hst : (st.map gm_cat).sum ≤ 8) (s0 : ∀ S ∈ l9, ck_Ok p2_O X LX 320 S) (c0 : l9.all w_m = true) (v0 : bc_cov 60 ds (l9.map bc_box) = true) (hx : bc_in ds [y]) (hy : gm_ir y) (hbc : 6 ≤ bc) (hbs : 600 ≤ bs) (k : mm_K X LX bc bs (pc + 3) L st Q g M (PV (ap_years lw N A y).1 (ap_years lw N A y).2.1) (some (ap_years lw N A y).1) (fun la2 K2 M2 => REL la2 K2 M2 (ap_years lw N A y).2.2.1 lw (ap_years lw N A y).2.2.2 im t w f)) : gm_Wp X LX 280 bc bs 370 pc L (gm_vi y :: gm_vr 226 :: st) (245 + 4 * g) K R M Q := by
  refine mw_m (xs := [y]) (mj := 320) (P := PV (ap_years lw N A y).1 (ap_years lw N A y).2.1) (oc := some (ap_years lw N A y).1) hb hg hR h hc (by decide +kernel) (by decide +kernel) (show 1 = gm_na 320 by decide +kernel) (show 1 + 1 ≤ gm_ml 320 by decide +kernel) hst s0 c0 v0 hx (by intro v hv; simp only [List.mem_cons, List.not_mem_nil, or_false] at hv; rcases hv with rfl <;> assumption) hbc hbs pv_u ?_ k
  exact gm_Wp_mono (fun o n1 K1 R1 M1 hq => rd_rq ic_years hq) (rr_years (by decide) (e0_w hb (Or.inr (Or.inl ⟨rfl, rfl⟩))) (gJ_w hb) (ns6 (bs_F0 (z := 100003) hb) (rfv_w (la := la) hR.2.2.2.2).1.1.1 hR.2.1.1.1.1) hR.2.1.1 (rfv_w hR.2.2.2.2) hy)
end OPX
end OP17
