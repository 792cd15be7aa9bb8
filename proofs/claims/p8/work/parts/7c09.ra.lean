/-! THE ACTS OF THE REFERENCE upon the abstract state. -/
noncomputable def RQ (n : Nat) (K : gm_K) (R : gm_R) (r : Int × Int × (Int → Int) × List (Int → Int)) (lw : Option (List lln)) (im : Option ((Int → Int) × Option (List lln))) (t w : Int) (f : Int → Int) : gm_Q := fun o n1 K1 R1 M1 => (n1 = n ∧ K1 = K ∧ R1 = R) ∧ (∃ v, o = .inl (some (gm_vi v)) ∧ (r.1 = 0 → v = r.2.1)) ∧ M1 226 0 = r.1 ∧ RFV r.2.2.1 lw r.2.2.2 im t w f M1
/-- a call on the reference that cannot be refused -/
noncomputable def RC (n : Nat) (K : gm_K) (R : gm_R) (o9 : gm_O) (N : Int → Int) (lw : Option (List lln)) (A : List (Int → Int)) (im : Option ((Int → Int) × Option (List lln))) (t w : Int) (f : Int → Int) : gm_Q := fun o n1 K1 R1 M1 => (n1 = n ∧ K1 = K ∧ R1 = R) ∧ o = o9 ∧ RFV N lw A im t w f M1
noncomputable def RV (n : Nat) (K : gm_K) (R : gm_R) (c v : Int) (N : Int → Int) (lw : Option (List lln)) (A : List (Int → Int)) (im : Option ((Int → Int) × Option (List lln))) (t w : Int) (f : Int → Int) : gm_Q := fun o n1 K1 R1 M1 => (n1 = n ∧ K1 = K ∧ R1 = R) ∧ (∃ v2, o = .inl (some (gm_vi v2)) ∧ (c = 0 → v2 = v)) ∧ M1 226 0 = c ∧ RFV N lw A im t w f M1
section RA9
variable {X : Int → Int} {LX d bc bs n : Nat} {K : gm_K} {R : gm_R} {M M2 : gm_M} {N N2 : Int → Int} {lw : Option (List lln)} {A : List (Int → Int)} {im : Option ((Int → Int) × Option (List lln))} {t w : Int} {f a : Int → Int} {x y l p : Int}
theorem lawr_cg {W W2 : Int → Int} (h : LAWR lw W) (e : ∀ j, (395 ≤ j ∨ j = 8) → j < 1244 → W2 j = W j) : LAWR lw W2 := by
  refine ⟨fun hn => (e 8 (Or.inr rfl) (by decide)).trans (h.1 hn), fun ls hs => ?_⟩
  obtain ⟨⟨a1, a2⟩, a3, a4, a5⟩ := h.2 ls hs
  have h12 := a3.1
  refine ⟨⟨(e 8 (Or.inr rfl) (by decide)).trans a1, (e 395 (Or.inl (by decide)) (by decide)).trans a2⟩, a3, fun k x hx => ?_, fun k x hx => ?_⟩
  · have hk := (List.getElem?_eq_some_iff.mp hx).1
    obtain ⟨b0, b1, b2, b3⟩ := a4 k x hx
    obtain ⟨c0, c1⟩ := a5 k x hx
    rw [e (396 + 4 * (k : Int)) (by omega) (by omega), e (396 + 4 * (k : Int) + 1) (by omega) (by omega), e (396 + 4 * (k : Int) + 2) (by omega) (by omega), e (396 + 4 * (k : Int) + 3) (by omega) (by omega)]
    refine ⟨b0, b1, b2, fun t ht => ⟨(b3 t ht).1, fun j v hv => ?_⟩⟩
    have := c1 t ht j v hv
    rw [e _ (by omega) (by omega), e _ (by omega) (by omega)]
    exact (b3 t ht).2 j v hv
  · have hk := (List.getElem?_eq_some_iff.mp hx).1
    rw [e (396 + 4 * (k : Int) + 2) (by omega) (by omega)]
    exact a5 k x hx
theorem lawr_b {W : Int → Int} (h : LAWR lw W) : ∀ ls, lw = some ls → ∀ k : Nat, k < ls.length → 0 ≤ W (396 + 4 * (k : Int) + 2) := fun ls hs k hk => by
  obtain ⟨x, hx⟩ := lq_at (ls := ls) hk
  exact ((h.2 ls hs).2.2.2 k x hx).1
theorem lawg_of {W : Int → Int} (h : LAWR lw W) (hT : jT fun j => W (395 + j)) : LAWG lw W := ⟨h.1, fun ls hs => by
  obtain ⟨⟨a1, a2⟩, a3, a4, a5⟩ := h.2 ls hs
  exact ⟨a3, a4, lg_of a3 a4 a1 a2 hT⟩⟩
theorem nsb_geo (hg : hgeo N N2) (hN : NR N) (hS : NSb 6 N) : NSb 6 N2 := fun s s0 s1 => by
  have h2 := hN.2.1.1
  have e2 := hg 2 (by decide) (by decide) (by decide)
  rw [e2] at s1
  obtain ⟨a, b⟩ := hS s s0 s1
  refine ⟨by rw [hg (15 + 7 * s) (by omega) (by omega) (by omega)]; exact a, fun l l0 l1 => ?_⟩
  rw [hg (15 + 7 * s + 1 + l) (by omega) (by omega) (by omega)]
  exact b l l0 l1
theorem ns_geo (hg : geo N N2) (hN : NR N) (hS : NS N) : NS N2 := by
  have h2 := hN.2.1.1
  have h0 := hN.1.1
  exact ns_same hS (hg.1 0 (by decide) (by decide) (by decide) (by decide)) (hg.1 2 (by decide) (by decide) (by decide) (by decide)) (fun j j0 j1 => hg.1 j (by omega) (by omega) (by omega) (by omega)) h2.2 h0.2
/-- what lies beside the reference's state -/
theorem rfv_fr {W : List (Nat × Option Int)} (hV : RFV N lw A im t w f M) (hf : fr W M M2) (hw : W.all (fun w => !(w.1 == 227) && (!(w.1 == 228) && (!(w.1 == 230) && (!(w.1 == 231) && (!(w.1 == 234) && (!(w.1 == 235) && !(w.1 == 226 && (w.2 == none || (w.2 == some 5 || (w.2 == some 6 || (w.2 == some 8 || (w.2 == some 13 || w.2 == some 26))))))))))))= true) : RFV N lw A im t w f M2 := by
  refine rfv_e hV (fun k j hk => ?_)
  refine hf k j (fun hm => ?_) (fun hm => ?_)
  · have := List.all_eq_true.mp hw _ hm
    unfold rK at hk
    simp only [Bool.and_eq_true, Bool.not_eq_true', beq_eq_false_iff_ne, ne_eq, Bool.and_eq_false_imp, beq_iff_eq, Bool.or_eq_false_iff] at this
    obtain ⟨g1, g2, g3, g4, g5, g6, g7⟩ := this
    have g7 : ¬ k = 226 := fun e => absurd (g7 e).1 (by simp)
    omega
  · have := List.all_eq_true.mp hw _ hm
    unfold rK at hk
    simp only [Bool.and_eq_true, Bool.not_eq_true', beq_eq_false_iff_ne, ne_eq, Bool.and_eq_false_imp, beq_iff_eq, Bool.or_eq_false_iff, Option.some.injEq] at this
    obtain ⟨g1, g2, g3, g4, g5, g6, g7⟩ := this
    rcases hk with h | h | h | h | h | h | ⟨h, h2⟩
    · exact g1 h
    · exact g2 h
    · exact g3 h
    · exact g4 h
    · exact g5 h
    · exact g6 h
    · obtain ⟨-, c1, c2, c3, c4, c5⟩ := g7 h
      omega
theorem rq_0 {r : Int × Int × (Int → Int) × List (Int → Int)} {c v : Int} (hr : r = (c, 0, N, A)) (hc : ¬ c = 0) (h0 : M 226 0 = c) (hV : RFV N lw A im t w f M) : RQ n K R r lw im t w f (.inl (some (gm_vi v))) n K R M := by
  subst hr
  exact ⟨⟨rfl, rfl, rfl⟩, ⟨v, rfl, fun e => absurd e hc⟩, h0, hV⟩
theorem rr_post {b : Int} {a : Int} (hd : 6 ≤ d) (hE : E0 n K R) (hG : GJ N) (hV : RFV N lw A im t w f M) (ha : gm_ir a) (hb : gm_ir b) : gm_Wp X LX d bc bs 315 0 (gm_ent 315 [gm_vr 226, gm_vi a, gm_vi b]) [] n K R M (RQ n K R (ap_post N A a b) lw im t w f) := by
  have h4 := hG.1.1.2.1.2.2.2.1
  refine ra_315 hd hE hV.1.1 hG.1.1 hV.1.2.2 ha hb (fun h M2 hf h0 => ?_) (fun h1 h2 h3 M2 hf h0 => ?_) (fun h1 h2 h3 h5 M2 hf h0 => ?_) (fun h1 h2 h3 h5 M2 hf hH hw h395 h8 h0 => ?_)
  · exact rq_0 (tif_t h) (by decide) h0 (rfv_fr hV hf (by decide))
  · exact rq_0 ((tif_f (fun hh => hh ⟨h1, h2⟩)).trans (tif_t h3)) (by decide) h0 (rfv_fr hV hf (by decide))
  · exact rq_0 ((tif_f (fun hh => hh ⟨h1, h2⟩)).trans ((tif_f h3).trans (tif_t h5))) (by decide) h0 (rfv_fr hV hf (by decide))
  · have er : ap_post N A a b = (0, N 4, nthr N a b ((N (95 + (a * 3 + 0)))) ((N (95 + (a * 3 + 1)))), (N :: A).take 12) := (tif_f (fun hh => hh ⟨h1, h2⟩)).trans ((tif_f h3).trans (tif_f (by omega)))
    rw [er]
    exact ⟨⟨rfl, rfl, rfl⟩, ⟨_, rfl, fun _ => rfl⟩, h0, rfv_up hV hG.1.1 (hgeo_thr h4.1) hw h395 h8 hH (kfr_e hV.2.1 (fr_j hf (by decide)) (fun j => fr_c hf (by decide))) (fun j hj => by rcases hj with rfl | rfl | rfl <;> exact fr_j hf (by decide)) (fun k j hk => by rcases hk with rfl | rfl | rfl <;> exact fr_c hf (by decide)) (lawr_b hV.1.2.1)⟩
theorem rr_watch (hd : 6 ≤ d) (hE : E0 n K R) (hG : GJ N) (hV : RFV N lw A im t w f M) (ha : gm_ir p) (hb : gm_ir l) : gm_Wp X LX d bc bs 317 0 (gm_ent 317 [gm_vr 226, gm_vi p, gm_vi l]) [] n K R M (RQ n K R (ap_watch N A p l) lw im t w f) := by
  refine ra_317 hd hE hV.1.1 hG.1.1 hV.1.2.2 ha hb (fun h M2 hf h0 => ?_) (fun h1 h2 M2 hf hH hw h395 h8 h0 => ?_)
  · exact rq_0 (tif_t h) (by decide) h0 (rfv_fr hV hf (by decide))
  · have er : ap_watch N A p l = (0, (N (95 + (p * 3 + 2))), nwat N p l, (N :: A).take 12) := tif_f (fun hh => hh ⟨h1, h2⟩)
    rw [er]
    exact ⟨⟨rfl, rfl, rfl⟩, ⟨_, rfl, fun _ => rfl⟩, h0, rfv_up hV hG.1.1 (hgeo_wat h1.1) hw h395 h8 hH (kfr_e hV.2.1 (fr_j hf (by decide)) (fun j => fr_c hf (by decide))) (fun j hj => by rcases hj with rfl | rfl | rfl <;> exact fr_j hf (by decide)) (fun k j hk => by rcases hk with rfl | rfl | rfl <;> exact fr_c hf (by decide)) (lawr_b hV.1.2.1)⟩
theorem rr_open (hd : 20 ≤ d) (hE : E0 n K R) (hT : jT fun j => M 227 (395 + j)) (hS6 : NSb 6 N) (hG : GJ N) (hV : RFV N lw A im t w f M) (hl : gm_ir l) : gm_Wp X LX d bc bs 318 0 (gm_ent 318 [gm_vr 226, gm_vi l]) [] n K R M (RQ n K R (ap_open lw N A l) lw im t w f) := by
  have h4 := hG.1.1.2.1.2.2.2.1
  have hLG := lawg_of hV.1.2.1 hT
  refine ra_318 (φ := aphi lw N (hts (N 13))) (FI := FIR (M 227) lw N (hts (N 13))) (o := aout N (hts (N 13)) (aphi lw N (hts (N 13)))) (dd := adp N (hts (N 13)) (aphi lw N (hts (N 13)))) hd hE hV.1.1 hG.1.1 hG.1.2.2 hV.1.2.2 (flr_a hE hLG hgeo_r hG.1.1 hG.1.1 hS6) ⟨hV.2.1, fun _ _ => rfl⟩ hl (fun _ => aout_s l) (fun h M2 hf h0 => ?_) (fun h1 hw M2 hf hI h0 => ?_) (fun h1 hw M1 M2 hI hf1 hf hH hws h395 h8 h0 => ?_)
  · exact rq_0 (tif_t h) (by decide) h0 (rfv_fr hV hf (by decide))
  · have er : ap_open lw N A l = (2, 0, N, A) := (tif_f (fun hh => hh h1)).trans (tif_t hw)
    refine rq_0 er (by decide) h0 ?_
    exact rfv_up hV hG.1.1 hgeo_r ((congrArg ws (funext fun j => fr_c hf (by decide))).trans hV.1.1.1) (fun j _ => fr_c hf (by decide)) (fr_c hf (by decide)) (hisr_w hV.1.2.2 hf (by decide)) hI.1 (fun j hj => by rcases hj with rfl | rfl | rfl <;> exact fr_j hf (by decide)) (fun k j hk => by rcases hk with rfl | rfl | rfl <;> exact fr_c hf (by decide)) (lawr_b hV.1.2.1)
  · have er : ap_open lw N A l = (0, N 9 - (N (119 + (l * 7 + 3))), nopn N l ((N (119 + (l * 7 + 1)))), (N :: A).take 12) := (tif_f (fun hh => hh h1)).trans (tif_f (fun hh => hh hw))
    rw [er]
    have h14 := logi_lt hG.1.1 hG.1.2.2 h1 hw.2.1
    have hg : geo N (nopn N l ((N (119 + (l * 7 + 1))))) := geo_nopn ⟨h1.1, by omega⟩ h14
    exact ⟨⟨rfl, rfl, rfl⟩, ⟨_, rfl, fun _ => rfl⟩, h0, rfv_up hV hG.1.1 (hgeo_g hg) hws h395 h8 hH (kfr_e hI.1 (fr_j hf1 (by decide)) (fun j => fr_c hf1 (by decide))) (fun j hj => by rcases hj with rfl | rfl | rfl <;> exact fr_j hf (by decide)) (fun k j hk => by rcases hk with rfl | rfl | rfl <;> exact fr_c hf (by decide)) (lawr_b hV.1.2.1)⟩
theorem rr_years (hd : 22 ≤ d) (hE : E0 n K R) (hT : jT fun j => M 227 (395 + j)) (hS6 : NSb 6 N) (hG : GJ N) (hV : RFV N lw A im t w f M) (hy : gm_ir y) : gm_Wp X LX d bc bs 320 0 (gm_ent 320 [gm_vr 226, gm_vi y]) [] n K R M (RQ n K R (ap_years lw N A y) lw im t w f) := by
  have hLG := lawg_of hV.1.2.1 hT
  refine ra_320 (φ := aphi lw N (hts (N 13))) (FI := FIR (M 227) lw N (hts (N 13))) (Ψ := fun N2 => apsi lw N2 (hts (N 13))) (o := aout N (hts (N 13)) (aphi lw N (hts (N 13)))) (dd := adp N (hts (N 13)) (aphi lw N (hts (N 13)))) hd hE hV.1.1 hG.1.1 hG.1.2.2 (fun N2 hg hN2 => flr_a hE hLG (hgeo_g hg) hG.1.1 hN2 (nsb_geo (hgeo_g hg) hG.1.1 hS6)) ⟨hV.2.1, fun _ _ => rfl⟩ (fun N2 hg hN2 => mor_a hE hLG hN2) (fun M1 M2 hI hf h395 h8 => ⟨kfr_e hI.1 (fr_c hf (by decide)) (fun j => fr_c hf (by decide)), fun j hj => by
    rcases hj with hj | rfl
    · exact (h395 j hj).trans (hI.2 j (Or.inl hj))
    · exact h8.trans (hI.2 8 (Or.inr rfl))⟩) (fun l _ _ => aout_s l) hV.1.2.2 hy (fun h M2 hf h0 => ?_) (fun h M2 hf hI hH hws h395 h8 h0 => ?_)
  · exact rq_0 (tif_t h) (by decide) h0 (rfv_fr hV hf (by decide))
  · have er : ap_years lw N A y = (0, (ap_yrs lw N y).2, (ap_yrs lw N y).1, (N :: A).take 12) := tif_f (fun hh => hh h)
    rw [er]
    have hh9 : N 9 + (y.toNat : Int) ≤ 299 := by omega
    obtain ⟨-, -, hg, -⟩ := yrs_i (Ψ := fun N2 => apsi lw N2 (hts (N 13))) (o := aout N (hts (N 13)) (aphi lw N (hts (N 13)))) (dd := adp N (hts (N 13)) (aphi lw N (hts (N 13)))) hG.1.1 hG.1.2.2 y.toNat hh9
    have hg : geo N (ap_yrs lw N y).1 := hg
    exact ⟨⟨rfl, rfl, rfl⟩, ⟨_, rfl, fun _ => rfl⟩, h0, rfv_up hV hG.1.1 (hgeo_g hg) hws h395 h8 hH hI.1 (fun j hj => by rcases hj with rfl | rfl | rfl <;> exact fr_j hf (by decide)) (fun k j hk => by rcases hk with rfl | rfl | rfl <;> exact fr_c hf (by decide)) (lawr_b hV.1.2.1)⟩
theorem rr_undo (hE : E0 n K R) (hG : GJ N) (hA : ∀ N1 ∈ A, GJ N1 ∧ hgeo N N1) (hV : RFV N lw A im t w f M) : gm_Wp X LX d bc bs 238 0 (gm_ent 238 [gm_vr 226]) [] n K R M (RC n K R (.inl (some (gm_vi (ap_undo N A).1))) (ap_undo N A).2.1 lw (ap_undo N A).2.2 im t w f) := by
  refine ud_c238 hE hV.1.2.2 (fun hA0 => ?_) (fun N0 A1 M2 hA0 hH hws h8 h395 h0 hf => ?_)
  · subst hA0
    exact ⟨⟨rfl, rfl, rfl⟩, rfl, rfv_fr hV (W := [(226, some 0)]) (fr_p fr_0 (Or.inr (by decide))) (by decide)⟩
  · subst hA0
    exact ⟨⟨rfl, rfl, rfl⟩, rfl, rfv_up hV hG.1.1 (hA N0 List.mem_cons_self).2 hws h395 h8 hH (kfr_e hV.2.1 (fr_j hf (by decide)) (fun j => fr_c hf (by decide))) (fun j hj => by rcases hj with rfl | rfl | rfl <;> exact fr_j hf (by decide)) (fun k j hk => by rcases hk with rfl | rfl | rfl <;> exact fr_c hf (by decide)) (lawr_b hV.1.2.1)⟩
theorem rr_image (hE : E0 n K R) (hV : RFV N lw A im t w f M) : gm_Wp X LX d bc bs 236 0 (gm_ent 236 [gm_vr 226]) [] n K R M (RC n K R (.inl none) N lw A (some (N, lw)) t w f) := by
  refine ig_c236 hE (fun M2 hf h228 h5 h0 => ?_)
  have e7 : M2 227 = M 227 := funext fun j => fr_c hf (by decide)
  refine ⟨⟨rfl, rfl, rfl⟩, rfl, ⟨⟨by rw [e7]; exact hV.1.1.1, fun y y0 y1 => by rw [fr_c hf (by decide)]; exact hV.1.1.2 y y0 y1⟩, by rw [e7]; exact hV.1.2.1, by rw [e7]; exact hisr_w hV.1.2.2 hf (by decide)⟩, kfr_e hV.2.1 (fr_j hf (by decide)) (fun j => fr_c hf (by decide)), Or.inr ⟨h5, N, lw, rfl, (ws_ext (fun j j0 j1 => h228 j j0 (by omega))).trans hV.1.1.1, lawr_cg hV.1.2.1 (fun j hj h1 => h228 j (by omega) h1)⟩, ⟨(fr_j hf (by decide)).trans hV.2.2.2.1.1, (fr_j hf (by decide)).trans hV.2.2.2.1.2⟩, fun j j0 j1 => (fr_c hf (by decide)).trans (hV.2.2.2.2 j j0 j1)⟩
theorem hisr_nil {g8 : Int} (h : M 226 6 = 0) : HISR [] g8 M := ⟨⟨h, by decide⟩, fun i N1 hi => by simp at hi⟩
theorem kfr_new {φ : Int → Int → Int → Int} (h : M 226 26 = -1) (hb : ∀ j, 0 ≤ j → j < 29700 → 0 ≤ M 235 j ∧ M 235 j ≤ 31) : KFR N φ M := ⟨by rw [h]; decide, hb, fun r y h0 => by rw [h] at h0; exact absurd h0 (by decide)⟩
theorem rr_back (hd : 1 ≤ d) (hE : E0 n K R) (hV : RFV N lw A im t w f M) : gm_Wp X LX d bc bs 237 0 (gm_ent 237 [gm_vr 226]) [] n K R M (RC n K R (.inl (some (gm_vi (ap_back N lw A im).1))) (ap_back N lw A im).2.1 (ap_back N lw A im).2.2.1 (ap_back N lw A im).2.2.2 im t w f) := by
  rcases hV.2.2.1 with ⟨h5, hi⟩ | ⟨h5, NI, lI, hi, hc, hl⟩
  · subst hi
    exact bk_c237 (NI := N) hd hE (Or.inl h5) (fun h => absurd (h5.symm.trans h) (by decide)) (fun _ => ⟨⟨rfl, rfl, rfl⟩, rfl, rfv_fr hV (W := [(226, some 0)]) (fr_p fr_0 (Or.inr (by decide))) (by decide)⟩) (fun h => absurd (h5.symm.trans h) (by decide))
  · subst hi
    refine bk_c237 (NI := NI) hd hE (Or.inr h5) (fun _ => hc) (fun h => absurd (h5.symm.trans h) (by decide)) (fun _ M2 hf hT h227 h1244 h26 h6 h0 => ?_)
    have e8 : M2 228 = M 228 := funext fun j => fr_c hf (by decide)
    exact ⟨⟨rfl, rfl, rfl⟩, rfl, ⟨hT, lawr_cg hl (fun j hj h1 => h227 j hj h1), hisr_nil h6⟩, kfr_new h26 (fun j j0 j1 => by rw [fr_c hf (by decide)]; exact hV.2.1.2.1 j j0 j1), Or.inr ⟨(fr_j hf (by decide)).trans h5, NI, lI, rfl, by rw [e8]; exact hc, by rw [e8]; exact hl⟩, ⟨(fr_j hf (by decide)).trans hV.2.2.2.1.1, (fr_j hf (by decide)).trans hV.2.2.2.1.2⟩, fun j j0 j1 => (fr_c hf (by decide)).trans (hV.2.2.2.2 j j0 j1)⟩
theorem rr_valley (hd : 14 ≤ d) (hE : E0 n K R) (hF : VF f t) (hf9 : M 231 = f) (hG : GJ N) (hV : RFV N lw A im t w f M) : gm_Wp X LX d bc bs 242 0 (gm_ent 242 [gm_vr 226]) [] n K R M (RV n K R (ap_valley f t N A).1 (ap_valley f t N A).2.1 (ap_valley f t N A).2.2.1 lw (ap_valley f t N A).2.2.2.1 im 0 (ap_valley f t N A).2.2.2.2 f) := by
  have hsame : ∀ {M2 : gm_M} {w2 : Int}, fr [(229, none), (226, some 13), (226, some 0), (226, some 10), (226, some 8), (226, some 15), (226, some 9), (226, some 11), (227, none)] M M2 → (∀ j, 0 ≤ j → j < 1244 → M2 227 j = M 227 j) → M2 226 13 = w2 → M2 226 8 = 0 → RFV N lw A im 0 w2 f M2 := fun {M2 w2} hf h227 h13 h8 => by
    have e8 : M2 228 = M 228 := funext fun j => fr_c hf (by decide)
    refine ⟨⟨⟨(ws_ext (fun j j0 j1 => h227 j j0 (by omega))).trans hV.1.1.1, fun y y0 y1 => by rw [fr_c hf (by decide)]; exact hV.1.1.2 y y0 y1⟩, lawr_cg hV.1.2.1 (fun j hj h1 => h227 j (by omega) h1), by rw [h227 8 (by decide) (by decide)]; exact hisr_w hV.1.2.2 hf (by decide)⟩, kfr_e hV.2.1 (fr_j hf (by decide)) (fun j => fr_c hf (by decide)), ?_, ⟨h8, h13⟩, fun j j0 j1 => (fr_c hf (by decide)).trans (hV.2.2.2.2 j j0 j1)⟩
    rw [fr_j (j := 5) hf (by decide), e8]
    exact hV.2.2.1
  refine rv_242 hd hE hF hf9 hV.2.2.2.1.1 hV.1.1 hG.1 (fun M2 hf h227 hv h13 h8 h0 => ?_) (fun M2 hf h227 hv h7 h13 h8 h0 => ?_) (fun M2 hf hv h7 hGI hT hB h13 h8 h0 h6 h26 => ?_)
  · have er : ap_valley f t N A = (1, 0, N, A, (v_val f t N).2.1) := tif_t hv
    rw [er]
    exact ⟨⟨rfl, rfl, rfl⟩, ⟨_, rfl, fun e => absurd (show (1 : Int) = 0 from e) (by decide)⟩, h0, hsame hf h227 h13 h8⟩
  · have er : ap_valley f t N A = (2, 0, N, A, -1) := (tif_f (fun hh => hh hv)).trans (tif_t h7)
    rw [er]
    exact ⟨⟨rfl, rfl, rfl⟩, ⟨_, rfl, fun e => absurd (show (2 : Int) = 0 from e) (by decide)⟩, h0, hsame hf h227 h13 h8⟩
  · have er : ap_valley f t N A = (0, N 7 + 1, nup (v_val f t N).2.2 7 (N 7 + 1), [], -1) := (tif_f (fun hh => hh hv)).trans (tif_f (by omega))
    rw [er]
    have e8 : M2 228 = M 228 := funext fun j => fr_c hf (by decide)
    refine ⟨⟨rfl, rfl, rfl⟩, ⟨_, rfl, fun _ => rfl⟩, h0, ⟨hT, lawr_cg hV.1.2.1 (fun j hj h1 => ?_), hisr_nil h6⟩, kfr_new h26 (fun j j0 j1 => by rw [fr_c hf (by decide)]; exact hV.2.1.2.1 j j0 j1), ?_, ⟨h8, h13⟩, fun j j0 j1 => (fr_c hf (by decide)).trans (hV.2.2.2.2 j j0 j1)⟩
    · rcases hj with hj | rfl
      · exact hB.1 j hj
      · exact hB.2
    · rw [fr_j (j := 5) hf (by decide), e8]
      exact hV.2.2.1
theorem rr_law (hd : 36 ≤ d) (hE : E0 n K R) (hF : VF f t) (hf9 : M 231 = f) (hV : RFV N lw A im t w f M) : gm_Wp X LX d bc bs 283 0 (gm_ent 283 [gm_vr 226]) [] n K R M (RV n K R (ap_law f t lw A).1 (ap_law f t lw A).2.1 N (ap_law f t lw A).2.2.1 (ap_law f t lw A).2.2.2.1 im 0 (ap_law f t lw A).2.2.2.2 f) := by
  refine rl_283 hd hE hF hf9 hV.2.2.2.1.1 hV.1.1 (fun M2 hf h227 hg h13 h8 h0 => ?_) (fun M2 hf hg hLR h395 h1 hT h13 h8 h0 h6 h26 => ?_)
  · have er : ap_law f t lw A = (1, 0, lw, A, (g_law f t).2) := tif_t hg
    rw [er]
    have e8 : M2 228 = M 228 := funext fun j => fr_c hf (by decide)
    refine ⟨⟨rfl, rfl, rfl⟩, ⟨_, rfl, fun e => absurd (show (1 : Int) = 0 from e) (by decide)⟩, h0, ⟨⟨(ws_ext (fun j j0 j1 => h227 j (by omega))).trans hV.1.1.1, fun y y0 y1 => by rw [fr_c hf (by decide)]; exact hV.1.1.2 y y0 y1⟩, lawr_cg hV.1.2.1 (fun j hj h1 => h227 j h1), by rw [h227 8 (by decide)]; exact hisr_w hV.1.2.2 hf (by decide)⟩, kfr_e hV.2.1 (fr_j hf (by decide)) (fun j => fr_c hf (by decide)), ?_, ⟨h8, h13⟩, fun j j0 j1 => (fr_c hf (by decide)).trans (hV.2.2.2.2 j j0 j1)⟩
    rw [fr_j (j := 5) hf (by decide), e8]
    exact hV.2.2.1
  · have er : ap_law f t lw A = (0, (g_law f t).2, some (s_law f t), [], -1) := tif_f (fun hh => hh hg)
    rw [er]
    have e8 : M2 228 = M 228 := funext fun j => fr_c hf (by decide)
    have hW := s_law_w hF.1.1 hg
    obtain ⟨r1, r2⟩ := hLR hW.1
    refine ⟨⟨rfl, rfl, rfl⟩, ⟨_, rfl, fun _ => rfl⟩, h0, ⟨hT, ⟨(fun e => nomatch e), fun ls e => ?_⟩, hisr_nil h6⟩, kfr_new h26 (fun j j0 j1 => by rw [fr_c hf (by decide)]; exact hV.2.1.2.1 j j0 j1), ?_, ⟨h8, h13⟩, fun j j0 j1 => (fr_c hf (by decide)).trans (hV.2.2.2.2 j j0 j1)⟩
    · cases e
      exact ⟨⟨h1, h395.trans (s_law_len hg).symm⟩, hW, r1, r2⟩
    · rw [fr_j (j := 5) hf (by decide), e8]
      exact hV.2.2.1
end RA9
