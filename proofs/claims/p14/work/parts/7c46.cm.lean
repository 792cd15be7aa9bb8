/-! HOW AN ANSWER IS TOLD; FAULT. -/
/-- how an answer is told -/
theorem cf_v {q : Int × Int} {v : Int} {o2 : gm_O} {n2 : Nat} {K2 : gm_K} {R2 : gm_R} {M2 : gm_M} (hK : K2 245 = (2, 1)) (e : q = (0, v)) (ho : o2 = .inl (some (gm_vi 0))) : CF q.1 (oV q.1 q.2) o2 n2 K2 R2 (gm_uM M2 245 0 (gm_w v)) := by
  subst e
  subst ho
  refine ⟨hK, rfl, fun v2 h => ?_⟩
  have h : some v = some v2 := (if_pos rfl : oV 0 v = some v).symm.trans h
  cases h
  exact uM_at
theorem cf_x {q : Int × Int} {c : Int} {n2 : Nat} {K2 : gm_K} {R2 : gm_R} {M2 : gm_M} (hK : K2 245 = (2, 1)) (e : q = (c, 0)) (hc : ¬ c = 0) : CF q.1 (oV q.1 q.2) (.inl (some (gm_vi c))) n2 K2 R2 M2 := by
  subst e
  refine ⟨hK, rfl, fun v2 h => ?_⟩
  have h : (none : Option Int) = some v2 := (if_neg hc : oV c 0 = none).symm.trans h
  cases h
theorem rf_e {q : Int × Int} {c v x : Int} {n2 : Nat} {K2 : gm_K} {R2 : gm_R} {M2 : gm_M} (hK : K2 226 = (15, 0)) (e : q = (c, v)) (hx : c = 0 → x = v) (h0 : M2 226 0 = c) : RF q.1 q.2 (.inl (some (gm_vi x))) n2 K2 R2 M2 := by
  subst e
  exact ⟨hK, ⟨x, rfl, hx⟩, h0⟩
theorem tif_ir {P : Prop} {u v : Int × Int} (hu : gm_ir u.1) (hv : gm_ir v.1) : gm_ir (tif P u v).1 := tif_i (C := fun q : Int × Int => gm_ir q.1) hu hv
theorem tif_0 {P : Prop} {u v : Int × Int} (hu : u.1 = 0) (hv : v.1 = 0) : (tif P u v).1 = 0 := tif_i (C := fun q : Int × Int => q.1 = 0) hu hv
theorem k226 {n : Nat} {K : gm_K} {R : gm_R} (hE : E0 n K R) : K 226 = (15, 0) := (hE.1 226 (15, 0) (by decide +kernel)).2
section CM46
variable {X : Int → Int} {LX d bc bs n g z g1 : Nat} {la : Nat → Nat} {K : gm_K} {R : gm_R} {M : gm_M} {N : Int → Int} {lw : Option (List lln)} {A : List (Int → Int)} {im : Option ((Int → Int) × Option (List lln))} {t w : Int} {f : Int → Int} {a b c e : Int} {NC : Nat} {C Ln G : Int → Int}
noncomputable def q_fault (w : Int) : Int × Int := (0, w)
theorem iq_fault : gm_ir (q_fault w).1 := by
  unfold q_fault
  exact (show (-2147483648 : Int) ≤ 0 ∧ (0 : Int) < 2147483648 from by decide)
theorem z_fault : (q_fault w).1 = 0 := by
  unfold q_fault
  exact rfl
theorem cq_fault (hd : 24 ≤ d) (hbc : 4 ≤ bc) (hbs : 24 ≤ bs) (hE : E0 n K R) (hK : K 245 = (2, 1)) (hG : GJ N) (hV : CLV N lw A im t w f M) : gm_Wp X LX d bc bs 22 0 (gm_ent 22 [gm_vr 1]) [] n K R M (CF (q_fault w).2 none) := by
  refine gm_sz (gm_p_load (pc := 0) (i := .aload_n 0) (sr := 2) (j := 0) (by decide +kernel) rfl rfl rfl) ?_
  refine gm_sz (fw_gi (pc := 1) (ix := 17) (ci := 0) (j := 2) (x := w) (by decide +kernel) (e0k hE (k := 1) (c := 0) (by decide +kernel)) (by decide +kernel) (by decide +kernel) hV.2.2.2.2.1.2) ?_
  exact gm_r_int (pc := 4) (by decide +kernel) (Or.inl (by decide +kernel)) ⟨hK, rfl, fun v e => nomatch e⟩
theorem rq_fault (hd : 24 ≤ d) (hE : E0 n K R) (hS6 : NSb 6 N) (hG : GJ N) (hV : RFV N lw A im t w f M) : gm_Wp X LX d bc bs 241 0 (gm_ent 241 [gm_vr 226]) [] n K R M (RF (q_fault w).1 (q_fault w).2) := by
  have k226 := k226 hE
  refine gm_sz (gm_p_load (pc := 0) (i := .aload_n 0) (sr := 2) (j := 0) (by decide +kernel) rfl rfl rfl) ?_
  refine gm_sz (gm_p_const (pc := 1) (i := .iconst 0) (v := gm_vi 0) (by decide +kernel) (by decide +kernel)) ?_
  refine gm_sz (fw_pi (pc := 2) (ix := 3) (ci := 11) (j := 0) (M' := gm_uM M 226 0 0) (by decide +kernel) (e0k hE (k := 226) (c := 11) (by decide +kernel)) (by decide +kernel) (by decide +kernel) (by decide +kernel) rfl) ?_
  refine gm_sz (gm_p_load (pc := 5) (i := .aload_n 0) (sr := 2) (j := 0) (by decide +kernel) rfl rfl rfl) ?_
  refine gm_sz (fw_gi (pc := 6) (ix := 30) (ci := 11) (j := 13) (x := w) (by decide +kernel) (e0k hE (k := 226) (c := 11) (by decide +kernel)) (by decide +kernel) (by decide +kernel) ((uM_ne (by omega)).trans hV.2.2.2.1.2)) ?_
  exact gm_r_int (pc := 9) (by decide +kernel) (Or.inl (by decide +kernel)) ⟨k226, ⟨_, rfl, fun _ => rfl⟩, uM_at⟩
theorem fw_fault (hb : bg g la K R M) (hR : REL la K M N lw A im t w f) : ∀ z g1, bs_ok la z g1 → ¬ z = 100003 → gm_Wp X LX 279 6 600 22 0 (gm_ent 22 (gm_vr 1 :: ([] : List Int).map gm_vi)) [] (245 + 4 * g1) (bs_K la K) (bs_R z g1) (bs_M la M) (CF (q_fault w).2 none) := by
  intro z g1 hz hz3
  have hE := e0_w hb hz
  exact cq_fault (by decide) (by decide) (by decide) hE (k245 hE).2 hR.1.1 (clv_w hb hR.2.2.1)
theorem fm_fault (hb : bg g la K R M) (hR : REL la K M N lw A im t w f) : gm_Wp X LX 279 6 600 241 0 (gm_ent 241 (gm_vr 226 :: ([] : List Int).map gm_vi)) [] 245 (bs_K la K) (bs_R 100003 0) (bs_M la M) (RF (q_fault w).1 (q_fault w).2) := rq_fault (by decide) (e0_w hb (Or.inr (Or.inl ⟨rfl, rfl⟩))) (ns6 (bs_F0 (z := 100003) hb) (rfv_w (la := la) hR.2.2.2).1.1.1 hR.1.1.1.1) hR.1.1 (rfv_w hR.2.2.2)
end CM46
