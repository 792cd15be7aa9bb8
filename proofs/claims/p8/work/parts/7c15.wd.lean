/-! THE WORLD BETWEEN THE CALLS and what is told of it: laws, acts of the class, acts of the reference. -/
/-- the law that a State of the class holds -/
noncomputable def LAWC (s : Nat) (lw : Option (List lln)) (K : gm_K) (M : gm_M) : Prop := (lw = none → s = 0) ∧ ∀ ls, lw = some ls → ¬ s = 0 ∧ LW ls ∧ ∃ NC : Nat, NC ≤ 400 ∧ K (bg_rho s 247) = (0, NC) ∧ LB NC (M (bg_rho s 247)) (M (bg_rho s 249)) (ls.length : Int) (fun k j => M (bg_rho s k) j) ∧ LC ls (M (bg_rho s 247)) (M (bg_rho s 249))
noncomputable def slotN (x : Int) (i : Nat) : Nat := 44 + 13 * ((x + 11 - (i : Int)) % 12).toNat
noncomputable def LWL (la : Nat → Nat) (K : gm_K) (M : gm_M) (lw : Option (List lln)) (A : List (Int → Int)) (im : Option ((Int → Int) × Option (List lln))) : Prop := LAWC (la 3) lw K M ∧ (∀ i : Nat, i < A.length → la (slotN (M 42 1) i) = la 3) ∧ ∀ NI lI, im = some (NI, lI) → LAWC (la 29) lI K M
theorem slot_ss : (List.range 12).all (fun p => decide (44 + 13 * p ∈ bg_ss)) = true := by decide
theorem slot_s {p : Nat} (h : p < 12) : 44 + 13 * p ∈ bg_ss := of_decide_eq_true (List.all_eq_true.mp slot_ss p (List.mem_range.mpr h))
theorem slotN_s {x : Int} {i : Nat} : slotN x i ∈ bg_ss := slot_s (by omega)
section WD15
variable {X : Int → Int} {LX : Nat} {O : gm_Or} {g z g1 : Nat} {la : Nat → Nat} {K K' K1 : gm_K} {R R1 : gm_R} {M M' M1 : gm_M} {S : ck_Sum} {L : gm_L} {st : List gm_V} {Q : gm_Q} {N N0 : Int → Int} {lw lw0 : Option (List lln)} {A A0 A' : List (Int → Int)} {im im0 : Option ((Int → Int) × Option (List lln))} {t w t0 w0 : Int} {f f0 : Int → Int}
theorem lawc_e {s : Nat} (h : LAWC s lw K M) (hs : s ≤ g) (eK : ∀ k, 246 ≤ k → k ≤ 245 + 4 * g → K' k = K k) (eM : ∀ k j, 246 ≤ k → k ≤ 245 + 4 * g → M' k j = M k j) : LAWC s lw K' M' := by
  refine ⟨h.1, fun ls hl => ?_⟩
  obtain ⟨h0, hW, NC, h1, h2, h3, h4⟩ := h.2 ls hl
  have r : ∀ k, 247 ≤ k → k ≤ 249 → 246 ≤ bg_rho s k ∧ bg_rho s k ≤ 245 + 4 * g := fun k k1 k2 => by
    unfold bg_rho
    rw [if_neg (by omega)]
    omega
  have q : ∀ k, 247 ≤ k → k ≤ 249 → M' (bg_rho s k) = M (bg_rho s k) := fun k k1 k2 => funext fun j => eM _ j (r k k1 k2).1 (r k k1 k2).2
  have e7 := q 247 (by decide) (by decide)
  have e8 := q 248 (by decide) (by decide)
  have e9 := q 249 (by decide) (by decide)
  refine ⟨h0, hW, NC, h1, by rw [eK _ (r 247 (by decide) (by decide)).1 (r 247 (by decide) (by decide)).2]; exact h2, ?_, by rw [e7, e9]; exact h4⟩
  unfold LB LM at h3 ⊢
  simpa only [e7, e8, e9] using h3
/-- what a call sees of the class's law -/
theorem cc_w (hb : bg g la K R M) (hz : bs_ok la z g1) (hz3 : ¬ z = 100003) (h : LAWC (la 3) lw K M) (hr : LAWR lw (M 227)) : ∃ (NC : Nat) (C Ln : Int → Int), CC (245 + 4 * g1) (bs_K la K) (bs_R z g1) NC C Ln (M 227) lw ∧ LBX NC C Ln lw (bs_M la M) := by
  have e8 : bs_R z g1 3 ((8 : Nat) : Int) = z := (bc_lf (s := 3) (by decide)).trans (if_pos rfl)
  cases lw with
  | none =>
    refine ⟨0, fun _ => 0, fun _ => 0, ⟨fun _ => ?_, fun ls e => nomatch e⟩, fun ls e => nomatch e⟩
    have h0 := h.1 rfl
    rw [e8]
    rcases hz with a | a | a
    · exact a.1
    · exact absurd a.1 hz3
    · exact absurd h0 a.2.2
  | some ls =>
    obtain ⟨h0, hW, NC, h1, h2, h3, h4⟩ := h.2 ls rfl
    have hz2 : z = 246 ∧ g1 = 1 := by
      rcases hz with a | a | a
      · exact absurd a.2.2 h0
      · exact absurd a.1 hz3
      · exact ⟨a.1, a.2.1⟩
    obtain ⟨rfl, rfl⟩ := hz2
    have hl3 := hb.2.2.2 3 (by decide)
    have hgg := hb.2.2.1 (la 3 - 1) (by omega)
    have er : ∀ t, t < 4 → bg_rho (la 3) (246 + t) = 246 + 4 * (la 3 - 1) + t := fun t h => by unfold bg_rho; rw [if_neg (by omega)]; omega
    obtain ⟨⟨k6, -, k8, k9⟩, -⟩ := hgg
    have q6 : bs_K la K 246 = (14, 0) := by unfold bs_K; rw [show 246 = 246 + 0 by rfl, er 0 (by decide)]; exact k6
    have q8 : bs_K la K 248 = (6, 0) := by unfold bs_K; rw [show 248 = 246 + 2 by rfl, er 2 (by decide)]; exact k8
    have q9 : bs_K la K 249 = (0, 48) := by unfold bs_K; rw [show 249 = 246 + 3 by rfl, er 3 (by decide)]; exact k9
    have r0 : bs_R 246 1 246 ((0 : Nat) : Int) = 248 := by unfold bs_R; rw [bg_no (by decide)]; rfl
    have r1 : bs_R 246 1 246 ((1 : Nat) : Int) = 247 := by unfold bs_R; rw [bg_no (by decide)]; rfl
    have r2 : bs_R 246 1 248 ((2 : Nat) : Int) = 249 := by unfold bs_R; rw [bg_no (by decide)]; rfl
    refine ⟨NC, M (bg_rho (la 3) 247), M (bg_rho (la 3) 249), ⟨(fun e => nomatch e), fun ls2 e => ?_⟩, fun ls2 e => ?_⟩
    · cases e
      exact ⟨e8, ⟨⟨⟨⟨by decide, by decide⟩, by rw [q6]⟩, ⟨⟨by decide, by decide⟩, h2⟩, ⟨⟨by decide, by decide⟩, by rw [q8]⟩, ⟨by decide, by decide⟩, q9⟩, ⟨r0, r1, r2⟩, h1⟩, hW, h4, (hr.2 ls rfl).2.2.1⟩
    · cases e
      exact h3
theorem e0_w (hb : bg g la K R M) (hz : bs_ok la z g1) : E0 (245 + 4 * g1) (bs_K la K) (bs_R z g1) := by
  rcases hz with a | a | a
  · obtain ⟨rfl, rfl, h0⟩ := a
    exact e0F (bs_F0 hb)
  · obtain ⟨rfl, rfl⟩ := a
    exact e0F (bs_F0 hb)
  · obtain ⟨rfl, rfl, h0⟩ := a
    exact e0F (pl_o (bs_F1 hb h0))
theorem cst_w (hb : bg g la K R M) : CST (bs_M la M) := cstF (bs_F0 (z := 0) hb)
theorem ck_le {k : Nat} {j : Int} (h : cK k j) : k < 226 := by unfold cK at h; omega
theorem ck_ge {k : Nat} {j : Int} (h : cK k j) : 1 ≤ k := by unfold cK at h; omega
theorem rk_le {k : Nat} {j : Int} (h : rK k j) : 226 ≤ k ∧ k ≤ 235 := by unfold rK at h; omega
theorem clv_w (hb : bg g la K R M) (hV : CLV N lw A im t w f M) : CLV N lw A im t w f (bs_M la M) := clv_e hV (cst_w hb) (fun k j hk => vM (by have := ck_le hk; omega))
theorem rfv_w (hV : RFV N lw A im t w f M) : RFV N lw A im t w f (bs_M la M) := rfv_e hV (fun k j hk => vM (by have := rk_le hk; omega))
/-- what a call on the class leaves -/
noncomputable def DQ (n : Nat) (K : gm_K) (u : Option gm_V) (ov : Option Int) (RR : gm_R → gm_M → Prop) (N : Int → Int) (lw : Option (List lln)) (A : List (Int → Int)) (im : Option ((Int → Int) × Option (List lln))) (t w : Int) (f : Int → Int) : gm_Q := fun o n1 K1 R1 M1 => (n1 = n ∧ K1 = K) ∧ o = .inl u ∧ (∀ v, ov = some v → M1 245 0 = gm_w v) ∧ CLV N lw A im t w f M1 ∧ RR R1 M1
/-- rows of the class: cells below 226, and 245 -/
noncomputable def w_x (O : gm_Or) (z g1 k1 : Nat) (t : Bool) (S : ck_Sum) : Bool := bc_ok O z g1 S && (bc_args S k1 t && (decide (S.1.1 + 1 ≤ 280 ∧ S.1.2.1 ≤ 6 ∧ S.1.2.2 ≤ 600) && S.2.2.2.2.1.1.all fun w => decide (w.1 < 226 ∨ w.1 = 245)))
/-- rows of the reference: cells 226 to 244 -/
noncomputable def w_m (S : ck_Sum) : Bool := bc_ok p2_O 100003 0 S && (bc_args S 226 false && (decide (S.1.1 + 1 ≤ 280 ∧ S.1.2.1 ≤ 6 ∧ S.1.2.2 ≤ 600) && S.2.2.2.2.1.1.all fun w => decide (w.1 = 0 ∨ (226 ≤ w.1 ∧ w.1 ≤ 244))))
theorem bg_oldM {k : Nat} {j : Int} (h1 : 246 ≤ k) (h2 : k ≤ 245 + 4 * g) : bg_M g M M' k j = M k j := by unfold bg_M; rw [if_neg (by omega), if_pos h2]
/-- behind a call on the class: what is told is told of the world -/
noncomputable def wx_K (X : Int → Int) (LX bc bs pc : Nat) (L : gm_L) (st : List gm_V) (Q : gm_Q) (g z g1 : Nat) (la : Nat → Nat) (K : gm_K) (M : gm_M) (u : Option gm_V) (ov : Option Int) (RR : gm_R → gm_M → Prop) (N : Int → Int) (lw : Option (List lln)) (A : List (Int → Int)) (im : Option ((Int → Int) × Option (List lln))) (t w : Int) (f : Int → Int) (N0 : Int → Int) (lw0 : Option (List lln)) (A0 : List (Int → Int)) (im0 : Option ((Int → Int) × Option (List lln))) (t0 w0 : Int) (f0 : Int → Int) : Prop := ∀ (R1 : gm_R) (M1 : gm_M) (K2 : gm_K) (R2 : gm_R) (M2 : gm_M), RR R1 M1 → bg g (bg_la la g 0 R1) K2 R2 M2 → (∀ k, 246 ≤ k → k ≤ 245 + 4 * g → K2 k = K k) → (∀ k j, 246 ≤ k → k ≤ 245 + 4 * g → M2 k j = M k j) → M2 42 1 = M1 42 1 → (∀ v, ov = some v → Int64.ofInt (M2 245 0) = Int64.ofInt (gm_w v)) → CLV N lw A im t w f M2 → RFV N0 lw0 A0 im0 t0 w0 f0 M2 → gm_Wp X LX 280 (bc - 6) (bs - 600) 370 pc L (u.toList ++ st) (245 + 4 * g) K2 R2 M2 Q
theorem wx_s {bc bs pc k1 : Nat} {tt : Bool} {u : Option gm_V} {ov : Option Int} {RR : gm_R → gm_M → Prop} (hb : bg g la K R M) (hz : bs_ok la z g1) (hg : g < 10000) (hO : ∀ n K R M, gm_Fx O n K R M → gm_Fx p2_O n K R M) (hck : w_x O z g1 k1 tt S = true) (hRA : RA N lw A im t w f) (hRf : RFV N0 lw0 A0 im0 t0 w0 f0 M) (hu : u = none ∨ ∃ x, u = some (gm_vi x)) (hRR : ∀ R1 M1, RR R1 M1 → rvR z g1 R1) (k : wx_K X LX bc bs pc L st Q g z g1 la K M u ov RR N lw A im t w f N0 lw0 A0 im0 t0 w0 f0) : bc_KM X LX 280 (bc - 6) (bs - 600) 370 pc L st Q O z g1 g la K R M S (DQ (245 + 4 * g1) (bs_K la K) u ov RR N lw A im t w f) := by
  simp only [w_x, Bool.and_eq_true, decide_eq_true_eq] at hck
  obtain ⟨-, -, -, hW⟩ := hck
  have hg1 : g1 ≤ 1 := by rcases hz with h | h | h <;> omega
  intro o n1 K1 R1 M1 σ o2 n2 K2 R2 M2 q1 q2 ho hdt
  obtain ⟨⟨rfl, rfl⟩, rfl, hv, hV, hrr⟩ := q1
  obtain ⟨hF2, hfr, -⟩ := q2
  have hF2 := hO _ _ _ _ hF2
  have hk12 : ∀ k, 1 ≤ k → k ≤ 245 + 4 * g1 → bs_K la K k = K2 k := fun k _ hk => (hfr.2.1 k hk).symm
  refine ⟨hk12, ?_⟩
  have hW2 : S.2.2.2.2.1.1.all (fun w => decide (w.1 ≤ 245)) = true := List.all_eq_true.mpr fun w hw => by
    have := of_decide_eq_true (List.all_eq_true.mp hW w hw)
    exact decide_eq_true (by omega)
  have hrt := rt_of (K1 := bs_K la K) (M1 := bs_M la M) (Ka := bs_K la K) (Ma := M1) hg1 (hRR R1 M1 hrr) hF2 hfr hW2 (fun _ _ => rfl)
  refine bg_oweX (c := 0) hb hz hg hrt hu (fun hb2 => ?_)
  have hV2 := clv_dt hdt (by omega) hk12 hF2 hRA hV
  have e : ∀ k j, k ≤ 245 → bg_M g M (mxM (245 + 4 * g1) M2 M1) k j = M2 k j := fun k j hk => (bg_Ms hk j).trans (mxM_o (by omega))
  have hx : 0 ≤ M1 42 1 ∧ M1 42 1 < 12 := his_nx hV.1.2
  refine k R1 M1 _ _ _ hrr hb2 (fun k k1 k2 => bg_Ks k2) (fun k j k1 k2 => bg_oldM k1 k2) ?_ (fun v hv2 => ?_) ?_ ?_
  · rw [e 42 1 (by decide)]
    have e42 : M2 42 1 = gm_w (M1 42 1) := dw_f hdt (by omega) hk12 hF2 dt_c2.1
    rw [e42]
    exact dw_i ⟨by omega, by omega⟩
  · rw [e 245 0 (by decide), ← hv v hv2]
    have k245 := hF2.1 245 (2, 1) (by decide +kernel)
    have ee := hk12 245 (by decide) (by omega)
    exact ((hdt 245 (by decide) (by omega) ee).2.1 (by rw [ee, k245.2.2]) 0 (by rw [ee, k245.2.2]; decide)).symm
  · exact clv_e hV2 (cstF hb2.2.1) (fun k j hk => e k j (by have := ck_le hk; omega))
  · refine rfv_e hRf (fun k j hk => ?_)
    have hk := rk_le hk
    rw [e k j (by omega), hfr.2.2.1 k j (by omega) (fun w hw hh => by have := of_decide_eq_true (List.all_eq_true.mp hW w hw); omega)]
    exact vM (by omega)
/-- what a call on the reference leaves -/
noncomputable def RDQ (n : Nat) (K : gm_K) (R : gm_R) (P : Option gm_V → Prop) (oc : Option Int) (N : Int → Int) (lw : Option (List lln)) (A : List (Int → Int)) (im : Option ((Int → Int) × Option (List lln))) (t w : Int) (f : Int → Int) : gm_Q := fun o n1 K1 R1 M1 => (n1 = n ∧ K1 = K ∧ R1 = R) ∧ (∃ u, o = .inl u ∧ P u) ∧ (∀ c, oc = some c → gm_ir c ∧ M1 226 0 = c) ∧ RFV N lw A im t w f M1
noncomputable def wm_K (X : Int → Int) (LX bc bs pc : Nat) (L : gm_L) (st : List gm_V) (Q : gm_Q) (g : Nat) (la : Nat → Nat) (K : gm_K) (M : gm_M) (P : Option gm_V → Prop) (oc : Option Int) (N : Int → Int) (lw : Option (List lln)) (A : List (Int → Int)) (im : Option ((Int → Int) × Option (List lln))) (t w : Int) (f : Int → Int) : Prop := ∀ (u : Option gm_V) (la2 : Nat → Nat) (K2 : gm_K) (R2 : gm_R) (M2 : gm_M), P u → (∀ s ∈ bg_ss, la2 s = la s) → bg g la2 K2 R2 M2 → (∀ k, 246 ≤ k → k ≤ 245 + 4 * g → K2 k = K k) → (∀ k j, 246 ≤ k → k ≤ 245 + 4 * g → M2 k j = M k j) → M2 42 1 = M 42 1 → M2 245 0 = M 245 0 → (∀ c, oc = some c → M2 226 0 = c) → CLV N lw A im t w f M2 → RFV N lw A im t w f M2 → gm_Wp X LX 280 (bc - 6) (bs - 600) 370 pc L (u.toList ++ st) (245 + 4 * g) K2 R2 M2 Q
theorem wm_c1 : tyF 226 11 0 = true := by decide +kernel
theorem wm_s {bc bs pc : Nat} {P : Option gm_V → Prop} {oc : Option Int} (hb : bg g la K R M) (hg : g < 10000) (hck : w_m S = true) (hRA : RA N lw A im t w f) (hC : CLV N lw A im t w f M) (hP : ∀ u, P u → u = none ∨ ∃ x, u = some (gm_vi x)) (k : wm_K X LX bc bs pc L st Q g la K M P oc N lw A im t w f) : bc_KM X LX 280 (bc - 6) (bs - 600) 370 pc L st Q p2_O 100003 0 g la K R M S (RDQ 245 (bs_K la K) (bs_R 100003 0) P oc N lw A im t w f) := by
  have hz : bs_ok la 100003 0 := Or.inr (Or.inl ⟨rfl, rfl⟩)
  simp only [w_m, Bool.and_eq_true, decide_eq_true_eq] at hck
  obtain ⟨-, -, -, hW⟩ := hck
  intro o n1 K1 R1 M1 σ o2 n2 K2 R2 M2 q1 q2 ho hdt
  obtain ⟨⟨rfl, rfl, rfl⟩, ⟨u, rfl, hu⟩, hc, hV⟩ := q1
  obtain ⟨hF2, hfr, -⟩ := q2
  have hk12 : ∀ k, 1 ≤ k → k ≤ 245 + 4 * 0 → bs_K la K k = K2 k := fun k _ hk => (hfr.2.1 k hk).symm
  refine ⟨hk12, ?_⟩
  have hW2 : S.2.2.2.2.1.1.all (fun w => decide (w.1 ≤ 245)) = true := List.all_eq_true.mpr fun w hw => by
    have := of_decide_eq_true (List.all_eq_true.mp hW w hw)
    exact decide_eq_true (by omega)
  have hrt := rt_of (K1 := bs_K la K) (M1 := bs_M la M) (Ka := bs_K la K) (Ma := M1) (g1 := 0) (by decide) (rvR_0 hz) hF2 hfr hW2 (fun _ _ => rfl)
  refine bg_oweX (c := 0) hb hz hg hrt (hP u hu) (fun hb2 => ?_)
  have hV2 := rfv_dt hdt (by omega) hk12 hF2 hRA hV
  have e : ∀ k j, k ≤ 245 → bg_M g M (mxM (245 + 4 * 0) M2 M1) k j = M2 k j := fun k j hk => (bg_Ms hk j).trans (mxM_o (by omega))
  have e2 : ∀ k j, (1 ≤ k ∧ k < 226) ∨ k = 245 → bg_M g M (mxM (245 + 4 * 0) M2 M1) k j = M k j := fun k j hk => by
    rw [e k j (by omega), hfr.2.2.1 k j (by omega) (fun w hw hh => by have := of_decide_eq_true (List.all_eq_true.mp hW w hw); omega)]
    exact vM (by omega)
  refine k u _ _ _ _ hu (fun s hs => bg_dcs hz hs) hb2 (fun k k1 k2 => bg_Ks k2) (fun k j k1 k2 => bg_oldM k1 k2) (e2 42 1 (by decide)) (e2 245 0 (by decide)) (fun c hc2 => ?_) ?_ ?_
  · obtain ⟨c1, c2⟩ := hc c hc2
    rw [e 226 0 (by decide)]
    have := dw_f hdt (by decide) hk12 hF2 wm_c1
    rw [show ((0 : Nat) : Int) = 0 by rfl] at this
    rw [this, c2]
    exact dw_i c1
  · exact clv_e hC (cstF hb2.2.1) (fun k j hk => e2 k j (Or.inl ⟨ck_ge hk, ck_le hk⟩))
  · exact rfv_e hV2 (fun k j hk => e k j (by have := rk_le hk; omega))
end WD15
