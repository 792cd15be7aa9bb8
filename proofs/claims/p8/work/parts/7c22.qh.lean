/-! THE CALLS THAT KEEP SOMETHING (FLOW, ways): rows under what is kept. -/
section QH22
variable {X : Int → Int} {LX n n1 n2 : Nat} {K K1 K2 : gm_K} {R R2 : gm_R} {M M1 M2 : gm_M} {N h : Int → Int} {lw : Option (List lln)} {ls : List lln} {φ : Int → Int → Int → Int} {C Ln G : Int → Int} {NC : Nat}
theorem dt_sym (hd : dt_m n K1 M1 K2 M2) : dt_m n K2 M2 K1 M1 := fun k h1 h2 he => by
  obtain ⟨a1, a2, a3⟩ := hd k h1 h2 he.symm
  rw [← he] at a1 a2 a3
  exact ⟨fun h j hj => (a1 h j hj).symm, fun h j hj => (a2 h j hj).symm, fun c j hc hj hr => (a3 c j hc hj hr).symm⟩
theorem kfl_dt (hd : dt_m n K1 M1 K2 M2) (hn : 245 ≤ n) (hK : ∀ k, 1 ≤ k → k ≤ n → K1 k = K2 k) (hF : gm_Fx p2_O n2 K2 R2 M2) (hk : KFL N φ M1) : KFL N φ M2 := by
  have e200 : M2 200 6 = gm_w (M1 200 6) := dw_f hd hn hK hF dt_c2.2.2.1
  have e9 : M2 200 6 = M1 200 6 := by rw [e200]; exact dw_i ⟨by have := hk.1.1; omega, by have := hk.1.2; omega⟩
  refine ⟨by rw [e9]; exact hk.1, fun l r y l0 l1 r0 r1 y0 y1 => ?_⟩
  have ek : kv M2 ((l * 99 + r) * 300 + y) = kv M1 ((l * 99 + r) * 300 + y) := by
    unfold kv
    rw [e9]
    have k205 := hF.1 205 _ dt_c4
    have ee := hK 205 (by decide) (by omega)
    have hj : 0 ≤ ((l * 99 + r) * 300 + y) / 12 ∧ ((l * 99 + r) * 300 + y) / 12 < 14850 := by omega
    obtain ⟨u, hu⟩ : ∃ u : Nat, ((l * 99 + r) * 300 + y) / 12 = (u : Int) := ⟨(((l * 99 + r) * 300 + y) / 12).toNat, by omega⟩
    rw [hu]
    rw [fld_cg ((hd 205 (by decide) (by omega) ee).2.1 (by rw [ee, k205.2.2]) u (by rw [ee, k205.2.2]; show u < 14850; omega)).symm]
  rw [ek]
  exact hk.2 l r y l0 l1 r0 r1 y0 y1
theorem ends_dt (hd : dt_m n K1 M1 K2 M2) (hn : 245 ≤ n) (hK : ∀ k, 1 ≤ k → k ≤ n → K1 k = K2 k) (hF : gm_Fx p2_O n2 K2 R2 M2) (hN : NR N) (he : M1 1 15 = 0 ∨ (M1 1 15 = 1 ∧ ENDS N (hts (N 13)) (aphi lw N (hts (N 13))) M1)) : M2 1 15 = 0 ∨ (M2 1 15 = 1 ∧ ENDS N (hts (N 13)) (aphi lw N (hts (N 13))) M2) := by
  have e15 : M2 1 15 = gm_w (M1 1 15) := dw_f hd hn hK hF dt_c1.2.2.2
  have e220 : M2 220 3 = gm_w (M1 220 3) := dw_f hd hn hK hF dt_c2.2.2.2
  have h4 := hN.2.1.2.2.2.1
  rw [e15]
  rcases he with h | ⟨h, he⟩
  · exact Or.inl (by rw [h]; decide)
  · refine Or.inr ⟨by rw [h]; decide, by rw [e220, he.1]; exact dw_i ⟨by omega, by omega⟩, fun l l0 l1 => ?_⟩
    rw [dw_a hd hn hK hF dt_c3.2.2.2.2 (by omega) (by omega), dw_a hd hn hK hF dt_c3.2.2.2.2 (by omega) (by omega)]
    exact outr_w hN aphi_b (fun _ _ _ => hts_b) ⟨l0, l1⟩ (he.2 l l0 l1)
/-- FLOW, asked of any LANE, any ROW that there may be: what is kept stays right -/
theorem flx_a (hE : E0 n K R) (hc : CC n K R NC C Ln G (some ls)) (hN : NR N) (hS : NS N) : ∀ (d bc bs : Nat) (M : gm_M) (Q : gm_Q) (lane row year : Int), 12 ≤ d → 0 ≤ lane ∧ lane < 6 → 0 ≤ row ∧ row < 99 → 0 ≤ year ∧ year < 300 → TI N h (spd N) M → FIC NC C Ln (some ls) N h M → (∀ M2 v, fr [(200, some 6), (204, none), (205, none)] M M2 → FIC NC C Ln (some ls) N h M2 → Q (.inl (some (gm_vi v))) n K R M2) → gm_Wp X LX d bc bs 35 0 (gm_ent 35 [gm_vr 200, gm_vi lane, gm_vi row, gm_vi year]) [] n K R M Q := by
  intro d bc bs M Q lane row year hd hl hr hy hT hI hq
  have hsp : ∀ l r, 0 ≤ l → l < 6 → 0 ≤ r → r < 99 → 0 ≤ spd N l r ∧ spd N l r ≤ 20 := fun l r l0 _ _ _ => spd_b hN hS l0
  obtain ⟨h8, hL, hW, hC, hR⟩ := hc.2 ls rfl
  have hx : ∀ l r y, 0 ≤ l ∧ l < 6 → 0 ≤ r ∧ r < 99 → 0 ≤ y ∧ y < 300 → aphx (some ls) N h l r y = lphi N h (spd N) C Ln (ls.length : Int) l r y := fun l r y hl _ _ => (lphi_ax hW hC hR hl.1).symm
  refine ic_flx hE hL h8 hN hsp d bc bs M Q lane row year hd hl hr hy hT ⟨(hI ls rfl).1, (kfl_cg (N := N) hx).mp (hI ls rfl).2⟩ (fun M2 hf hI2 => hq M2 _ hf (fun ls2 e => ?_))
  cases e
  exact ⟨hI2.1, (kfl_cg (N := N) hx).mpr hI2.2⟩
/-- what stands under a law: for the calls -/
theorem qL_cc (hF : gm_Fx qL_O n K R M) (h8 : R 3 8 = 246) (hJ : LWJ ls K M) (hr : LAWR (some ls) (M 227)) : ∃ (NC : Nat) (C Ln : Int → Int), CC n K R NC C Ln (M 227) (some ls) ∧ LB NC C Ln (ls.length : Int) M := by
  obtain ⟨hW, NC, h1, h2, h3, h4⟩ := hJ
  have k6 := hF.1 246 (14, 0) rfl
  have k8 := hF.1 248 (6, 0) rfl
  have k9 := hF.1 249 (0, 48) rfl
  have r0 := (hF.2.1 246 0 248 rfl).2
  have r1 := (hF.2.1 246 1 247 rfl).2
  have r2 := (hF.2.1 248 2 249 rfl).2
  refine ⟨NC, M 247, M 249, ⟨(fun e => nomatch e), fun ls2 e => ?_⟩, h3⟩
  cases e
  exact ⟨h8, ⟨⟨⟨⟨by decide, by omega⟩, by rw [k6.2.2]⟩, ⟨⟨by decide, by omega⟩, h2⟩, ⟨⟨by decide, by omega⟩, by rw [k8.2.2]⟩, ⟨by decide, by omega⟩, k9.2.2⟩, ⟨r0, r1, r2⟩, h1⟩, hW, h4, (hr.2 ls rfl).2.2.1⟩
theorem qL_p (hF : gm_Fx qL_O n K R M) : gm_Fx p2_OL n K R M := ⟨hF.1, hF.2.1, hF.2.2.1, fun k r hr => hF.2.2.2.1 k r (List.mem_append_left _ hr), hF.2.2.2.2.1⟩
theorem q0_p (hF : gm_Fx q0_O n K R M) : gm_Fx p2_O n K R M := ⟨hF.1, hF.2.1, hF.2.2.1, fun k r hr => hF.2.2.2.1 k r (List.mem_append_left _ hr), hF.2.2.2.2.1⟩
theorem qR_p (hF : gm_Fx qR_O n K R M) : gm_Fx p2_O n K R M := ⟨hF.1, hF.2.1, hF.2.2.1, fun k r hr => hF.2.2.2.1 k r (List.mem_append_left _ hr), hF.2.2.2.2.1⟩
theorem ti_x (hC : CST M) (h : TIx N M) : TI N (hts (N 13)) (spd N) M := ⟨hC, h.1, h.2.1, h.2.2⟩
/-- what calls may write of it: FLOWs, ways -/
noncomputable def qk_c (w : Nat × Int × Int) : Bool := decide (w.1 = 204 ∨ (w.1 = 200 ∧ w.2.1 = 6 ∧ w.2.2 = 6) ∨ w.1 = 205 ∨ w.1 = 206 ∨ w.1 = 207 ∨ (w.1 = 1 ∧ w.2.1 = 15 ∧ w.2.2 = 15) ∨ (w.1 = 220 ∧ w.2.1 = 3 ∧ w.2.2 = 3) ∨ w.1 = 221)
theorem qk_e {W : List (Nat × Int × Int)} (hW : W.all qk_c = true) (e : ∀ k j, k ≤ n → (∀ w ∈ W, ¬ (w.1 = k ∧ w.2.1 ≤ j ∧ j ≤ w.2.2)) → M2 k j = M k j) {k : Nat} {j : Int} (hk : k ≤ n) (h : ¬ (k = 204 ∨ (k = 200 ∧ j = 6) ∨ k = 205 ∨ k = 206 ∨ k = 207 ∨ (k = 1 ∧ j = 15) ∨ (k = 220 ∧ j = 3) ∨ k = 221)) : M2 k j = M k j := by
  refine e k j hk fun w hw hh => ?_
  have := of_decide_eq_true (List.all_eq_true.mp hW w hw)
  omega
theorem tix_e (h : TIx N M) (e : ∀ (k : Nat) (j : Int), (3 ≤ k ∧ k ≤ 15) ∨ (201 ≤ k ∧ k ≤ 203) → M2 k j = M k j) : TIx N M2 := by
  refine ⟨?_, fun y y0 y1 => ?_, fun l r l0 l1 r0 r1 => ?_⟩
  · rw [← h.1]
    exact cs_b fun x j x1 x2 _ _ => e x j (Or.inl ⟨x1, by omega⟩)
  · rw [e 201 y (by omega), e 203 y (by omega)]
    exact h.2.1 y y0 y1
  · rw [e 202 _ (by omega)]
    exact h.2.2 l r l0 l1 r0 r1
/-- behind such a call, by its row: the standing condition, if what is kept is right -/
theorem qL_b {W : List (Nat × Int × Int) × List (Nat × Int)} (hF : gm_Fx qL_O n K R M) (hW : W.1.all qk_c = true) (hF2 : gm_Fx p2_OL n2 K2 R2 M2) (hfr : ck_fr W n K R M n2 K2 R2 M2) (hx : ∀ N ls, qC (some ls) N M → KFL N (aphx (some ls) N (hts (N 13))) M → LWJ ls K M → LAWR (some ls) (M 227) → (M2 1 15 = 0 ∨ (M2 1 15 = 1 ∧ ENDS N (hts (N 13)) (aphi (some ls) N (hts (N 13))) M2)) ∧ KFL N (aphx (some ls) N (hts (N 13))) M2) : gm_Fx qL_O n2 K2 R2 M2 := by
  obtain ⟨hJ, N, ls, hq, hk, hw, hr⟩ := hF.2.2.2.2
  have hn : 249 ≤ n := (hF.1 249 (0, 48) rfl).2.1
  have e : ∀ (k : Nat) (j : Int), k ≤ n → ¬ (k = 204 ∨ (k = 200 ∧ j = 6) ∨ k = 205 ∨ k = 206 ∨ k = 207 ∨ (k = 1 ∧ j = 15) ∨ (k = 220 ∧ j = 3) ∨ k = 221) → M2 k j = M k j := fun k j hk h => qk_e hW hfr.2.2.1 hk h
  obtain ⟨h1, h2⟩ := hx N ls hq hk hw hr
  refine ⟨hF2.1, hF2.2.1, hF2.2.2.1, fun k r hr => Nat.le_trans (hF.2.2.2.1 k r hr) hfr.1, hF2.2.2.2.2, N, ls, ⟨hq.1, tix_e hq.2.1 (fun k j hk => e k j (by omega) (by omega)), h1⟩, h2, lwj_e hw (hfr.2.1 247 (by omega)) (fun j _ _ => e 247 j (by omega) (by omega)) (fun j _ _ => e 248 j (by omega) (by omega)) (fun j _ _ => e 249 j (by omega) (by omega)), lawr_cg hr (fun j _ _ => e 227 j (by omega) (by omega))⟩
theorem q0_b {W : List (Nat × Int × Int) × List (Nat × Int)} (hF : gm_Fx q0_O n K R M) (hW : W.1.all qk_c = true) (hF2 : gm_Fx p2_O n2 K2 R2 M2) (hfr : ck_fr W n K R M n2 K2 R2 M2) (hx : ∀ N, qC none N M → (M2 1 15 = 0 ∨ (M2 1 15 = 1 ∧ ENDS N (hts (N 13)) (aphi none N (hts (N 13))) M2))) : gm_Fx q0_O n2 K2 R2 M2 := by
  obtain ⟨hJ, N, hq⟩ := hF.2.2.2.2
  have hn : 245 ≤ n := (k245 (e0F (q0_p hF))).1
  have e : ∀ (k : Nat) (j : Int), k ≤ n → ¬ (k = 204 ∨ (k = 200 ∧ j = 6) ∨ k = 205 ∨ k = 206 ∨ k = 207 ∨ (k = 1 ∧ j = 15) ∨ (k = 220 ∧ j = 3) ∨ k = 221) → M2 k j = M k j := fun k j hk h => qk_e hW hfr.2.2.1 hk h
  exact ⟨hF2.1, hF2.2.1, hF2.2.2.1, fun k r hr => Nat.le_trans (hF.2.2.2.1 k r hr) hfr.1, hF2.2.2.2.2, N, hq.1, tix_e hq.2.1 (fun k j hk => e k j (by omega) (by omega)), hx N hq⟩
/-- FLOW under a law -/
noncomputable def q35p : ck_Sum := ((2, 0, 0), 249, [.inr (.inr (.inl 200)), .inl ((-2147483648), 2147483647, []), .inl ((-2147483648), 2147483647, []), .inl ((-2147483648), 2147483647, [])], ([], [(3, 8, 246)], []), ([(200, 6, 6), (204, 0, 9), (205, 0, 14849)], []), [(.inr (some (.inl (0, 30, []))), 249, ([], [], [(200, 6, 6, ck_one 0)]))])
noncomputable def q35 : ck_Sum := ((12, 0, 0), 249, [.inr (.inr (.inl 200)), .inl (0, 6, []), .inl (0, 98, []), .inl (0, 299, [])], ([], [(3, 8, 246)], []), ([(200, 6, 6), (204, 0, 9), (205, 0, 14849)], []), [(.inr (some (.inl (0, 30, []))), 249, ([], [], [(200, 6, 6, ck_one 0)]))])
theorem q35_s (hS : ck_Ok p2_OL X LX 35 q35p) : ck_Ok qL_O X LX 35 q35 := by
  intro d σ vs n K R M hd hn hvs hσ hF hf
  obtain ⟨v0, w0, rfl, g0, v1, w1, rfl, ⟨l, rfl, hl, l0, l1, -⟩, v2, w2, rfl, ⟨r, rfl, hr, r0, r1, -⟩, v3, w3, rfl, ⟨y, rfl, hy, y0, y1, -⟩, g4⟩ := hvs
  have g4 : w3 = [] := g4
  subst g4
  have g0 : v0 = gm_vr 200 := g0
  subst g0
  have l0 : (0 : Int) ≤ l := l0
  have l1 : l ≤ (6 : Int) := l1
  have r0 : (0 : Int) ≤ r := r0
  have r1 : r ≤ (98 : Int) := r1
  have y0 : (0 : Int) ≤ y := y0
  have y1 : y ≤ (299 : Int) := y1
  have hd : 12 ≤ d := hd
  have hn : n = 249 := hn
  subst hn
  have F0 := qL_p hF
  have h8 : R 3 8 = 246 := (hf.2.1 (3, 8, 246) List.mem_cons_self).2
  have hrow := hS d σ [gm_vr 200, gm_vi l, gm_vi r, gm_vi y] 249 K R M (show 2 ≤ d by omega) rfl ⟨_, _, rfl, rfl, _, _, rfl, ⟨l, rfl, hl, (show (-2147483648 : Int) ≤ l by omega), (show l ≤ (2147483647 : Int) by omega), fun _ h => nomatch h⟩, _, _, rfl, ⟨r, rfl, hr, (show (-2147483648 : Int) ≤ r by omega), (show r ≤ (2147483647 : Int) by omega), fun _ h => nomatch h⟩, _, _, rfl, ⟨y, rfl, hy, (show (-2147483648 : Int) ≤ y by omega), (show y ≤ (2147483647 : Int) by omega), fun _ h => nomatch h⟩, rfl⟩ (fun q hq => hσ q (List.mem_append_left _ hq)) F0 hf
  obtain ⟨hJ, N, ls, hq, hk, hw, hlr⟩ := hF.2.2.2.2
  obtain ⟨NC, C, Ln, hcc, hlb⟩ := qL_cc hF h8 hw hlr
  have hE : E0 249 K R := e0F (pl_o F0)
  have hT := ti_x (cstF (pl_o F0)) hq.2.1
  have hfun : gm_Wp X LX d 0 0 35 0 (gm_ent 35 [gm_vr 200, gm_vi l, gm_vi r, gm_vi y]) [] 249 K R M (fun o n1 K1 R1 M1 => K1 = K ∧ FIC NC C Ln (some ls) N (hts (N 13)) M1) := by
    by_cases h6 : l = 6
    · subst h6
      obtain ⟨h8', hL, -⟩ := hcc.2 ls rfl
      exact ic_fl6 hE hL h8' hq.1.1.1 d 0 0 M _ r y hd ⟨r0, by omega⟩ ⟨y0, by omega⟩ hT ⟨hlb, hk⟩ (fun M2 v _ hI => ⟨rfl, fun ls2 e => by cases e; exact hI⟩)
    · exact flx_a (h := hts (N 13)) hE hcc hq.1.1.1 hq.1.1.2.1 d 0 0 M _ l r y hd ⟨l0, by omega⟩ ⟨r0, by omega⟩ ⟨y0, by omega⟩ hT (fun ls2 e => by cases e; exact ⟨hlb, hk⟩) (fun M2 v _ hI => ⟨rfl, hI⟩)
  refine gm_Wp_mono (fun o n2 K2 R2 M2 hh => ?_) (gm_Wp_and hrow hfun)
  obtain ⟨⟨hF2, hfr, hoc⟩, o3, n3, K3, R3, M3, ⟨rfl, hI⟩, -, hdt⟩ := hh
  have hKK : ∀ k, 1 ≤ k → k ≤ 249 → K3 k = K2 k := fun k _ hk => (hfr.2.1 k hk).symm
  refine ⟨qL_b hF (by decide) hF2 hfr (fun N2 ls2 hq2 hk2 hw2 hlr2 => ?_), hfr, hoc⟩
  have eN : N2 = N := hq2.2.1.1.symm.trans hq.2.1.1
  subst eN
  have ea : aphx (some ls2) N2 (hts (N2 13)) = aphx (some ls) N2 (hts (N2 13)) := aphx_u hlr2 hlr
  have e1 : ∀ k j, k ≤ 249 → ¬ (k = 200 ∨ k = 204 ∨ k = 205) → M2 k j = M k j := fun k j hk h => hfr.2.2.1 k j hk (fun w hw hh => by
    have := of_decide_eq_true (List.all_eq_true.mp (show q35p.2.2.2.2.1.1.all (fun w => decide (w.1 = 200 ∨ w.1 = 204 ∨ w.1 = 205)) = true by decide) w hw)
    omega)
  refine ⟨?_, ?_⟩
  · rw [e1 1 15 (by decide) (by decide)]
    refine hq2.2.2.imp_right fun hh => ⟨hh.1, ends_x hh.2 (fun k j hk => e1 k j (by omega) (by omega))⟩
  · rw [ea]
    exact kfl_dt (dt_sym hdt) (by decide) hKK (pl_o hF2) (hI ls rfl).2
/-- the ends of all LETTERS, without a law and under one -/
noncomputable def q24p (c : Nat) (W : List (Nat × Int × Int)) : ck_Sum := ((4 + c, 0, 0), 245 + 4 * c, [.inr (.inr (.inl 1))], ([], [(3, 8, if c = 0 then 0 else 246)], []), (W, []), [(.inr none, 245 + 4 * c, ([], [], [(1, 15, 15, ck_one 1)]))])
noncomputable def q24 (c : Nat) (W : List (Nat × Int × Int)) : ck_Sum := ((17, 0, 0), 245 + 4 * c, [.inr (.inr (.inl 1))], ([], [(3, 8, if c = 0 then 0 else 246)], []), (W, []), [(.inr none, 245 + 4 * c, ([], [], [(1, 15, 15, ck_one 1)]))])
noncomputable def q24_W0 : List (Nat × Int × Int) := [(1, 15, 15), (206, 2, 8), (220, 3, 3), (221, 0, 47)]
noncomputable def q24_WL : List (Nat × Int × Int) := [(1, 15, 15), (200, 6, 6), (204, 0, 9), (205, 0, 14849), (206, 2, 8), (220, 3, 3), (221, 0, 47)]
theorem q24_0 (hS : ck_Ok p2_O X LX 24 (q24p 0 q24_W0)) : ck_Ok q0_O X LX 24 (q24 0 q24_W0) := by
  intro d σ vs n K R M hd hn hvs hσ hF hf
  obtain ⟨v0, w0, rfl, g0, g4⟩ := hvs
  have g4 : w0 = [] := g4
  subst g4
  have g0 : v0 = gm_vr 1 := g0
  subst g0
  have hd : 17 ≤ d := hd
  have hn : n = 245 := hn
  subst hn
  have F0 := q0_p hF
  have h8 : R 3 8 = 0 := (hf.2.1 (3, 8, 0) List.mem_cons_self).2
  have hrow := hS d σ [gm_vr 1] 245 K R M (show 4 ≤ d by omega) rfl ⟨_, _, rfl, rfl, rfl⟩ hσ F0 hf
  obtain ⟨hJ, N, hq⟩ := hF.2.2.2.2
  have hcc : CC 245 K R 0 (fun _ => 0) (fun _ => 0) (fun _ => 0) none := ⟨fun _ => h8, fun ls e => nomatch e⟩
  have hE : E0 245 K R := e0F F0
  have t15 := ((gm_tyr_s F0 (show gm_tyr p2_O 1 15 15 = some (0, 1) by decide +kernel)).2 15 (Int.le_refl _) (Int.le_refl _)).1
  have hfun := en_c24 (X := X) (LX := LX) (bc := 0) (bs := 0) (FI := FIC 0 (fun _ => 0) (fun _ => 0) none N (hts (N 13))) (Q := fun o n1 K1 R1 M1 => K1 = K ∧ (M1 1 15 = 0 ∨ (M1 1 15 = 1 ∧ ENDS N (hts (N 13)) (aphi none N (hts (N 13))) M1))) hd hE (ti_x (cstF F0) hq.2.1) hq.1.1.1 (flw_a hE hcc hq.1.1.1 hq.1.1.2.1) (fun ls2 e => nomatch e) t15 (fun h0 => hq.2.2.resolve_left h0) (fun M2 _ _ h1 h2 => ⟨rfl, Or.inr ⟨h1, h2⟩⟩)
  refine gm_Wp_mono (fun o n2 K2 R2 M2 hh => ?_) (gm_Wp_and hrow hfun)
  obtain ⟨⟨hF2, hfr, hoc⟩, o3, n3, K3, R3, M3, ⟨rfl, hI⟩, -, hdt⟩ := hh
  have hKK : ∀ k, 1 ≤ k → k ≤ 245 → K3 k = K2 k := fun k _ hk => (hfr.2.1 k hk).symm
  refine ⟨q0_b hF (by decide) hF2 hfr (fun N2 hq2 => ?_), hfr, hoc⟩
  have eN : N2 = N := hq2.2.1.1.symm.trans hq.2.1.1
  subst eN
  exact ends_dt (dt_sym hdt) (by decide) hKK hF2 hq.1.1.1 hI
theorem q24_L (hS : ck_Ok p2_OL X LX 24 (q24p 1 q24_WL)) : ck_Ok qL_O X LX 24 (q24 1 q24_WL) := by
  intro d σ vs n K R M hd hn hvs hσ hF hf
  obtain ⟨v0, w0, rfl, g0, g4⟩ := hvs
  have g4 : w0 = [] := g4
  subst g4
  have g0 : v0 = gm_vr 1 := g0
  subst g0
  have hd : 17 ≤ d := hd
  have hn : n = 249 := hn
  subst hn
  have F0 := qL_p hF
  have h8 : R 3 8 = 246 := (hf.2.1 (3, 8, 246) List.mem_cons_self).2
  have hrow := hS d σ [gm_vr 1] 249 K R M (show 5 ≤ d by omega) rfl ⟨_, _, rfl, rfl, rfl⟩ (fun q hq => hσ q (List.mem_append_left _ hq)) F0 hf
  obtain ⟨hJ, N, ls, hq, hk, hw, hlr⟩ := hF.2.2.2.2
  obtain ⟨NC, C, Ln, hcc, hlb⟩ := qL_cc hF h8 hw hlr
  have hE : E0 249 K R := e0F (pl_o F0)
  have t15 := ((gm_tyr_s (pl_o F0) (show gm_tyr p2_O 1 15 15 = some (0, 1) by decide +kernel)).2 15 (Int.le_refl _) (Int.le_refl _)).1
  have hfun := en_c24 (X := X) (LX := LX) (bc := 0) (bs := 0) (FI := FIC NC C Ln (some ls) N (hts (N 13))) (Q := fun o n1 K1 R1 M1 => K1 = K ∧ (M1 1 15 = 0 ∨ (M1 1 15 = 1 ∧ ENDS N (hts (N 13)) (aphi (some ls) N (hts (N 13))) M1)) ∧ FIC NC C Ln (some ls) N (hts (N 13)) M1) hd hE (ti_x (cstF (pl_o F0)) hq.2.1) hq.1.1.1 (flw_a hE hcc hq.1.1.1 hq.1.1.2.1) (fun ls2 e => by cases e; exact ⟨hlb, hk⟩) t15 (fun h0 => hq.2.2.resolve_left h0) (fun M2 _ hI h1 h2 => ⟨rfl, Or.inr ⟨h1, h2⟩, hI⟩)
  refine gm_Wp_mono (fun o n2 K2 R2 M2 hh => ?_) (gm_Wp_and hrow hfun)
  obtain ⟨⟨hF2, hfr, hoc⟩, o3, n3, K3, R3, M3, ⟨rfl, hI, hI2⟩, -, hdt⟩ := hh
  have hKK : ∀ k, 1 ≤ k → k ≤ 249 → K3 k = K2 k := fun k _ hk => (hfr.2.1 k hk).symm
  refine ⟨qL_b hF (by decide) hF2 hfr (fun N2 ls2 hq2 hk2 hw2 hlr2 => ?_), hfr, hoc⟩
  have eN : N2 = N := hq2.2.1.1.symm.trans hq.2.1.1
  subst eN
  have ea : aphx (some ls2) N2 (hts (N2 13)) = aphx (some ls) N2 (hts (N2 13)) := aphx_u hlr2 hlr
  have eb : aphi (some ls2) N2 (hts (N2 13)) = aphi (some ls) N2 (hts (N2 13)) := aphi_u hlr2 hlr
  rw [ea, eb]
  exact ⟨ends_dt (dt_sym hdt) (by decide) hKK (pl_o hF2) hq.1.1.1 hI, kfl_dt (dt_sym hdt) (by decide) hKK (pl_o hF2) (hI2 ls rfl).2⟩
/-- floods that a traveller meets -/
noncomputable def q43p (c : Nat) : ck_Sum := ((1, 0, 0), 249, [.inr (.inr (.inl c))], ([], [], []), ([(c, 5, 5), (c, 8, 8)], []), [(.inr none, 249, ([], [], []))])
noncomputable def q43 (c : Nat) : ck_Sum := ((1, 0, 0), 249, [.inr (.inr (.inl c))], ([], [], [(c, 5, 5, (0, 128, [])), (c, 7, 7, (0, 299, []))]), ([(c, 5, 5), (c, 8, 8)], []), [(.inr none, 249, ([], [], [(c, 5, 5, (0, 300, []))]))])
theorem nfl_300 (hN : NR N) {y wo r : Int} (hr : 0 ≤ r ∧ r ≤ 128) : 0 ≤ nfl N y wo (N 5).toNat r ∧ nfl N y wo (N 5).toNat r ≤ 300 := by
  have h5 := hN.2.1.2.1
  have := nfl_b (N := N) (y := y) (wo := wo) (r := r) (fun f f0 f1 => (hN.2.2.1 f f0 f1).2.2) (N 5).toNat (by omega)
  omega
theorem q43_206 (hS : ck_Ok p2_OL X LX 43 (q43p 206)) : ck_Ok qL_O X LX 43 (q43 206) := by
  intro d σ vs n K R M hd hn hvs hσ hF hf
  obtain ⟨v0, w0, rfl, g0, g4⟩ := hvs
  have g4 : w0 = [] := g4
  subst g4
  have g0 : v0 = gm_vr 206 := g0
  subst g0
  have hn : n = 249 := hn
  subst hn
  have F0 := pl_o (qL_p hF)
  have hrow := hS d σ [gm_vr 206] 249 K R M hd rfl ⟨_, _, rfl, rfl, rfl⟩ (fun q hq => hσ q (List.mem_append_left _ hq)) (qL_p hF) ⟨(fun _ h => nomatch h), (fun _ h => nomatch h), (fun _ h => nomatch h)⟩
  have f4 := ((gm_tyr_s F0 (show gm_tyr p2_O 206 4 4 = some (-1, 7) by decide +kernel)).2 4 (Int.le_refl _) (Int.le_refl _)).1
  have f5 := (hf.2.2 (206, 5, 5, (0, 128, [])) List.mem_cons_self).2 5 (Int.le_refl _) (Int.le_refl _)
  have f7 := (hf.2.2 (206, 7, 7, (0, 299, [])) (List.mem_cons_of_mem _ List.mem_cons_self)).2 7 (Int.le_refl _) (Int.le_refl _)
  have a5 : 0 ≤ M 206 5 ∧ M 206 5 ≤ 128 := ⟨f5.2.1, f5.2.2.1⟩
  have a7 : 0 ≤ M 206 7 ∧ M 206 7 ≤ 299 := ⟨f7.2.1, f7.2.2.1⟩
  have hq : ∃ N ls, qC (some ls) N M := by
    obtain ⟨hJ, N, ls, hq, -⟩ := hF.2.2.2.2
    exact ⟨N, ls, hq⟩
  obtain ⟨N, ls, hq⟩ := hq
  have hfun := wy_c43_206 (X := X) (LX := LX) (bc := 0) (bs := 0) (Q := fun o n1 K1 R1 M1 => K1 = K ∧ 0 ≤ M1 206 5 ∧ M1 206 5 ≤ 300) (wo := M 206 4) (y := M 206 7) (r0 := M 206 5) hd (e0F F0) (ti_x (cstF F0) hq.2.1) hq.1.1.1 rfl rfl rfl ⟨a7.1, by omega⟩ f4 ⟨by omega, by omega⟩ (fun M2 hfr h5 => ⟨rfl, by rw [h5]; exact nfl_300 hq.1.1.1 a5⟩)
  refine gm_Wp_mono (fun o n2 K2 R2 M2 hh => ?_) (gm_Wp_and hrow hfun)
  obtain ⟨⟨hF2, hfr, oc, hoc, ho, hn2, -⟩, o3, n3, K3, R3, M3, ⟨rfl, hI⟩, -, hdt⟩ := hh
  have hKK : ∀ k, 1 ≤ k → k ≤ 249 → K3 k = K2 k := fun k _ hk => (hfr.2.1 k hk).symm
  have e1 : ∀ k j, k ≤ 249 → ¬ k = 206 → M2 k j = M k j := fun k j hk h => hfr.2.2.1 k j hk (fun w hw hh => by
    have := of_decide_eq_true (List.all_eq_true.mp (show (q43p 206).2.2.2.2.1.1.all (fun w => decide (w.1 = 206)) = true by decide) w hw)
    omega)
  have e5 : M2 206 5 = gm_w (M3 206 5) := dw_f (dt_sym hdt) (by decide) hKK (pl_o hF2) (show tyF 206 5 5 = true by decide +kernel)
  rw [dw_i ⟨by omega, by omega⟩] at e5
  have ho2 : oc = (.inr none, 249, ([], [], [])) := List.mem_singleton.mp hoc
  subst ho2
  refine ⟨qL_b hF (by decide) hF2 hfr (fun N2 ls2 hq2 hk2 hw2 hlr2 => ⟨?_, ?_⟩), hfr, _, List.mem_cons_self, ho, hn2, (fun _ h => nomatch h), (fun _ h => nomatch h), fun q hq9 => ?_⟩
  · rw [e1 1 15 (by decide) (by decide)]
    exact hq2.2.2.imp_right fun hh => ⟨hh.1, ends_x hh.2 (fun k j hk => e1 k j (by omega) (by omega))⟩
  · exact kfl_b hk2 ⟨by have := hq2.1.1.1.1.1; omega, by have := hq2.1.1.1.1.2.1; omega⟩ (e1 200 6 (by decide) (by decide)) (fun j _ _ => e1 205 j (by decide) (by decide))
  · rw [List.mem_singleton.mp hq9]
    refine ⟨show 206 ≤ n2 by have := hfr.1; omega, fun j j1 j2 => ?_⟩
    have ej : j = 5 := Int.le_antisymm j2 j1
    subst ej
    show gm_ir (M2 206 5) ∧ ck_gi σ (0, 300, []) (M2 206 5)
    rw [e5]
    exact ⟨⟨by omega, by omega⟩, hI.1, hI.2, fun _ h => nomatch h⟩
theorem q43_207 (hS : ck_Ok p2_OL X LX 43 (q43p 207)) : ck_Ok qL_O X LX 43 (q43 207) := by
  intro d σ vs n K R M hd hn hvs hσ hF hf
  obtain ⟨v0, w0, rfl, g0, g4⟩ := hvs
  have g4 : w0 = [] := g4
  subst g4
  have g0 : v0 = gm_vr 207 := g0
  subst g0
  have hn : n = 249 := hn
  subst hn
  have F0 := pl_o (qL_p hF)
  have hrow := hS d σ [gm_vr 207] 249 K R M hd rfl ⟨_, _, rfl, rfl, rfl⟩ (fun q hq => hσ q (List.mem_append_left _ hq)) (qL_p hF) ⟨(fun _ h => nomatch h), (fun _ h => nomatch h), (fun _ h => nomatch h)⟩
  have f4 := ((gm_tyr_s F0 (show gm_tyr p2_O 207 4 4 = some (-1, -1) by decide +kernel)).2 4 (Int.le_refl _) (Int.le_refl _)).1
  have f5 := (hf.2.2 (207, 5, 5, (0, 128, [])) List.mem_cons_self).2 5 (Int.le_refl _) (Int.le_refl _)
  have f7 := (hf.2.2 (207, 7, 7, (0, 299, [])) (List.mem_cons_of_mem _ List.mem_cons_self)).2 7 (Int.le_refl _) (Int.le_refl _)
  have a5 : 0 ≤ M 207 5 ∧ M 207 5 ≤ 128 := ⟨f5.2.1, f5.2.2.1⟩
  have a7 : 0 ≤ M 207 7 ∧ M 207 7 ≤ 299 := ⟨f7.2.1, f7.2.2.1⟩
  have hq : ∃ N ls, qC (some ls) N M := by
    obtain ⟨hJ, N, ls, hq, -⟩ := hF.2.2.2.2
    exact ⟨N, ls, hq⟩
  obtain ⟨N, ls, hq⟩ := hq
  have hfun := wy_c43_207 (X := X) (LX := LX) (bc := 0) (bs := 0) (Q := fun o n1 K1 R1 M1 => K1 = K ∧ 0 ≤ M1 207 5 ∧ M1 207 5 ≤ 300) (wo := M 207 4) (y := M 207 7) (r0 := M 207 5) hd (e0F F0) (ti_x (cstF F0) hq.2.1) hq.1.1.1 rfl rfl rfl ⟨a7.1, by omega⟩ f4 ⟨by omega, by omega⟩ (fun M2 hfr h5 => ⟨rfl, by rw [h5]; exact nfl_300 hq.1.1.1 a5⟩)
  refine gm_Wp_mono (fun o n2 K2 R2 M2 hh => ?_) (gm_Wp_and hrow hfun)
  obtain ⟨⟨hF2, hfr, oc, hoc, ho, hn2, -⟩, o3, n3, K3, R3, M3, ⟨rfl, hI⟩, -, hdt⟩ := hh
  have hKK : ∀ k, 1 ≤ k → k ≤ 249 → K3 k = K2 k := fun k _ hk => (hfr.2.1 k hk).symm
  have e1 : ∀ k j, k ≤ 249 → ¬ k = 207 → M2 k j = M k j := fun k j hk h => hfr.2.2.1 k j hk (fun w hw hh => by
    have := of_decide_eq_true (List.all_eq_true.mp (show (q43p 207).2.2.2.2.1.1.all (fun w => decide (w.1 = 207)) = true by decide) w hw)
    omega)
  have e5 : M2 207 5 = gm_w (M3 207 5) := dw_f (dt_sym hdt) (by decide) hKK (pl_o hF2) (show tyF 207 5 5 = true by decide +kernel)
  rw [dw_i ⟨by omega, by omega⟩] at e5
  have ho2 : oc = (.inr none, 249, ([], [], [])) := List.mem_singleton.mp hoc
  subst ho2
  refine ⟨qL_b hF (by decide) hF2 hfr (fun N2 ls2 hq2 hk2 hw2 hlr2 => ⟨?_, ?_⟩), hfr, _, List.mem_cons_self, ho, hn2, (fun _ h => nomatch h), (fun _ h => nomatch h), fun q hq9 => ?_⟩
  · rw [e1 1 15 (by decide) (by decide)]
    exact hq2.2.2.imp_right fun hh => ⟨hh.1, ends_x hh.2 (fun k j hk => e1 k j (by omega) (by omega))⟩
  · exact kfl_b hk2 ⟨by have := hq2.1.1.1.1.1; omega, by have := hq2.1.1.1.1.2.1; omega⟩ (e1 200 6 (by decide) (by decide)) (fun j _ _ => e1 205 j (by decide) (by decide))
  · rw [List.mem_singleton.mp hq9]
    refine ⟨show 207 ≤ n2 by have := hfr.1; omega, fun j j1 j2 => ?_⟩
    have ej : j = 5 := Int.le_antisymm j2 j1
    subst ej
    show gm_ir (M2 207 5) ∧ ck_gi σ (0, 300, []) (M2 207 5)
    rw [e5]
    exact ⟨⟨by omega, by omega⟩, hI.1, hI.2, fun _ h => nomatch h⟩
end QH22
