/-! THE REFERENCE'S flowAt: a row under what is kept. -/
section RK30
variable {X : Int → Int} {LX n n1 n2 : Nat} {K K1 K2 : gm_K} {R R2 : gm_R} {M M1 M2 : gm_M} {N h G : Int → Int} {lw : Option (List lln)} {φ : Int → Int → Int → Int}
theorem frx_a (hE : E0 n K R) (hG : LAWG lw G) (hN : NR N) (hS : NSb 6 N) : ∀ (d bc bs : Nat) (M : gm_M) (Q : gm_Q) (lane row year : Int), 12 ≤ d → 0 ≤ lane ∧ lane < 6 → 0 ≤ row ∧ row < 99 → 0 ≤ year ∧ year < 300 → TR N h M → FIR G lw N h M → (∀ M2 v, FIR G lw N h M2 → Q (.inl (some (gm_vi v))) n K R M2) → gm_Wp X LX d bc bs 292 0 (gm_ent 292 [gm_vr 226, gm_vi lane, gm_vi row, gm_vi year]) [] n K R M Q := by
  intro d bc bs M Q lane row year hd hl hr hy hT hI hq
  cases lw with
  | none =>
    have he : ∀ l r y, 0 ≤ l ∧ l < 6 → 0 ≤ r ∧ r < 99 → 0 ≤ y ∧ y < 300 → aphi none N h l r y = rphi0 N l r y := fun l r y hl _ _ => aphi_n hl
    exact re_flr0x hE hN hS (hG.1 rfl) d bc bs M Q lane row year hd hl hr hy hT ⟨(kfr_cg he).mp hI.1, hI.2⟩ (fun M2 _ hI2 => hq M2 _ ⟨(kfr_cg he).mpr hI2.1, hI2.2⟩)
  | some ls =>
    obtain ⟨hW, hR, hL⟩ := hG.2 ls rfl
    have he : ∀ l r y, 0 ≤ l ∧ l < 6 → 0 ≤ r ∧ r < 99 → 0 ≤ y ∧ y < 300 → aphi (some ls) N h l r y = rphi N h (HH ls) G (ls.length : Int) l r y := fun l r y hl _ _ => by rw [aphi_s hl, ← rphi_gcl hR]
    exact re_flrx hE hN hS hL (hhl_x hW hR) d bc bs M Q lane row year hd hl hr hy hT ⟨(kfr_cg he).mp hI.1, hI.2⟩ (fun M2 _ hI2 => hq M2 _ ⟨(kfr_cg he).mpr hI2.1, hI2.2⟩)
theorem kfr_dt (hd : dt_m n K1 M1 K2 M2) (hn : 245 ≤ n) (hK : ∀ k, 1 ≤ k → k ≤ n → K1 k = K2 k) (hF : gm_Fx p2_O n2 K2 R2 M2) (hk : KFR N φ M1) : KFR N φ M2 := by
  have f26 : M2 226 26 = gm_w (M1 226 26) := dw_f hd hn hK hF dr_c2.2.2.2.2
  have c26 : M2 226 26 = M1 226 26 := by rw [f26]; exact dw_i ⟨by have := hk.1.1; omega, by have := hk.1.2; omega⟩
  have c35 : ∀ j, 0 ≤ j → j < 29700 → M2 235 j = M1 235 j := fun j j0 j1 => by
    have := hk.2.1 j j0 j1
    rw [dw_a hd hn hK hF dr_c1.2.2.2.2 j0 (by omega)]
    exact dw_i ⟨by omega, by omega⟩
  refine ⟨by rw [c26]; exact hk.1, fun j j0 j1 => by rw [c35 j j0 j1]; exact hk.2.1 j j0 j1, fun r y l0 l1 r0 r1 y0 y1 => ?_⟩
  rw [c26] at l0 l1 ⊢
  rw [c35 _ (by omega) (by omega)]
  exact hk.2.2 r y l0 l1 r0 r1 y0 y1
noncomputable def q292_W : List (Nat × Int × Int) × List (Nat × Int) := ([(226, 17, 23), (226, 26, 26), (233, 0, 399), (235, 0, 29699)], [])
noncomputable def q292p (a b : Int) : ck_Sum := ((4, 0, 0), 245, [.inr (.inr (.inl 226)), .inl (a, b, []), .inl (0, 98, []), .inl (0, 299, [])], ([], [], [(227, 2, 2, (0, 8, [(20, 0)]))]), q292_W, [(.inr (some (.inl (0, 30, []))), 245, ([], [], [(226, 26, 26, (a, b, []))]))])
noncomputable def q292 : ck_Sum := ((12, 0, 0), 245, [.inr (.inr (.inl 226)), .inl (0, 6, []), .inl (0, 98, []), .inl (0, 299, [])], ([], [], [(227, 2, 2, (0, 8, [(20, 0)]))]), q292_W, [(.inr (some (.inl (0, 30, []))), 245, ([], [], [(226, 26, 26, (0, 6, []))]))])
/-- behind it: the standing condition, if FLOWs that are kept are right -/
theorem qR_b {W : List (Nat × Int × Int) × List (Nat × Int)} (hF : gm_Fx qR_O n K R M) (hW : W.1.all (fun w => decide (w.1 = 226 ∨ w.1 = 233 ∨ w.1 = 235)) = true) (hF2 : gm_Fx p2_O n2 K2 R2 M2) (hfr : ck_fr W n K R M n2 K2 R2 M2) (hx : ∀ N lw, GJ N → TR N (hts (N 13)) M → LAWR lw (M 227) → KFR N (aphi lw N (hts (N 13))) M → KFR N (aphi lw N (hts (N 13))) M2) : gm_Fx qR_O n2 K2 R2 M2 := by
  obtain ⟨hJ, N, lw, hG, hT, hL, hk⟩ := hF.2.2.2.2
  have hn : 245 ≤ n := (k245 (e0F (qR_p hF))).1
  have e : ∀ (k : Nat) (j : Int), k ≤ n → ¬ (k = 226 ∨ k = 233 ∨ k = 235) → M2 k j = M k j := fun k j hk9 h => hfr.2.2.1 k j hk9 (fun w hw hh => by
    have := of_decide_eq_true (List.all_eq_true.mp hW w hw)
    omega)
  have e7 : M2 227 = M 227 := funext fun j => e 227 j (by omega) (by decide)
  exact ⟨hF2.1, hF2.2.1, hF2.2.2.1, fun k r hr => Nat.le_trans (hF.2.2.2.1 k r hr) hfr.1, hF2.2.2.2.2, N, lw, hG, ⟨by rw [e7]; exact hT.1, fun y y0 y1 => by rw [e 234 y (by omega) (by decide)]; exact hT.2 y y0 y1⟩, by rw [e7]; exact hL, hx N lw hG hT hL hk⟩
theorem q292_s (hS : ck_Ok p2_O X LX 292 (q292p 0 6)) (hS6 : ck_Ok p2_O X LX 292 (q292p 6 6)) : ck_Ok qR_O X LX 292 q292 := by
  intro d σ vs n K R M hd hn hvs hσ hF hf
  obtain ⟨v0, w0, rfl, g0, v1, w1, rfl, ⟨l, rfl, hl, l0, l1, -⟩, v2, w2, rfl, ⟨r, rfl, hr, r0, r1, -⟩, v3, w3, rfl, ⟨y, rfl, hy, y0, y1, -⟩, g4⟩ := hvs
  have g4 : w3 = [] := g4
  subst g4
  have g0 : v0 = gm_vr 226 := g0
  subst g0
  have l0 : (0 : Int) ≤ l := l0
  have l1 : l ≤ (6 : Int) := l1
  have r0 : (0 : Int) ≤ r := r0
  have r1 : r ≤ (98 : Int) := r1
  have y0 : (0 : Int) ≤ y := y0
  have y1 : y ≤ (299 : Int) := y1
  have hd : 12 ≤ d := hd
  have hn : n = 245 := hn
  subst hn
  have F0 := qR_p hF
  by_cases h6 : l = 6
  · subst h6
    have hrow := hS6 d σ [gm_vr 226, gm_vi 6, gm_vi r, gm_vi y] 245 K R M (show 4 ≤ d by omega) rfl ⟨_, _, rfl, rfl, _, _, rfl, ⟨6, rfl, hl, Int.le_refl _, Int.le_refl _, fun _ h => nomatch h⟩, _, _, rfl, ⟨r, rfl, hr, r0, r1, fun _ h => nomatch h⟩, _, _, rfl, ⟨y, rfl, hy, y0, y1, fun _ h => nomatch h⟩, rfl⟩ hσ F0 hf
    refine gm_Wp_mono (fun o n2 K2 R2 M2 hh => ?_) hrow
    obtain ⟨hF2, hfr, oc, hoc, ho, hn2, hf2⟩ := hh
    have hoc := List.mem_singleton.mp hoc
    subst hoc
    have f26 := ((hf2.2.2 (226, 26, 26, (6, 6, [])) List.mem_cons_self).2 26 (Int.le_refl _) (Int.le_refl _))
    have z0 : (6 : Int) ≤ M2 226 26 := f26.2.1
    have z1 : M2 226 26 ≤ (6 : Int) := f26.2.2.1
    have t35 := (gm_tyr_s hF2 (show gm_tyr p2_O 235 0 29699 = some (0, 31) by decide +kernel)).2
    refine ⟨qR_b hF (by decide) hF2 hfr (fun N lw _ _ _ _ => ⟨⟨by omega, by omega⟩, fun j j0 j1 => (t35 j j0 (by omega)).2, fun r y h0 h1 => absurd h1 (by omega)⟩), hfr, _, List.mem_cons_self, ho, hn2, (fun _ h => nomatch h), (fun _ h => nomatch h), fun q hq => ?_⟩
    rw [List.mem_singleton.mp hq]
    refine ⟨show 226 ≤ n2 by have := hfr.1; omega, fun j j1 j2 => ?_⟩
    have ej : j = 26 := Int.le_antisymm j2 j1
    subst ej
    exact ⟨f26.1, (show (0 : Int) ≤ M2 226 26 by omega), z1, fun _ h => nomatch h⟩
  · have hrow := hS d σ [gm_vr 226, gm_vi l, gm_vi r, gm_vi y] 245 K R M (show 4 ≤ d by omega) rfl ⟨_, _, rfl, rfl, _, _, rfl, ⟨l, rfl, hl, l0, l1, fun _ h => nomatch h⟩, _, _, rfl, ⟨r, rfl, hr, r0, r1, fun _ h => nomatch h⟩, _, _, rfl, ⟨y, rfl, hy, y0, y1, fun _ h => nomatch h⟩, rfl⟩ hσ F0 hf
    have hJ : ∃ N lw, GJ N ∧ TR N (hts (N 13)) M ∧ LAWR lw (M 227) ∧ KFR N (aphi lw N (hts (N 13))) M := hF.2.2.2.2.2
    obtain ⟨N, lw, hG, hT, hL, hk⟩ := hJ
    have hfun := frx_a (X := X) (LX := LX) (h := hts (N 13)) (e0F F0) (lawg_of hL F0.2.2.2.2.2.2.1) hG.1.1 (ns6 F0 hT.1 hG.1.1) d 0 0 M (fun o n1 K1 R1 M1 => K1 = K ∧ KFR N (aphi lw N (hts (N 13))) M1) l r y hd ⟨l0, by omega⟩ ⟨r0, by omega⟩ ⟨y0, by omega⟩ hT ⟨hk, fun _ _ => rfl⟩ (fun M2 v hI => ⟨rfl, hI.1⟩)
    refine gm_Wp_mono (fun o n2 K2 R2 M2 hh => ?_) (gm_Wp_and hrow hfun)
    obtain ⟨⟨hF2, hfr, hoc⟩, o3, n3, K3, R3, M3, ⟨rfl, hI⟩, -, hdt⟩ := hh
    have hKK : ∀ k, 1 ≤ k → k ≤ 245 → K3 k = K2 k := fun k _ hk => (hfr.2.1 k hk).symm
    have e7 : M2 227 = M 227 := funext fun j => hfr.2.2.1 227 j (by decide) (fun w hw hh => absurd hh (of_decide_eq_true (List.all_eq_true.mp (show q292_W.1.all (fun w => decide (¬ (w.1 = 227 ∧ w.2.1 ≤ j ∧ j ≤ w.2.2))) = true by simp [q292_W]) w hw)))
    have e34 : ∀ j, M2 234 j = M 234 j := fun j => hfr.2.2.1 234 j (by decide) (fun w hw hh => absurd hh (of_decide_eq_true (List.all_eq_true.mp (show q292_W.1.all (fun w => decide (¬ (w.1 = 234 ∧ w.2.1 ≤ j ∧ j ≤ w.2.2))) = true by simp [q292_W]) w hw)))
    exact ⟨⟨hF2.1, hF2.2.1, hF2.2.2.1, fun k r hr => Nat.le_trans (hF.2.2.2.1 k r hr) hfr.1, hF2.2.2.2.2, N, lw, hG, ⟨by rw [e7]; exact hT.1, fun y y0 y1 => by rw [e34 y]; exact hT.2 y y0 y1⟩, by rw [e7]; exact hL, kfr_dt (dt_sym hdt) (by decide) hKK hF2 hI⟩, hfr, hoc⟩
end RK30
