/-! A LAW, FEED, END: the class upon the abstract state. -/
/-- a text of a law: how it ends, the answer, the law, what is remembered, the wrong byte -/
noncomputable def ap_law (f : Int → Int) (t : Int) (lw : Option (List lln)) (A : List (Int → Int)) : Int × Int × Option (List lln) × List (Int → Int) × Int :=
  tif (¬ (g_law f t).1 = true) (1, 0, lw, A, (g_law f t).2) (0, (g_law f t).2, some (s_law f t), [], -1)
/-- the new law's cells -/
noncomputable def NL (ls : List lln) (K1 : gm_K) (R1 : gm_R) (M1 : gm_M) : Prop := ∃ us : Int, (0 ≤ us ∧ us ≤ 400) ∧ (K1 246 = (14, 0) ∧ K1 247 = (0, us.toNat) ∧ K1 248 = (6, 0) ∧ K1 249 = (0, 48)) ∧ (R1 3 8 = 246 ∧ R1 246 0 = 248 ∧ R1 246 1 = 247 ∧ R1 248 2 = 249) ∧ LB us.toNat (M1 247) (M1 249) (ls.length : Int) M1 ∧ LC ls (M1 247) (M1 249) ∧ LW ls
noncomputable def LQ (K : gm_K) (R : gm_R) (M : gm_M) (r : Int × Int × Option (List lln) × List (Int → Int) × Int) (N : Int → Int) (im : Option ((Int → Int) × Option (List lln))) (f : Int → Int) : gm_Q := fun o n1 K1 R1 M1 => o = .inl (some (gm_vi r.1)) ∧ (r.1 = 0 → M1 245 0 = gm_w r.2.1) ∧ CLV N r.2.2.1 r.2.2.2.1 im 0 r.2.2.2.2 f M1 ∧ M1 42 1 = M 42 1 ∧ (∀ c, c ≤ 245 → K1 c = K c) ∧ ((r.1 = 1 ∧ n1 = 245 ∧ ∀ c j, c ≤ 245 → R1 c j = R c j) ∨ (r.1 = 0 ∧ n1 = 249 ∧ (∀ c j, c ≤ 245 → ¬ (c = 3 ∧ j = 8) → R1 c j = R c j) ∧ ∃ ls, r.2.2.1 = some ls ∧ NL ls K1 R1 M1))
noncomputable def ap_feed (a : Int → Int) (t : Int) (f : Int → Int) : Int × Int × (Int → Int) := tif (381 ≤ t) (-1, t, f) (t + 20, t + 20, fdc a t 20 f)
noncomputable def ap_end (x t : Int) : Int × Int := tif (x < 0 ∨ t < x) (0, t) (1, x)
section CL8
variable {X : Int → Int} {LX d bc bs n : Nat} {K : gm_K} {R : gm_R} {M M2 : gm_M} {N : Int → Int} {lw : Option (List lln)} {A : List (Int → Int)} {im : Option ((Int → Int) × Option (List lln))} {t w x : Int} {f a : Int → Int}
theorem nl_245 {ls : List lln} {K1 : gm_K} {R1 : gm_R} {M1 : gm_M} {v : Int} (h : NL ls K1 R1 M1) : NL ls K1 R1 (gm_uM M1 245 0 v) := by
  obtain ⟨us, h1, h2, h3, h4, h5, h6⟩ := h
  have e7 : gm_uM M1 245 0 v 247 = M1 247 := funext fun j => uM_ne (by omega)
  have e8 : gm_uM M1 245 0 v 248 = M1 248 := funext fun j => uM_ne (by omega)
  have e9 : gm_uM M1 245 0 v 249 = M1 249 := funext fun j => uM_ne (by omega)
  refine ⟨us, h1, h2, h3, ?_, by rw [e7, e9]; exact h5, h6⟩
  unfold LB LM at h4 ⊢
  rw [e7, e8, e9]
  exact h4
theorem ca_law (hd : 26 ≤ d) (hbc : 4 ≤ bc) (hbs : 454 ≤ bs) (hF : gm_Fx p2_O 245 K R M) (hf : M 2 = f) (hG : GJ N) (hV : CLV N lw A im t w f M) : gm_Wp X LX d bc bs 123 0 (gm_ent 123 [gm_vr 1]) [] 245 K R M (hQ [(0, 1)] (LQ K R M (ap_law f t lw A) N im f)) := by
  have ht := hV.2.2.2.2.1.1
  have hK : K 245 = (2, 1) := (hF.1 245 (2, 1) (by decide +kernel)).2.2
  have h11 : 0 ≤ M 1 1 ∧ M 1 1 ≤ 400 := ((gm_tyr_s hF (show gm_tyr p2_O 1 1 1 = some (0, 400) by decide +kernel)).2 1 (Int.le_refl _) (Int.le_refl _)).2
  have b0 : 0 ≤ t := by rw [← ht]; exact h11.1
  refine cl_123 (N := N) hd hbc hbs hF ⟨hV.1.1.1, hV.1.1.2.1⟩ hG.1 h11 (fun K2 R2 M2 hk hr hx hg h2 h1 => ?_) (fun us K2 R2 M2 hg hk hr hk2 hr2 hm hu hcd hT h200 h42 h15 h2 h1 hx => ?_)
  · rw [hf, ht] at hg h2
    have er : ap_law f t lw A = (1, 0, lw, A, (g_law f t).2) := tif_t hg
    rw [er]
    have e9 : ∀ (k : Nat) (j : Int), k ≤ 214 → ¬ (k = 1 ∧ (j = 1 ∨ j = 2)) → M2 k j = M k j := fun k j hk h => hx k j (by omega) (by unfold kxw; omega) h
    have e9b : ∀ (k : Nat) (j : Int), 220 ≤ k → k ≤ 245 → M2 k j = M k j := fun k j hk h => hx k j h (by unfold kxw; omega) (by omega)
    have hC : CST M2 := fun q hq => by
      have e := of_decide_eq_true (List.all_eq_true.mp (show cstL.all (fun q => decide (q.1 ≤ 245 ∧ ¬ (q.1 = 216 ∨ q.1 = 218 ∨ q.1 = 219 ∨ (q.1 = 215 ∧ q.2.1 = 4) ∨ (q.1 = 217 ∧ q.2.1 = 3)) ∧ ¬ (q.1 = 1 ∧ (q.2.1 = 1 ∨ q.2.1 = 2)))) = true by decide +kernel) q hq)
      exact (hx q.1 q.2.1 e.1 e.2.1 e.2.2).trans (hV.1.1.1 q hq)
    refine hQ_x (Nat.le_refl _) ((hk 245 (Nat.le_refl _)).trans hK) (c := 1) (by decide) ⟨rfl, fun e => absurd (show (1 : Int) = 0 from e) (by decide), ⟨⟨hg_ti hG.1.1 hgeo_r hV.1.1 hC ((cs_same fun x j h1 h2 => e9 x j (by omega) (by omega)).trans hV.1.1.2.1) (fun k j h1 h2 => e9 k j (by omega) (by omega)), his_fr hV.1.2 (fun x j h1 h2 => e9 x j (by omega) (by omega))⟩, ?_, fun hn => kfl_e (hV.2.2.1 hn) (e9 200 6 (by omega) (by omega)) (fun j => e9 205 j (by omega) (by omega)), ?_, ⟨h1, h2⟩, fun j j0 j1 => (e9 2 j (by omega) (by omega)).trans (hV.2.2.2.2.2 j j0 j1)⟩, e9 42 1 (by omega) (by omega), hk, Or.inl ⟨rfl, rfl, hr⟩⟩
    · rw [e9 1 15 (by omega) (by omega)]
      exact hV.2.1.imp_right fun h => ⟨h.1, ends_x h.2 (fun k j hk => e9b k j (by omega) (by omega))⟩
    · rw [e9 1 6 (by omega) (by omega)]
      refine hV.2.2.2.1.imp_right fun ⟨h1, NI, lI, h2, h3⟩ => ⟨h1, NI, lI, h2, ?_⟩
      rw [← h3]
      exact cs_same fun x j h1 h2 => e9 x j (by omega) (by omega)
  · rw [hf, ht] at hg hm hcd
    have er : ap_law f t lw A = (0, (g_law f t).2, some (s_law f t), [], -1) := tif_f (fun hh => hh hg)
    rw [hf, ht, er]
    have hW := s_law_w b0 hg
    have hlen := s_law_len hg
    have e9 : ∀ (k : Nat) (j : Int), (k = 1 ∧ j = 6) ∨ k = 2 ∨ (29 ≤ k ∧ k ≤ 41) ∨ (k = 42 ∧ j = 1) → M2 k j = M k j := fun k j hk => hx k j (by omega) (by unfold lwr kxw; omega)
    have hV2 : CLV N (some (s_law f t)) [] im 0 (-1) f M2 := by
      refine ⟨⟨hT, his_nil (his_nx hV.1.2) (e9 42 1 (by omega)) h42⟩, Or.inl h15, fun _ => kfl_new h200, ?_, ⟨h1, h2⟩, fun j j0 j1 => (e9 2 j (by omega)).trans (hV.2.2.2.2.2 j j0 j1)⟩
      rw [e9 1 6 (by omega)]
      refine hV.2.2.2.1.imp_right fun ⟨h1, NI, lI, h2, h3⟩ => ⟨h1, NI, lI, h2, ?_⟩
      rw [← h3]
      exact cs_same fun x j h1 h2 => e9 x j (by omega)
    have hnl : NL (s_law f t) K2 R2 M2 := ⟨us, hu, hk2, hr2, lb_of hW ⟨hm.1, hm.2.1, hm.2.2.trans hlen.symm⟩ hu (hcd hW.1), (hcd hW.1).1, hW⟩
    exact hQ_v (by decide) ((hk 245 (Nat.le_refl _)).trans hK) ⟨rfl, fun _ => uM_at, clv_245 hV2 hT.1, (uM_ne (by decide)).trans (e9 42 1 (by omega)), hk, Or.inr ⟨rfl, rfl, hr, _, rfl, nl_245 hnl⟩⟩
theorem fe_x {M : gm_M} {T : Int} {F : Int → Int} {k : Nat} {j : Int} (h : ¬ (k = 1 ∧ j = 1)) (h2 : ¬ k = 2) : fe M T F k j = M k j := by unfold fe; rw [if_neg h, if_neg h2]
theorem fe_2 {M : gm_M} {T : Int} {F : Int → Int} {j : Int} : fe M T F 2 j = F j := by unfold fe; rw [if_neg (by omega), if_pos rfl]
theorem fe_11 {M : gm_M} {T : Int} {F : Int → Int} : fe M T F 1 1 = T := by unfold fe; rw [if_pos ⟨rfl, rfl⟩]
theorem fe_self {M : gm_M} : fe M (M 1 1) (M 2) = M := by
  funext b j
  by_cases h1 : b = 1 ∧ j = 1
  · obtain ⟨rfl, rfl⟩ := h1
    exact fe_11
  · by_cases h2 : b = 2
    · subst h2
      exact fe_2
    · exact fe_x h1 h2
theorem clv_tape {t2 : Int} {F f2 : Int → Int} (hV : CLV N lw A im t w f M) (hF : ∀ j, 0 ≤ j → j < 400 → F j = f2 j) : CLV N lw A im t2 w f2 (fe M t2 F) := by
  have e9 : ∀ (k : Nat) (j : Int), ¬ (k = 1 ∧ j = 1) → ¬ k = 2 → fe M t2 F k j = M k j := fun k j h1 h2 => fe_x h1 h2
  obtain ⟨⟨hT, hH⟩, h15, hk, hi, ht, hf⟩ := hV
  have hC : CST (fe M t2 F) := fun q hq => by
    have e := of_decide_eq_true (List.all_eq_true.mp (show cstL.all (fun q => decide (¬ q.1 = 1 ∧ ¬ q.1 = 2)) = true by decide +kernel) q hq)
    exact (e9 q.1 q.2.1 (fun h => e.1 h.1) e.2).trans (hT.1 q hq)
  refine ⟨⟨⟨hC, (cs_same fun x j h1 h2 => e9 x j (by omega) (by omega)).trans hT.2.1, fun y y0 y1 => ?_, fun l r l0 l1 r0 r1 => ?_⟩, his_fr hH (fun x j h1 h2 => e9 x j (by omega) (by omega))⟩, ?_, fun hn => kfl_e (hk hn) (e9 200 6 (by omega) (by omega)) (fun j => e9 205 j (by omega) (by omega)), ?_, ⟨fe_11, (e9 1 2 (by omega) (by omega)).trans ht.2⟩, fun j j0 j1 => fe_2.trans (hF j j0 j1)⟩
  · rw [e9 201 y (by omega) (by omega), e9 203 y (by omega) (by omega)]
    exact hT.2.2.1 y y0 y1
  · rw [e9 202 _ (by omega) (by omega)]
    exact hT.2.2.2 l r l0 l1 r0 r1
  · rw [e9 1 15 (by omega) (by omega)]
    exact h15.imp_right fun h => ⟨h.1, ends_x h.2 (fun k j hk => e9 k j (by omega) (by omega))⟩
  · rw [e9 1 6 (by omega) (by omega)]
    refine hi.imp_right fun ⟨h1, NI, lI, h2, h3⟩ => ⟨h1, NI, lI, h2, ?_⟩
    rw [← h3]
    exact cs_same fun x j h1 h2 => e9 x j (by omega) (by omega)
theorem ca_feed (hd : 1 ≤ d) (hE : E0 n K R) (ht0 : 0 ≤ t ∧ t ≤ 400) (hV : CLV N lw A im t w f M) : gm_Wp X LX d bc bs 19 0 (gm_ent 19 [gm_vr 1, gm_vi (a 0), gm_vi (a 1), gm_vi (a 2), gm_vi (a 3), gm_vi (a 4)]) [] n K R M (CQ n K M (.inl (some (gm_vi (ap_feed a t f).1))) (fun R1 M1 => R1 = R ∧ M1 42 1 = M 42 1) N lw A im (ap_feed a t f).2.1 w (ap_feed a t f).2.2) := by
  have ht := hV.2.2.2.2.1.1
  have q := fd_c19 (X := X) (LX := LX) (d := d) (bc := bc) (bs := bs) (n := n) (K := K) (R := R) (a := a) (M := M) (t := M 1 1) (f := M 2) (Q := CQ n K M (.inl (some (gm_vi (ap_feed a t f).1))) (fun R1 M1 => R1 = R ∧ M1 42 1 = M 42 1) N lw A im (ap_feed a t f).2.1 w (ap_feed a t f).2.2) hd (e0k hE (k := 1) (c := 0) (by decide +kernel)) (e0a hE (k := 2) (q := (1, 400)) (by decide +kernel)) (e0r hE (k := 1) (j := 0) (r := 2) (by decide +kernel)) (by rw [ht]; exact ht0) (fun h => ?_) (fun h => ?_)
  · rw [fe_self] at q
    exact q
  · rw [ht] at h
    have er : ap_feed a t f = (-1, t, f) := tif_t h
    rw [er, fe_self]
    exact ⟨⟨rfl, rfl, fun _ _ _ => rfl⟩, rfl, hV, rfl, rfl⟩
  · rw [ht] at h
    have er : ap_feed a t f = (t + 20, t + 20, fdc a t 20 f) := tif_f (by omega)
    rw [er, ht]
    refine ⟨⟨rfl, rfl, fun k j hk => fe_x (by omega) (by omega)⟩, rfl, clv_tape hV (fun j j0 j1 => ?_), rfl, fe_x (by omega) (by omega)⟩
    show fdc a t 20 (M 2) j = fdc a t 20 f j
    unfold fdc
    by_cases h9 : t ≤ j ∧ j < t + 20
    · rw [if_pos h9, if_pos h9]
    · rw [if_neg h9, if_neg h9]
      exact hV.2.2.2.2.2 j j0 j1
end CL8
