/-! UNDO, THE IMAGE, BACK, a text of the valley, a law: the class upon the abstract state. -/
/-- what a call on the class itself leaves -/
noncomputable def CQ (n : Nat) (K : gm_K) (M : gm_M) (o9 : gm_O) (RR : gm_R → gm_M → Prop) (N : Int → Int) (lw : Option (List lln)) (A : List (Int → Int)) (im : Option ((Int → Int) × Option (List lln))) (t w : Int) (f : Int → Int) : gm_Q := fun o n1 K1 R1 M1 => (n1 = n ∧ K1 = K ∧ ∀ (k : Nat) (j : Int), 246 ≤ k → M1 k j = M k j) ∧ o = o9 ∧ CLV N lw A im t w f M1 ∧ RR R1 M1
noncomputable def ap_undo (N : Int → Int) : List (Int → Int) → Int × (Int → Int) × List (Int → Int)
  | [] => (0, N, [])
  | N0 :: A1 => (1, N0, A1)
noncomputable def ap_back (N : Int → Int) (lw : Option (List lln)) (A : List (Int → Int)) : Option ((Int → Int) × Option (List lln)) → Int × (Int → Int) × Option (List lln) × List (Int → Int)
  | none => (0, N, lw, A)
  | some q => (1, q.1, q.2, [])
noncomputable def ap_valley (f : Int → Int) (t : Int) (N : Int → Int) (A : List (Int → Int)) : Int × Int × (Int → Int) × List (Int → Int) × Int :=
  tif (¬ (v_val f t N).1 = true) (1, 0, N, A, (v_val f t N).2.1) (tif (N 7 = 12) (2, 0, N, A, -1) (0, N 7 + 1, nup (v_val f t N).2.2 7 (N 7 + 1), [], -1))
/-- what the law's own method for a text of the valley hands back -/
noncomputable def VQ (n : Nat) (K : gm_K) (R : gm_R) (M : gm_M) (r : Int × Int × (Int → Int) × List (Int → Int) × Int) (lw : Option (List lln)) (im : Option ((Int → Int) × Option (List lln))) (f : Int → Int) : gm_Q := fun o n1 K1 R1 M1 => (n1 = n ∧ K1 = K ∧ ∀ (k : Nat) (j : Int), 246 ≤ k → M1 k j = M k j) ∧ o = .inl (some (gm_vi r.1)) ∧ (r.1 = 0 → M1 245 0 = gm_w r.2.1) ∧ CLV r.2.2.1 lw r.2.2.2.1 im 0 r.2.2.2.2 f M1 ∧ M1 42 1 = M 42 1 ∧ (R1 = gm_uR R 16 8 (R 3 8) ∨ R1 = gm_uR (gm_uR R 16 8 (R 3 8)) 3 8 ((gm_uR R 16 8 (R 3 8)) 16 8))
section CD6
variable {X : Int → Int} {LX d bc bs n : Nat} {K : gm_K} {R : gm_R} {M M2 : gm_M} {N NI : Int → Int} {lw lI : Option (List lln)} {A : List (Int → Int)} {im : Option ((Int → Int) × Option (List lln))} {t w : Int} {f : Int → Int}
theorem kfl_new {φ : Int → Int → Int → Int} (h : M 200 6 = 1) : KFL N φ M := by
  refine ⟨by rw [h]; decide, fun l r y _ _ _ _ _ _ => Or.inl ?_⟩
  unfold kv
  rw [h]
  rfl
theorem his_nil {nx : Int} (h0 : 0 ≤ nx ∧ nx < 12) (h1 : M 42 1 = nx) (h2 : M 42 2 = 0) : HIS [] M := ⟨nx, h0, h1, h2, by decide, fun i N1 h => by simp at h⟩
theorem his_nx (h : HIS A M) : 0 ≤ M 42 1 ∧ M 42 1 < 12 := by
  obtain ⟨nx, h0, h1, -⟩ := h
  omega
theorem ca_undo (hd : 8 ≤ d) (hE : E0 n K R) (hG : GJ N) (hA : ∀ N1 ∈ A, GJ N1 ∧ hgeo N N1) (hV : CLV N lw A im t w f M) : gm_Wp X LX d bc bs 54 0 (gm_ent 54 [gm_vr 1]) [] n K R M (CQ n K M (.inl (some (gm_vi (ap_undo N A).1))) (fun R1 M1 => STEP R R1 M M1 A (ap_undo N A).2.2) (ap_undo N A).2.1 lw (ap_undo N A).2.2 im t w f) := by
  refine ac_54 hd hE hV.1.1 hG.1.1 hV.1.2 (fun N1 h => (hA N1 h).1.1.1) (fun hA0 M2 hf h15 => ?_) (fun N0 A1 p M2 hA0 hp hk hH hC hc h15 hx => ?_)
  · subst hA0
    have hC2 : CST M2 := cst_fr hV.1.1.1 hf (by decide +kernel)
    exact ⟨⟨rfl, rfl, fun k j hk => hf k j (by intro hm; simp at hm) (by intro hm; simp at hm; omega)⟩, rfl, clv_up hV hG.1.1 hgeo_r hC2 ((cs_fr hf (by decide)).trans hV.1.1.2.1) (his_w hV.1.2 hf (by decide)) (Or.inl h15) (fun hn => kfl_e (hV.2.2.1 hn) (fr_c hf (by decide)) (fun j => fr_c hf (by decide))) (fun j hj => by rcases hj with rfl | rfl | rfl <;> exact fr_j hf (by decide)) (fun k j hk => hf k j (by intro hm; simp at hm) (by intro hm; simp at hm; omega)), Or.inl ⟨rfl, fr_c hf (by decide), rfl⟩⟩
  · subst hA0
    have hg := (hA N0 List.mem_cons_self).2
    have e9 : ∀ (k : Nat) (j : Int), (k = 1 ∧ ¬ j = 15) ∨ k = 2 ∨ (29 ≤ k ∧ k ≤ 41) ∨ (200 ≤ k) → M2 k j = M k j := fun k j hk => hx k j (by omega) (by omega)
    exact ⟨⟨rfl, rfl, fun k j hk => e9 k j (by omega)⟩, rfl, clv_up hV hG.1.1 hg hC hc hH (Or.inl h15) (fun hn => kfl_e (hV.2.2.1 hn) (e9 200 6 (by omega)) (fun j => e9 205 j (by omega))) (fun j hj => e9 1 j (by omega)) (fun k j hk => e9 k j (by omega)), Or.inr (Or.inr ⟨p, hp, hk, rfl, N0, rfl⟩)⟩
theorem ca_image (hd : 5 ≤ d) (hE : E0 n K R) (hG : GJ N) (hV : CLV N lw A im t w f M) : gm_Wp X LX d bc bs 59 0 (gm_ent 59 [gm_vr 1]) [] n K R M (CQ n K M (.inl none) (fun R1 M1 => R1 = gm_uR R 29 8 (R 3 8) ∧ M1 42 1 = M 42 1) N lw A (some (N, lw)) t w f) := by
  refine im_t59 hd hE hV.1.1 hG.1.1 (fun M2 hT hc h6 hx => ?_)
  have e9 : ∀ (k : Nat) (j : Int), ¬ (k = 1 ∧ j = 6) → k < 29 ∨ 41 < k → M2 k j = M k j := hx
  refine ⟨⟨rfl, rfl, fun k j hk => e9 k j (by omega) (by omega)⟩, rfl, ⟨⟨hT, his_fr hV.1.2 (fun x j h1 h2 => e9 x j (by omega) (by omega))⟩, ?_, fun hn => kfl_e (hV.2.2.1 hn) (e9 200 6 (by omega) (by omega)) (fun j => e9 205 j (by omega) (by omega)), Or.inr ⟨h6, N, lw, rfl, hc⟩, ⟨(e9 1 1 (by omega) (by omega)).trans hV.2.2.2.2.1.1, (e9 1 2 (by omega) (by omega)).trans hV.2.2.2.2.1.2⟩, fun j j0 j1 => (e9 2 j (by omega) (by omega)).trans (hV.2.2.2.2.2 j j0 j1)⟩, rfl, e9 42 1 (by omega) (by omega)⟩
  rw [e9 1 15 (by omega) (by omega)]
  exact hV.2.1.imp_right fun h => ⟨h.1, ends_x h.2 (fun k j hk => e9 k j (by omega) (by omega))⟩
theorem ca_back (hd : 8 ≤ d) (hE : E0 n K R) (hG : GJ N) (hI : ∀ NI lI, im = some (NI, lI) → GJ NI) (hV : CLV N lw A im t w f M) : gm_Wp X LX d bc bs 60 0 (gm_ent 60 [gm_vr 1]) [] n K R M (CQ n K M (.inl (some (gm_vi (ap_back N lw A im).1))) (fun R1 M1 => M1 42 1 = M 42 1 ∧ ((im = none ∧ R1 = R) ∨ ((∃ q, im = some q) ∧ R1 = gm_uR R 3 8 (R 29 8)))) (ap_back N lw A im).2.1 (ap_back N lw A im).2.2.1 (ap_back N lw A im).2.2.2 im t w f) := by
  rcases hV.2.2.2.1 with ⟨h6, hi⟩ | ⟨h6, NI, lI, hi, hc⟩
  · subst hi
    exact ac_60 (NI := N) hd hE hV.1.1 hG.1.1 (Or.inl h6) (fun _ => ⟨⟨rfl, rfl, fun _ _ _ => rfl⟩, rfl, hV, rfl, Or.inl ⟨rfl, rfl⟩⟩) (fun h => absurd (h6.symm.trans h) (by decide)) (fun h => absurd (h6.symm.trans h) (by decide))
  · subst hi
    have gi := hI NI lI rfl
    refine ac_60 (NI := NI) hd hE hV.1.1 hG.1.1 (Or.inr h6) (fun h => absurd (h6.symm.trans h) (by decide)) (fun _ => ⟨hc, gi.1.1, gi.1.2.1⟩) (fun _ M2 hT h200 h42 h15 hx => ?_)
    have e9 : ∀ (k : Nat) (j : Int), (k = 1 ∧ ¬ j = 15) ∨ k = 2 ∨ (16 ≤ k ∧ ¬ (201 ≤ k ∧ k ≤ 203) ∧ ¬ (k = 200 ∧ j = 6) ∧ ¬ (k = 42 ∧ j = 2)) → M2 k j = M k j := fun k j hk => hx k j (by omega) (by omega) (by omega) (by omega) (by omega) (by omega) (by omega)
    refine ⟨⟨rfl, rfl, fun k j hk => e9 k j (by omega)⟩, rfl, ⟨⟨hT, his_nil (his_nx hV.1.2) (e9 42 1 (by omega)) h42⟩, Or.inl h15, fun _ => kfl_new h200, Or.inr ⟨(e9 1 6 (by omega)).trans h6, NI, lI, rfl, ?_⟩, ⟨(e9 1 1 (by omega)).trans hV.2.2.2.2.1.1, (e9 1 2 (by omega)).trans hV.2.2.2.2.1.2⟩, fun j j0 j1 => (e9 2 j (by omega)).trans (hV.2.2.2.2.2 j j0 j1)⟩, e9 42 1 (by omega), Or.inr ⟨⟨_, rfl⟩, rfl⟩⟩
    rw [← hc]
    exact cs_same fun x j h1 h2 => e9 x j (by omega)
/-- a text of the valley -/
theorem ca_valley (hd : 14 ≤ d) (hbc : 4 ≤ bc) (hbs : 24 ≤ bs) (hE : E0 n K R) (hn : 245 ≤ n) (hK : K 245 = (2, 1)) (hF : VF f t) (hf : M 2 = f) (h4 : M 214 1 = 4) (h13 : M 213 1 = 14) (hG : GJ N) (hV : CLV N lw A im t w f M) : gm_Wp X LX d bc bs 71 0 (gm_ent 71 [gm_vr 1]) [] n K R M (hQ [(0, 1), (1, 2)] (VQ n K R M (ap_valley f t N A) lw im f)) := by
  have ht := hV.2.2.2.2.1.1
  have hsame : ∀ {M2 : gm_M} {w2 : Int}, (∀ (x : Nat) (j : Int), x < 16 ∨ 28 < x → ¬ x = 214 → ¬ (x = 1 ∧ (j = 1 ∨ j = 2)) → M2 x j = M x j) → CST M2 → cs M2 3 = N → M2 1 1 = 0 → M2 1 2 = w2 → CLV N lw A im 0 w2 f M2 := fun {M2 w2} hx hC hc h1 h2 => by
    have e9 : ∀ (k : Nat) (j : Int), (k = 1 ∧ ¬ (j = 1 ∨ j = 2)) ∨ k = 2 ∨ (29 ≤ k ∧ ¬ k = 214) → M2 k j = M k j := fun k j hk => hx k j (by omega) (by omega) (by omega)
    refine ⟨⟨hg_ti hG.1.1 hgeo_r hV.1.1 hC hc (fun k j h1 h2 => e9 k j (by omega)), his_fr hV.1.2 (fun x j h1 h2 => e9 x j (by omega))⟩, ?_, fun hn => kfl_e (hV.2.2.1 hn) (e9 200 6 (by omega)) (fun j => e9 205 j (by omega)), ?_, ⟨h1, h2⟩, fun j j0 j1 => (e9 2 j (by omega)).trans (hV.2.2.2.2.2 j j0 j1)⟩
    · rw [e9 1 15 (by omega)]
      exact hV.2.1.imp_right fun h => ⟨h.1, ends_x h.2 (fun k j hk => e9 k j (by omega))⟩
    · rw [e9 1 6 (by omega)]
      refine hV.2.2.2.1.imp_right fun ⟨h1, NI, lI, h2, h3⟩ => ⟨h1, NI, lI, h2, ?_⟩
      rw [← h3]
      exact cs_same fun x j h1 h2 => e9 x j (by omega)
  refine vy_71 hd hbc hbs hE hV.1.1.1 (by rw [hf, ht]; exact hF) h4 h13 hV.1.1.2.1 hG.1 (fun M2 hx hC hc hv h2 h1 => ?_) (fun M2 hx hC hc hv h7 h2 h1 => ?_) (fun M2 hv h7 hGI hT h200 h42 h15 h2 h1 hx => ?_)
  · rw [hf, ht] at hv h2
    have er : ap_valley f t N A = (1, 0, N, A, (v_val f t N).2.1) := tif_t hv
    rw [er]
    exact hQ_x hn hK (c := 1) (by decide) ⟨⟨rfl, rfl, fun k j hk => hx k j (by omega) (by omega) (by omega)⟩, rfl, fun e => absurd (show (1 : Int) = 0 from e) (by decide), hsame hx hC hc h1 h2, hx 42 1 (by omega) (by omega) (by omega), Or.inl rfl⟩
  · rw [hf, ht] at hv
    have er : ap_valley f t N A = (2, 0, N, A, -1) := (tif_f (fun hh => hh hv)).trans (tif_t h7)
    rw [er]
    exact hQ_x hn hK (c := 2) (by decide) ⟨⟨rfl, rfl, fun k j hk => hx k j (by omega) (by omega) (by omega)⟩, rfl, fun e => absurd (show (2 : Int) = 0 from e) (by decide), hsame hx hC hc h1 h2, hx 42 1 (by omega) (by omega) (by omega), Or.inl rfl⟩
  · rw [hf, ht] at hv hT
    have er : ap_valley f t N A = (0, N 7 + 1, nup (v_val f t N).2.2 7 (N 7 + 1), [], -1) := (tif_f (fun hh => hh hv)).trans (tif_f (by omega))
    rw [er]
    have e9 : ∀ (k : Nat) (j : Int), (k = 1 ∧ ¬ (j = 1 ∨ j = 2 ∨ j = 15)) ∨ k = 2 ∨ (29 ≤ k ∧ ¬ k = 214 ∧ ¬ (201 ≤ k ∧ k ≤ 203) ∧ ¬ (k = 200 ∧ j = 6) ∧ ¬ (k = 42 ∧ j = 2)) → M2 k j = M k j := fun k j hk => hx k j (by omega) (by omega) (by omega) (by omega) (by omega) (by omega) (by omega) (by omega)
    have hV2 : CLV (nup (v_val f t N).2.2 7 (N 7 + 1)) lw [] im 0 (-1) f M2 := by
      refine ⟨⟨hT, his_nil (his_nx hV.1.2) (e9 42 1 (by omega)) h42⟩, Or.inl h15, fun _ => kfl_new h200, ?_, ⟨h1, h2⟩, fun j j0 j1 => (e9 2 j (by omega)).trans (hV.2.2.2.2.2 j j0 j1)⟩
      rw [e9 1 6 (by omega)]
      refine hV.2.2.2.1.imp_right fun ⟨h1, NI, lI, h2, h3⟩ => ⟨h1, NI, lI, h2, ?_⟩
      rw [← h3]
      exact cs_same fun x j h1 h2 => e9 x j (by omega)
    exact hQ_v hn hK ⟨⟨rfl, rfl, fun k j hk => (uM_ne (by omega)).trans (e9 k j (by omega))⟩, rfl, fun _ => uM_at, clv_245 hV2 hT.1, (uM_ne (by decide)).trans (e9 42 1 (by omega)), Or.inr rfl⟩
/-- the codes of a right law -/
theorem scds_b {B : Nat} : ∀ (ls : List lst) (h k : Nat), shg B ls h k → ∀ c ∈ scds ls, -17 ≤ c ∧ c ≤ 999 := by
  intro ls
  induction ls with
  | nil => intro h k _ c hc; cases hc
  | cons s r ih =>
    intro h k hs c hc
    have hc : c ∈ scd s ++ scds r := hc
    have pb : ∀ {ps : List (Int × Int)}, (∀ p ∈ ps, pwf p) → c ∈ ps.map pcd → -17 ≤ c ∧ c ≤ 999 := fun {ps} hp hm => by
      obtain ⟨p, hp2, rfl⟩ := List.mem_map.mp hm
      have := hp p hp2
      unfold pwf at this
      unfold pcd
      split <;> omega
    rcases List.mem_append.mp hc with hc | hc
    · unfold scd at hc
      rcases hs with ⟨h1, -⟩ | ⟨h1, -⟩ | ⟨h1, -⟩
      · rcases h1 with ⟨h0, hw⟩ | h0 | h0
        · rw [if_pos h0] at hc
          rcases List.mem_append.mp hc with hc | hc
          · exact pb hw.1 hc
          · rcases List.mem_cons.mp hc with rfl | hc
            · decide
            · rcases List.mem_append.mp hc with hc | hc
              · exact pb hw.2.1 hc
              · rw [List.mem_singleton.mp hc]
                split <;> decide
        · rw [h0] at hc
          have hc : c ∈ [(-2 - 8 : Int)] := hc
          rw [List.mem_singleton.mp hc]
          decide
        · rw [h0] at hc
          have hc : c ∈ [(-2 - 9 : Int)] := hc
          rw [List.mem_singleton.mp hc]
          decide
      · rw [h1] at hc
        have hc : c ∈ [(-15 : Int)] := hc
        rw [List.mem_singleton.mp hc]
        decide
      · rcases h1 with h1 | h1
        · rw [h1] at hc
          have hc : c ∈ [(-16 : Int)] := hc
          rw [List.mem_singleton.mp hc]
          decide
        · rw [h1] at hc
          have hc : c ∈ [(-17 : Int)] := hc
          rw [List.mem_singleton.mp hc]
          decide
    · rcases hs with ⟨-, -, h2⟩ | ⟨-, -, h2⟩ | ⟨-, -, h2⟩
      · exact ih _ _ h2 c hc
      · exact ih _ _ h2 c hc
      · exact ih _ _ h2 c hc
theorem lb_of {ls : List lln} {us : Int} (hW : LW ls) (h8 : M 248 0 = 12 ∧ M 248 1 = 4 ∧ M 248 3 = (ls.length : Int)) (hu : 0 ≤ us ∧ us ≤ 400) (hc : cdl ls us (M 249) (M 247)) : LB us.toNat (M 247) (M 249) (ls.length : Int) M := by
  have h12 := hW.1
  refine ⟨⟨⟨h8.1, h8.2.1, by omega, by omega⟩, fun i i0 i1 => ?_, fun k k0 k1 => ?_⟩, fun _ => rfl, fun _ => rfl, h8.2.2⟩
  · obtain ⟨k, x, t, j, a1, a2, a3⟩ := hc.2.1 i i0 (by omega)
    exact scds_b t 0 1 ((hW.2 k x a1).2.2 t a2) _ (List.mem_of_getElem? a3)
  · rw [h8.2.2] at k1
    obtain ⟨u, rfl⟩ : ∃ u : Nat, k = (u : Int) := ⟨k.toNat, by omega⟩
    obtain ⟨⟨b1, b2, b3⟩, b4, b5⟩ := hc.2.2 u (by omega)
    exact ⟨b4, b5, ⟨b1, b2, by omega⟩⟩
end CD6
