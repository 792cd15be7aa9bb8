/-! THE CALLS THAT ONLY ASK AND KEEP SOMETHING, told of the world. -/
section KQ34
variable {X : Int → Int} {LX : Nat} {g z g1 : Nat} {la : Nat → Nat} {K K2 : gm_K} {R R2 : gm_R} {M M2 : gm_M} {L : gm_L} {st : List gm_V} {Q : gm_Q} {N : Int → Int} {lw : Option (List lln)} {A : List (Int → Int)} {im : Option ((Int → Int) × Option (List lln))} {t w : Int} {f : Int → Int} {bc bs pc : Nat} {S : ck_Sum}
noncomputable def kpt (k : Nat) (j : Int) : Prop := (k = 1 ∧ j = 15) ∨ (k = 200 ∧ j = 6) ∨ k = 205 ∨ k = 220 ∨ k = 221
theorem clv_k (hV : CLV N lw A im t w f M) (hC : CST M2) (e : ∀ k j, cK k j → ¬ kpt k j → M2 k j = M k j) (h15 : M2 1 15 = 0 ∨ (M2 1 15 = 1 ∧ ENDS N (hts (N 13)) (aphi lw N (hts (N 13))) M2)) (hk : ¬ lw = none → KFL N (aphx lw N (hts (N 13))) M2) : CLV N lw A im t w f M2 := by
  obtain ⟨⟨hT, hH⟩, -, -, hi, ht, hf⟩ := hV
  have e2 : ∀ (k : Nat) (j : Int), cK k j → ¬ (k = 1 ∧ j = 15) → ¬ k = 200 → ¬ k = 205 → ¬ k = 220 → ¬ k = 221 → M2 k j = M k j := fun k j h1 h2 h3 h4 h5 h6 => e k j h1 (by unfold kpt; omega)
  have e6 : M2 1 6 = M 1 6 := e2 1 6 (by unfold cK; omega) (by decide) (by decide) (by decide) (by decide) (by decide)
  refine ⟨⟨⟨hC, ?_, fun y y0 y1 => ?_, fun l r l0 l1 r0 r1 => ?_⟩, his_fr hH (fun x j h1 h2 => e2 x j (by unfold cK; omega) (by omega) (by omega) (by omega) (by omega) (by omega))⟩, h15, hk, ?_, ⟨?_, ?_⟩, fun j j0 j1 => ?_⟩
  · rw [← hT.2.1]
    exact cs_same fun x j h1 h2 => e2 x j (by unfold cK; omega) (by omega) (by omega) (by omega) (by omega) (by omega)
  · rw [e2 201 y (by unfold cK; omega) (by omega) (by omega) (by omega) (by omega) (by omega), e2 203 y (by unfold cK; omega) (by omega) (by omega) (by omega) (by omega) (by omega)]
    exact hT.2.2.1 y y0 y1
  · rw [e2 202 _ (by unfold cK; omega) (by omega) (by omega) (by omega) (by omega) (by omega)]
    exact hT.2.2.2 l r l0 l1 r0 r1
  · rw [e6]
    refine hi.imp_right fun ⟨h1, NI, lI, h2, h3⟩ => ⟨h1, NI, lI, h2, ?_⟩
    rw [← h3]
    exact cs_same fun x j h1 h2 => e2 x j (by unfold cK; omega) (by omega) (by omega) (by omega) (by omega) (by omega)
  · rw [e2 1 1 (by unfold cK; omega) (by decide) (by decide) (by decide) (by decide) (by decide)]; exact ht.1
  · rw [e2 1 2 (by unfold cK; omega) (by decide) (by decide) (by decide) (by decide) (by decide)]; exact ht.2
  · rw [e2 2 j (by unfold cK; omega) (by omega) (by omega) (by omega) (by omega) (by omega)]; exact hf j j0 j1
theorem qC_w (hG : GJ N) (hV : CLV N lw A im t w f M) : qC lw N M := ⟨hG, ⟨hV.1.1.2.1, hV.1.1.2.2.1, hV.1.1.2.2.2⟩, hV.2.1⟩
theorem bs_q0 (hb : bg g la K R M) (hR : REL la K M N none A im t w f) : gm_Fx q0_O 245 (bs_K la K) (bs_R 0 0) (bs_M la M) := by
  have h := bs_F0 (z := 0) hb
  refine ⟨h.1, h.2.1, h.2.2.1, fun k r hr => ?_, h.2.2.2.2, N, qC_w hR.1.1 (clv_w hb hR.2.2.1)⟩
  rcases List.mem_append.mp hr with hr | hr
  · exact h.2.2.2.1 k r hr
  · unfold qC_fp at hr
    by_cases hk : k ≤ 245
    · exact hk
    · rw [if_neg (by omega), if_neg (by omega), if_neg (by omega), if_neg (by omega), if_neg (by omega), if_neg (by omega)] at hr
      cases hr
noncomputable def w_k (O : gm_Or) (z g1 k1 : Nat) (t : Bool) (S : ck_Sum) : Bool := bc_ok O z g1 S && (bc_args S k1 t && (decide (S.1.1 + 1 ≤ 280 ∧ S.1.2.1 ≤ 6 ∧ S.1.2.2 ≤ 600) && (S.2.2.2.2.1.2.isEmpty && S.2.2.2.2.1.1.all fun w => qk_c w || (!cKb w && !rKb w))))
theorem wk_e {n0 n : Nat} {K0 K' : gm_K} {R0 R' : gm_R} {M0 M' : gm_M} (h : (S.2.2.2.2.1.1.all fun w => qk_c w || (!cKb w && !rKb w)) = true) (hfr : ck_fr S.2.2.2.2.1 n0 K0 R0 M0 n K' R' M') {k : Nat} {j : Int} (hk : k ≤ n0) (hc : (cK k j ∧ ¬ kpt k j) ∨ rK k j) : M' k j = M0 k j := by
  refine hfr.2.2.1 k j hk fun w hw hh => ?_
  have := List.all_eq_true.mp h w hw
  simp only [Bool.or_eq_true, Bool.and_eq_true, Bool.not_eq_true'] at this
  rcases this with h9 | h9
  · have h9 := of_decide_eq_true h9
    rcases hc with ⟨hc, hn⟩ | hc
    · unfold cK at hc
      unfold kpt at hn
      omega
    · have := rk_le hc
      omega
  · rcases hc with ⟨hc, -⟩ | hc
    · rw [cKb_s hc hh] at h9; exact absurd h9.1 (by decide)
    · rw [rKb_s hc hh] at h9; exact absurd h9.2 (by decide)
/-- without a law -/
theorem wk0_s {k1 : Nat} {tt : Bool} (hb : bg g la K R M) (h3 : la 3 = 0) (hck : w_k q0_O 0 0 k1 tt S = true) (hR : REL la K M N none A im t w f) (hbc : 6 ≤ bc) (hbs : 600 ≤ bs) (k : mq_K X LX bc bs pc L st Q g (fun la2 K2 M2 => REL la2 K2 M2 N none A im t w f) (fun u _ => mq_V S u)) : bc_KX X LX 280 (bc - S.1.2.1) (bs - S.1.2.2) 370 pc L st Q q0_O 0 0 g la K M S := by
  have hz : bs_ok la 0 0 := Or.inl ⟨rfl, rfl, h3⟩
  simp only [w_k, Bool.and_eq_true, decide_eq_true_eq, List.isEmpty_iff] at hck
  obtain ⟨-, -, hbd, hR2, hW⟩ := hck
  intro oc hoc σ u n' K' R' M' _ ho hf hF hfr hb2
  have eR : ∀ k j, k ≤ 245 + 4 * 0 → R' k j = bs_R 0 0 k j := fun k j hk => hfr.2.2.2 k j hk (by rw [hR2]; exact fun h => nomatch h)
  have e0 : ∀ k j, k ≤ 245 → bg_M g M M' k j = M' k j := fun k j hk => bg_Ms hk j
  have e : ∀ k j, k ≤ 245 → ((cK k j ∧ ¬ kpt k j) ∨ rK k j) → bg_M g M M' k j = M k j := fun k j hk h => by
    rw [bg_Ms hk, wk_e hW hfr (by omega) h, vM hk]
  obtain ⟨-, N2, hq⟩ := hF.2.2.2.2
  have eN : N2 = N := by
    rw [← hq.2.1.1, ← hR.2.2.1.1.1.2.1]
    exact cs_same fun x j h1 h2 => by
      rw [← e0 x j (by omega)]
      exact e x j (by omega) (Or.inl ⟨by unfold cK; omega, by unfold kpt; omega⟩)
  subst eN
  have h15 : bg_M g M M' 1 15 = 0 ∨ (bg_M g M M' 1 15 = 1 ∧ ENDS N2 (hts (N2 13)) (aphi none N2 (hts (N2 13))) (bg_M g M M')) := by
    rw [e0 1 15 (by decide)]
    exact hq.2.2.imp_right fun hh => ⟨hh.1, ends_x hh.2 (fun k j hk => e0 k j (by omega))⟩
  refine gm_Wp_wk (Nat.le_refl _) (by omega) (by omega) (k u _ _ _ _ ⟨oc, hoc, σ, ho⟩ hb2 ⟨hR.1, lwl_e hR.2.1 hb.2.2.2 (fun s hs => ?_) (e 42 1 (by decide) (Or.inl ⟨by unfold cK; omega, by unfold kpt; omega⟩)) (fun k k1 k2 => bg_Ks k2) (fun k j k1 k2 => bg_oldM k1 k2), clv_k hR.2.2.1 (cstF hb2.2.1) (fun k j hk hn => e k j (by have := ck_le hk; omega) (Or.inl ⟨hk, hn⟩)) h15 (fun hn => absurd rfl hn), rfv_e hR.2.2.2 (fun k j hk => e k j (by have := rk_le hk; omega) (Or.inr hk))⟩)
  show bg_dc la g 0 (R' s 8) = la s
  rw [eR s 8 (by have := bg_ssl hs; omega)]
  exact bg_dcs hz hs
end KQ34
