/-! THE CALLS THAT ONLY ASK AND KEEP SOMETHING, told of the world: under a law; the reference. -/
section KR35
variable {X : Int → Int} {LX : Nat} {g z g1 : Nat} {la : Nat → Nat} {K K2 : gm_K} {R R2 : gm_R} {M M2 : gm_M} {L : gm_L} {st : List gm_V} {Q : gm_Q} {N : Int → Int} {lw lw2 : Option (List lln)} {ls : List lln} {A : List (Int → Int)} {im : Option ((Int → Int) × Option (List lln))} {t w : Int} {f W : Int → Int} {bc bs pc : Nat} {S : ck_Sum}
theorem bs_qL (hb : bg g la K R M) (h3 : ¬ la 3 = 0) (hR : REL la K M N (some ls) A im t w f) : gm_Fx qL_O 249 (bs_K la K) (bs_R 246 1) (bs_M la M) := by
  have h := bs_F1 hb h3
  obtain ⟨-, hW, NC, h1, h2, h4, h5⟩ := hR.2.1.1.2 ls rfl
  have hV := clv_w hb hR.2.2.1
  refine ⟨h.1, h.2.1, h.2.2.1, fun k r hr => ?_, h.2.2.2.2, N, ls, qC_w hR.1.1 hV, hV.2.2.1 (fun e => nomatch e), ⟨hW, NC, h1, h2, h4, h5⟩, (rfv_w (la := la) hR.2.2.2).1.2.1⟩
  rcases List.mem_append.mp hr with hr | hr
  · exact h.2.2.2.1 k r hr
  · by_cases hk : k ≤ 249
    · exact hk
    · rcases List.mem_append.mp hr with hr | hr
      · unfold qC_fp at hr
        rw [if_neg (by omega), if_neg (by omega), if_neg (by omega), if_neg (by omega), if_neg (by omega), if_neg (by omega)] at hr
        cases hr
      · unfold qL_fx at hr
        rw [if_neg (by omega), if_neg (by omega), if_neg (by omega), if_neg (by omega), if_neg (by omega), if_neg (by omega)] at hr
        cases hr
theorem wkL_s {k1 : Nat} {tt : Bool} (hb : bg g la K R M) (h3 : ¬ la 3 = 0) (hck : w_k qL_O 246 1 k1 tt S = true) (hR : REL la K M N (some ls) A im t w f) (hbc : 6 ≤ bc) (hbs : 600 ≤ bs) (k : mq_K X LX bc bs pc L st Q g (fun la2 K2 M2 => REL la2 K2 M2 N (some ls) A im t w f) (fun u _ => mq_V S u)) : bc_KX X LX 280 (bc - S.1.2.1) (bs - S.1.2.2) 370 pc L st Q qL_O 246 1 g la K M S := by
  have hz : bs_ok la 246 1 := Or.inr (Or.inr ⟨rfl, rfl, h3⟩)
  simp only [w_k, Bool.and_eq_true, decide_eq_true_eq, List.isEmpty_iff] at hck
  obtain ⟨-, -, hbd, hR2, hW⟩ := hck
  intro oc hoc σ u n' K' R' M' _ ho hf hF hfr hb2
  have eR : ∀ k j, k ≤ 245 + 4 * 1 → R' k j = bs_R 246 1 k j := fun k j hk => hfr.2.2.2 k j hk (by rw [hR2]; exact fun h => nomatch h)
  have e0 : ∀ k j, k ≤ 245 → bg_M g M M' k j = M' k j := fun k j hk => bg_Ms hk j
  have e : ∀ k j, k ≤ 245 → ((cK k j ∧ ¬ kpt k j) ∨ rK k j) → bg_M g M M' k j = M k j := fun k j hk h => by
    rw [bg_Ms hk, wk_e hW hfr (by omega) h, vM hk]
  obtain ⟨-, N2, ls2, hq, hkk, -, hlr⟩ := hF.2.2.2.2
  have eN : N2 = N := by
    rw [← hq.2.1.1, ← hR.2.2.1.1.1.2.1]
    exact cs_same fun x j h1 h2 => by
      rw [← e0 x j (by omega)]
      exact e x j (by omega) (Or.inl ⟨by unfold cK; omega, by unfold kpt; omega⟩)
  subst eN
  have e7 : M' 227 = M 227 := funext fun j => by
    rw [← e0 227 j (by decide)]
    exact e 227 j (by decide) (Or.inr (by unfold rK; omega))
  rw [e7] at hlr
  have hl2 := hR.2.2.2.1.2.1
  have ea := aphx_u (N := N2) (h := hts (N2 13)) hlr hl2
  have eb := aphi_u (N := N2) (h := hts (N2 13)) hlr hl2
  have h15 : bg_M g M M' 1 15 = 0 ∨ (bg_M g M M' 1 15 = 1 ∧ ENDS N2 (hts (N2 13)) (aphi (some ls) N2 (hts (N2 13))) (bg_M g M M')) := by
    rw [e0 1 15 (by decide), ← eb]
    exact hq.2.2.imp_right fun hh => ⟨hh.1, ends_x hh.2 (fun k j hk => e0 k j (by omega))⟩
  have hk9 : KFL N2 (aphx (some ls) N2 (hts (N2 13))) (bg_M g M M') := by
    rw [← ea]
    exact kfl_e hkk (e0 200 6 (by decide)) (fun j => e0 205 j (by decide))
  refine gm_Wp_wk (Nat.le_refl _) (by omega) (by omega) (k u _ _ _ _ ⟨oc, hoc, σ, ho⟩ hb2 ⟨hR.1, lwl_e hR.2.1 hb.2.2.2 (fun s hs => ?_) (e 42 1 (by decide) (Or.inl ⟨by unfold cK; omega, by unfold kpt; omega⟩)) (fun k k1 k2 => bg_Ks k2) (fun k j k1 k2 => bg_oldM k1 k2), clv_k hR.2.2.1 (cstF hb2.2.1) (fun k j hk hn => e k j (by have := ck_le hk; omega) (Or.inl ⟨hk, hn⟩)) h15 (fun _ => hk9), rfv_e hR.2.2.2 (fun k j hk => e k j (by have := rk_le hk; omega) (Or.inr hk))⟩)
  show bg_dc la g 0 (R' s 8) = la s
  rw [eR s 8 (by have := bg_ssl hs; omega)]
  exact bg_dcs hz hs
/-- the reference -/
theorem aphi_v (h1 : LAWR lw W) (h2 : LAWR lw2 W) {h : Int → Int} : aphi lw N h = aphi lw2 N h := by
  cases lw with
  | none =>
    cases lw2 with
    | none => rfl
    | some ls2 => exact absurd ((h1.1 rfl).symm.trans (h2.2 ls2 rfl).1.1) (by decide)
  | some ls =>
    cases lw2 with
    | none => exact absurd ((h2.1 rfl).symm.trans (h1.2 ls rfl).1.1) (by decide)
    | some ls2 => exact aphi_u h1 h2
theorem rfv_k (hV : RFV N lw A im t w f M) (e : ∀ k j, rK k j → ¬ k = 235 → ¬ (k = 226 ∧ j = 26) → M2 k j = M k j) (hk : KFR N (aphi lw N (hts (N 13))) M2) : RFV N lw A im t w f M2 := by
  obtain ⟨⟨hT, hL, hH⟩, -, hi, ht, hf⟩ := hV
  have e7 : M2 227 = M 227 := funext fun j => e 227 j (by unfold rK; omega) (by decide) (by omega)
  have e8 : M2 228 = M 228 := funext fun j => e 228 j (by unfold rK; omega) (by decide) (by omega)
  refine ⟨⟨⟨by rw [e7]; exact hT.1, fun y y0 y1 => ?_⟩, by rw [e7]; exact hL, ?_⟩, hk, ?_, ⟨?_, ?_⟩, fun j j0 j1 => ?_⟩
  · rw [e 234 y (by unfold rK; omega) (by decide) (by omega)]
    exact hT.2 y y0 y1
  · rw [e7]
    exact hisr_e hH (e 226 6 (by unfold rK; omega) (by decide) (by decide)) (fun j => e 230 j (by unfold rK; omega) (by decide) (by omega))
  · rw [e 226 5 (by unfold rK; omega) (by decide) (by decide), e8]
    exact hi
  · rw [e 226 8 (by unfold rK; omega) (by decide) (by decide)]; exact ht.1
  · rw [e 226 13 (by unfold rK; omega) (by decide) (by decide)]; exact ht.2
  · rw [e 231 j (by unfold rK; omega) (by decide) (by omega)]; exact hf j j0 j1
theorem bs_qR (hb : bg g la K R M) (hR : REL la K M N lw A im t w f) : gm_Fx qR_O 245 (bs_K la K) (bs_R 100003 0) (bs_M la M) := by
  have h := bs_F0 (z := 100003) hb
  have hV := rfv_w (la := la) hR.2.2.2
  refine ⟨h.1, h.2.1, h.2.2.1, fun k r hr => ?_, h.2.2.2.2, N, lw, hR.1.1, hV.1.1, hV.1.2.1, hV.2.1⟩
  rcases List.mem_append.mp hr with hr | hr
  · exact h.2.2.2.1 k r hr
  · unfold qR_fx at hr
    by_cases hk : k ≤ 245
    · exact hk
    · rw [if_neg (by omega), if_neg (by omega), if_neg (by omega), if_neg (by omega)] at hr
      cases hr
noncomputable def w_kR (S : ck_Sum) : Bool := bc_ok qR_O 100003 0 S && (bc_args S 226 false && (decide (S.1.1 + 1 ≤ 280 ∧ S.1.2.1 ≤ 6 ∧ S.1.2.2 ≤ 600) && (S.2.2.2.2.1.2.isEmpty && S.2.2.2.2.1.1.all fun w => decide (w.1 = 235 ∨ (w.1 = 226 ∧ w.2.1 = 26 ∧ w.2.2 = 26)) || (!cKb w && !rKb w))))
theorem wkR_s (hb : bg g la K R M) (hck : w_kR S = true) (hR : REL la K M N lw A im t w f) (hbc : 6 ≤ bc) (hbs : 600 ≤ bs) (k : mq_K X LX bc bs pc L st Q g (fun la2 K2 M2 => REL la2 K2 M2 N lw A im t w f) (fun u _ => mq_V S u)) : bc_KX X LX 280 (bc - S.1.2.1) (bs - S.1.2.2) 370 pc L st Q qR_O 100003 0 g la K M S := by
  have hz : bs_ok la 100003 0 := Or.inr (Or.inl ⟨rfl, rfl⟩)
  simp only [w_kR, Bool.and_eq_true, decide_eq_true_eq, List.isEmpty_iff] at hck
  obtain ⟨-, -, hbd, hR2, hW⟩ := hck
  intro oc hoc σ u n' K' R' M' _ ho hf hF hfr hb2
  have eR : ∀ k j, k ≤ 245 + 4 * 0 → R' k j = bs_R 100003 0 k j := fun k j hk => hfr.2.2.2 k j hk (by rw [hR2]; exact fun h => nomatch h)
  have e0 : ∀ k j, k ≤ 245 → bg_M g M M' k j = M' k j := fun k j hk => bg_Ms hk j
  have e : ∀ k j, k ≤ 245 → (cK k j ∨ rK k j) → ¬ k = 235 → ¬ (k = 226 ∧ j = 26) → bg_M g M M' k j = M k j := fun k j hk h n1 n2 => by
    rw [bg_Ms hk, hfr.2.2.1 k j (by omega) (fun w hw hh => ?_), vM hk]
    have := List.all_eq_true.mp hW w hw
    simp only [Bool.or_eq_true, Bool.and_eq_true, Bool.not_eq_true', decide_eq_true_eq] at this
    rcases this with h9 | h9
    · omega
    · rcases h with h | h
      · rw [cKb_s h hh] at h9; exact absurd h9.1 (by decide)
      · rw [rKb_s h hh] at h9; exact absurd h9.2 (by decide)
  obtain ⟨-, N2, lw2, hG2, hT2, hL2, hk2⟩ := hF.2.2.2.2
  have e7 : M' 227 = M 227 := funext fun j => by
    rw [← e0 227 j (by decide)]
    exact e 227 j (by decide) (Or.inr (by unfold rK; omega)) (by decide) (by omega)
  have eN : N2 = N := by rw [← hT2.1, e7]; exact hR.2.2.2.1.1.1
  subst eN
  rw [e7] at hL2
  rw [aphi_v (N := N2) (h := hts (N2 13)) hL2 hR.2.2.2.1.2.1] at hk2
  have hk9 : KFR N2 (aphi lw N2 (hts (N2 13))) (bg_M g M M') := kfr_e hk2 (e0 226 26 (by decide)) (fun j => e0 235 j (by decide))
  refine gm_Wp_wk (Nat.le_refl _) (by omega) (by omega) (k u _ _ _ _ ⟨oc, hoc, σ, ho⟩ hb2 ⟨hR.1, lwl_e hR.2.1 hb.2.2.2 (fun s hs => ?_) (e 42 1 (by decide) (Or.inl (by unfold cK; omega)) (by decide) (by decide)) (fun k k1 k2 => bg_Ks k2) (fun k j k1 k2 => bg_oldM k1 k2), clv_e hR.2.2.1 (cstF hb2.2.1) (fun k j hk => e k j (by have := ck_le hk; omega) (Or.inl hk) (by have := ck_le hk; omega) (by have := ck_le hk; omega)), rfv_k hR.2.2.2 (fun k j hk n1 n2 => e k j (by have := rk_le hk; omega) (Or.inr hk) n1 n2) hk9⟩)
  show bg_dc la g 0 (R' s 8) = la s
  rw [eR s 8 (by have := bg_ssl hs; omega)]
  exact bg_dcs hz hs
end KR35
