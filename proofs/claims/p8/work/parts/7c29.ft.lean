/-! FIT, told of the world: it empties the TAPE of both. -/
section FT29
variable {X : Int → Int} {LX : Nat} {O : gm_Or} {g z g1 : Nat} {la la2 : Nat → Nat} {K K2 : gm_K} {R R2 : gm_R} {M M2 : gm_M} {L : gm_L} {st : List gm_V} {Q : gm_Q} {N N0 : Int → Int} {lw lw0 : Option (List lln)} {A A0 : List (Int → Int)} {im im0 : Option ((Int → Int) × Option (List lln))} {t w t0 w0 : Int} {f f0 : Int → Int} {bc bs pc ix : Nat} {l0 l1 l : List ck_Sum} {ds : List (Int × Int)} {S : ck_Sum}
noncomputable def z_at (S : ck_Sum) (k : Nat) (j : Int) : Bool := S.2.2.2.2.2.all fun oc => oc.2.2.2.2.any fun q => decide (q.1 = k ∧ q.2.1 = j ∧ q.2.2.1 = j ∧ q.2.2.2.1 = 0 ∧ q.2.2.2.2.1 = 0)
theorem z_at_s {σ : Nat → Int} {oc : ck_Oc} {n k : Nat} {j : Int} {K' : gm_K} {R' : gm_R} {M' : gm_M} (h : z_at S k j = true) (hoc : oc ∈ S.2.2.2.2.2) (hf : ck_gf σ oc.2.2 n K' R' M') : M' k j = 0 := by
  obtain ⟨q, hq, h2⟩ := List.any_eq_true.mp (List.all_eq_true.mp h oc hoc)
  obtain ⟨e1, e2, e3, e4, e5⟩ := of_decide_eq_true h2
  have := ((hf.2.2 q hq).2 j (by omega) (by omega)).2
  rw [e1] at this
  have h1 := this.1
  have h2 := this.2.1
  omega
noncomputable def w_ft (O : gm_Or) (z g1 k1 : Nat) (t : Bool) (kk : Nat) (jj : Int) (S : ck_Sum) : Bool := bc_ok O z g1 S && (bc_args S k1 t && (decide (S.1.1 + 1 ≤ 280 ∧ S.1.2.1 ≤ 6 ∧ S.1.2.2 ≤ 600) && (S.2.2.2.2.1.2.isEmpty && ((S.2.2.2.2.1.1.all fun w => !(cKb w || rKb w) || (decide (w.1 = kk) && ((decide (jj - 1 < w.2.1) || !(cKb (w.1, w.2.1, jj - 1) || rKb (w.1, w.2.1, jj - 1))) && (decide (w.2.2 < jj + 1) || !(cKb (w.1, jj + 1, w.2.2) || rKb (w.1, jj + 1, w.2.2)))))) && z_at S kk jj))))
theorem ft_e {n0 n : Nat} {K0 K' : gm_K} {R0 R' : gm_R} {M0 M' : gm_M} {kk : Nat} {jj : Int} (h : (S.2.2.2.2.1.1.all fun w => !(cKb w || rKb w) || (decide (w.1 = kk) && ((decide (jj - 1 < w.2.1) || !(cKb (w.1, w.2.1, jj - 1) || rKb (w.1, w.2.1, jj - 1))) && (decide (w.2.2 < jj + 1) || !(cKb (w.1, jj + 1, w.2.2) || rKb (w.1, jj + 1, w.2.2)))))) = true) (hfr : ck_fr S.2.2.2.2.1 n0 K0 R0 M0 n K' R' M') {k : Nat} {j : Int} (hk : k ≤ n0) (hc : cK k j ∨ rK k j) (hne : ¬ (k = kk ∧ j = jj)) : M' k j = M0 k j := by
  refine hfr.2.2.1 k j hk fun w hw hh => ?_
  have := List.all_eq_true.mp h w hw
  simp only [Bool.or_eq_true, Bool.and_eq_true, Bool.not_eq_true', Bool.or_eq_false_iff, decide_eq_true_eq] at this
  have bad : ∀ {w2 : Nat × Int × Int}, (w2.1 = k ∧ w2.2.1 ≤ j ∧ j ≤ w2.2.2) → cKb w2 = false ∧ rKb w2 = false → False := fun {w2} h2 h3 => by
    rcases hc with hc | hc
    · rw [cKb_s hc h2] at h3; exact absurd h3.1 (by decide)
    · rw [rKb_s hc h2] at h3; exact absurd h3.2 (by decide)
  rcases this with h9 | ⟨h9, h10, h11⟩
  · exact bad hh h9
  · by_cases hj : j < jj
    · rcases h10 with h10 | h10
      · have := hh.2.1
        omega
      · exact bad (w2 := (w.1, w.2.1, jj - 1)) ⟨hh.1, hh.2.1, by show j ≤ jj - 1; omega⟩ h10
    · have : ¬ j = jj := fun e => hne ⟨by rw [← hh.1]; exact h9, e⟩
      rcases h11 with h11 | h11
      · have := hh.2.2
        omega
      · exact bad (w2 := (w.1, jj + 1, w.2.2)) ⟨hh.1, by show jj + 1 ≤ j; omega, hh.2.2⟩ h11
theorem fx_K {k1 : Nat} {tt : Bool} (hb : bg g la K R M) (hz : bs_ok la z g1) (hck : w_ft O z g1 k1 tt 1 1 S = true) (hR : REL la K M N lw A im t w f) (hbc : 6 ≤ bc) (hbs : 600 ≤ bs) (k : mq_K X LX bc bs pc L st Q g (fun la2 K2 M2 => MID la2 K2 M2 N lw A im 0 w f N lw A im t w f) (fun u _ => mq_V S u)) : bc_KX X LX 280 (bc - S.1.2.1) (bs - S.1.2.2) 370 pc L st Q O z g1 g la K M S := by
  simp only [w_ft, Bool.and_eq_true, decide_eq_true_eq, List.isEmpty_iff] at hck
  obtain ⟨-, -, hbd, hR2, hW, hz0⟩ := hck
  intro oc hoc σ u n' K' R' M' _ ho hf hF hfr hb2
  have eR : ∀ k j, k ≤ 245 + 4 * g1 → R' k j = bs_R z g1 k j := fun k j hk => hfr.2.2.2 k j hk (by rw [hR2]; exact fun h => nomatch h)
  have e : ∀ k j, k ≤ 245 → (cK k j ∨ rK k j) → ¬ (k = 1 ∧ j = 1) → bg_M g M M' k j = M k j := fun k j hk h hne => by
    rw [bg_Ms hk, ft_e hW hfr (by omega) h hne, vM hk]
  have e0 : bg_M g M M' 1 1 = 0 := (bg_Ms (show 1 ≤ 245 by decide) 1).trans (z_at_s hz0 hoc hf)
  obtain ⟨hG, hL, hA, hI, ht, hw9, hf9⟩ := hR.1
  refine gm_Wp_wk (Nat.le_refl _) (by omega) (by omega) (k u _ _ _ _ ⟨oc, hoc, σ, ho⟩ hb2 ⟨⟨hG, hL, hA, hI, ⟨by decide, by decide⟩, hw9, hf9⟩, hR.1, lwl_e hR.2.1 hb.2.2.2 (fun s hs => ?_) (e 42 1 (by decide) (Or.inl (by unfold cK; omega)) (by decide)) (fun k k1 k2 => bg_Ks k2) (fun k j k1 k2 => bg_oldM k1 k2), clv_e (clv_t (t2 := 0) hR.2.2.1) (cstF hb2.2.1) (fun k j hk => ?_), rfv_e hR.2.2.2 (fun k j hk => e k j (by have := rk_le hk; omega) (Or.inr hk) (by have := rk_le hk; omega))⟩)
  · show bg_dc la g 0 (R' s 8) = la s
    rw [eR s 8 (by have := bg_ssl hs; omega)]
    exact bg_dcs hz hs
  · by_cases h1 : k = 1 ∧ j = 1
    · obtain ⟨rfl, rfl⟩ := h1
      exact e0.trans uM_at.symm
    · rw [uM_ne h1]
      exact e k j (by have := ck_le hk; omega) (Or.inl hk) h1
theorem fm_K (hb : bg g la K R M) (hck : w_ft p2_O 100003 0 226 false 226 8 S = true) (hR : MID la K M N lw A im 0 w f N lw A im t w f) (hbc : 6 ≤ bc) (hbs : 600 ≤ bs) (k : mq_K X LX bc bs pc L st Q g (fun la2 K2 M2 => REL la2 K2 M2 N lw A im 0 w f) (fun u _ => mq_V S u)) : bc_KX X LX 280 (bc - S.1.2.1) (bs - S.1.2.2) 370 pc L st Q p2_O 100003 0 g la K M S := by
  have hz : bs_ok la 100003 0 := Or.inr (Or.inl ⟨rfl, rfl⟩)
  simp only [w_ft, Bool.and_eq_true, decide_eq_true_eq, List.isEmpty_iff] at hck
  obtain ⟨-, -, hbd, hR2, hW, hz0⟩ := hck
  intro oc hoc σ u n' K' R' M' _ ho hf hF hfr hb2
  have eR : ∀ k j, k ≤ 245 + 4 * 0 → R' k j = bs_R 100003 0 k j := fun k j hk => hfr.2.2.2 k j hk (by rw [hR2]; exact fun h => nomatch h)
  have e : ∀ k j, k ≤ 245 → (cK k j ∨ rK k j) → ¬ (k = 226 ∧ j = 8) → bg_M g M M' k j = M k j := fun k j hk h hne => by
    rw [bg_Ms hk, ft_e hW hfr (by omega) h hne, vM hk]
  have e0 : bg_M g M M' 226 8 = 0 := (bg_Ms (show 226 ≤ 245 by decide) 8).trans (z_at_s hz0 hoc hf)
  obtain ⟨hra, hra0, hL, hC, hV⟩ := hR
  refine gm_Wp_wk (Nat.le_refl _) (by omega) (by omega) (k u _ _ _ _ ⟨oc, hoc, σ, ho⟩ hb2 ⟨hra, lwl_e hL hb.2.2.2 (fun s hs => ?_) (e 42 1 (by decide) (Or.inl (by unfold cK; omega)) (by decide)) (fun k k1 k2 => bg_Ks k2) (fun k j k1 k2 => bg_oldM k1 k2), clv_e hC (cstF hb2.2.1) (fun k j hk => e k j (by have := ck_le hk; omega) (Or.inl hk) (by have := ck_le hk; omega)), rfv_tape hV e0 (fun j j0 j1 => (e 231 j (by decide) (Or.inr (by unfold rK; omega)) (by omega)).trans (hV.2.2.2.2 j j0 j1)) (fun k j hk h1 h2 => e k j (by have := rk_le hk; omega) (Or.inr hk) h2)⟩)
  show bg_dc la g 0 (R' s 8) = la s
  rw [eR s 8 (by have := bg_ssl hs; omega)]
  exact bg_dcs hz hs
end FT29
