/-! FEED AND END of the reference upon the abstract state. -/
section RF10
variable {X : Int → Int} {LX d bc bs n : Nat} {K : gm_K} {R : gm_R} {M M2 : gm_M} {N : Int → Int} {lw : Option (List lln)} {A : List (Int → Int)} {im : Option ((Int → Int) × Option (List lln))} {t t2 w x : Int} {f f2 a : Int → Int}
theorem rfv_tape (hV : RFV N lw A im t w f M) (h8 : M2 226 8 = t2) (hf : ∀ j, 0 ≤ j → j < 400 → M2 231 j = f2 j) (e : ∀ k j, rK k j → ¬ k = 231 → ¬ (k = 226 ∧ j = 8) → M2 k j = M k j) : RFV N lw A im t2 w f2 M2 := by
  obtain ⟨⟨hT, hL, hH⟩, hk, hi, ht, -⟩ := hV
  have e7 : M2 227 = M 227 := funext fun j => e 227 j (by unfold rK; omega) (by omega) (by omega)
  have e8 : M2 228 = M 228 := funext fun j => e 228 j (by unfold rK; omega) (by omega) (by omega)
  refine ⟨⟨⟨by rw [e7]; exact hT.1, fun y y0 y1 => ?_⟩, by rw [e7]; exact hL, ?_⟩, kfr_e hk (e 226 26 (by unfold rK; omega) (by omega) (by omega)) (fun j => e 235 j (by unfold rK; omega) (by omega) (by omega)), ?_, ⟨h8, ?_⟩, hf⟩
  · rw [e 234 y (by unfold rK; omega) (by omega) (by omega)]
    exact hT.2 y y0 y1
  · rw [e7]
    exact hisr_e hH (e 226 6 (by unfold rK; omega) (by omega) (by omega)) (fun j => e 230 j (by unfold rK; omega) (by omega) (by omega))
  · rw [e 226 5 (by unfold rK; omega) (by omega) (by omega), e8]
    exact hi
  · rw [e 226 13 (by unfold rK; omega) (by omega) (by omega)]; exact ht.2
theorem ff_x {T : Int} {F V : Int → Int} {k : Nat} {j : Int} (h : rK k j) (h1 : ¬ k = 231) (h2 : ¬ (k = 226 ∧ j = 8)) : ff M T F V k j = M k j := by
  unfold rK at h
  unfold ff
  by_cases h3 : k = 226
  · rw [if_pos h3, if_neg (by omega), if_neg (by omega)]
  · rw [if_neg h3, if_neg h1, if_neg (by omega)]
theorem ff_231 {T : Int} {F V : Int → Int} {j : Int} : ff M T F V 231 j = F j := by unfold ff; rw [if_neg (by decide), if_pos rfl]
theorem rr_feed (hE : E0 n K R) (ht0 : 0 ≤ t ∧ t ≤ 400) (hV : RFV N lw A im t w f M) : gm_Wp X LX d bc bs 239 0 (gm_ent 239 [gm_vr 226, gm_vi (a 0), gm_vi (a 1), gm_vi (a 2), gm_vi (a 3), gm_vi (a 4)]) [] n K R M (RC n K R (.inl (some (gm_vi (ap_feed a t f).1))) N lw A im (ap_feed a t f).2.1 w (ap_feed a t f).2.2) := by
  have ht := hV.2.2.2.1.1
  refine fd_c239 (a := a) (e0k hE (k := 226) (c := 11) (by decide +kernel)) (e0a hE (k := 231) (q := (1, 400)) (by decide +kernel)) (e0a hE (k := 232) (q := (0, 5)) (by decide +kernel)) (e0r hE (k := 226) (j := 7) (r := 231) (by decide +kernel)) (e0r hE (k := 226) (j := 14) (r := 232) (by decide +kernel)) (by rw [ht]; exact ht0) (fun h => ?_) (fun V h => ?_)
  · rw [ht] at h
    have er : ap_feed a t f = (-1, t, f) := tif_t h
    rw [er]
    exact ⟨⟨rfl, rfl, rfl⟩, rfl, rfv_tape hV (ff_8.trans ht) (fun j j0 j1 => ff_231.trans (hV.2.2.2.2 j j0 j1)) (fun k j h1 h2 h3 => ff_x h1 h2 h3)⟩
  · rw [ht] at h
    have er : ap_feed a t f = (t + 20, t + 20, fdc a t 20 f) := tif_f (by omega)
    rw [er, ht]
    refine ⟨⟨rfl, rfl, rfl⟩, rfl, rfv_tape hV ff_8 (fun j j0 j1 => ff_231.trans ?_) (fun k j h1 h2 h3 => ff_x h1 h2 h3)⟩
    show fdc a t 20 (M 231) j = fdc a t 20 f j
    unfold fdc
    by_cases h9 : t ≤ j ∧ j < t + 20
    · rw [if_pos h9, if_pos h9]
    · rw [if_neg h9, if_neg h9]
      exact hV.2.2.2.2 j j0 j1
end RF10
