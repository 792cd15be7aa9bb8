/-! WHAT THE ABSTRACT STATE ALWAYS IS stays by every act. -/
section GJ11
variable {N N' : Int → Int} {lw : Option (List lln)} {A : List (Int → Int)} {im : Option ((Int → Int) × Option (List lln))} {t w x y a b p l : Int} {f : Int → Int} {e : Int}
theorem ir_nup {i v : Int} (h : irN N) (hv : gm_ir v) : irN (nup N i v) := fun j => by
  unfold nup
  split
  · exact hv
  · exact h j
theorem tx_u_b {f : Int → Int} {e b : Int} : ∀ (n : Nat) (p v : Int), b ≤ p → (v = -1 ∨ (0 ≤ v ∧ ((p - b = 0 ∧ v < 1) ∨ (p - b = 1 ∧ v < 10) ∨ (p - b = 2 ∧ v < 100) ∨ (p - b = 3 ∧ v < 1000) ∨ (4 ≤ p - b ∧ v < 10000)))) → -1 ≤ tx_u f e 4 b n p v ∧ tx_u f e 4 b n p v ≤ 9999 := by
  intro n
  induction n with
  | zero =>
    intro p v hp hv
    show -1 ≤ v ∧ v ≤ 9999
    omega
  | succ n ih =>
    intro p v hp hv
    show -1 ≤ (if p < e ∧ tx_d f p = true then tx_u f e 4 b n (p + 1) (if p - b < 4 ∧ ¬ v = -1 then v * 10 + f p - 48 else -1) else v) ∧ (if p < e ∧ tx_d f p = true then tx_u f e 4 b n (p + 1) (if p - b < 4 ∧ ¬ v = -1 then v * 10 + f p - 48 else -1) else v) ≤ 9999
    by_cases h : p < e ∧ tx_d f p = true
    · rw [if_pos h]
      have hd := of_decide_eq_true h.2
      refine ih (p + 1) _ (by omega) ?_
      by_cases h2 : p - b < 4 ∧ ¬ v = -1
      · rw [if_pos h2]
        omega
      · rw [if_neg h2]
        exact Or.inl rfl
    · rw [if_neg h]
      omega
theorem tx_v_ir {f : Int → Int} {e b : Int} : gm_ir (tx_v f e 4 b) := by
  unfold tx_v
  split
  · exact ⟨by decide, by decide⟩
  split
  · exact ⟨by decide, by decide⟩
  split
  · have := tx_u_b (f := f) (e := e) (b := b) (e - b).toNat b 0 (Int.le_refl _) (Or.inr ⟨by decide, Or.inl ⟨by omega, by decide⟩⟩)
    exact ⟨by omega, by omega⟩
  · exact ⟨by decide, by decide⟩
theorem ir_s {v : Int} (h : 0 ≤ v ∧ v ≤ 300) : gm_ir (v + 1) := ⟨by omega, by omega⟩
theorem ir_thr {f9 t9 l9 r9 : Int} (h : irN N) (h4 : 0 ≤ N 4 ∧ N 4 ≤ 24) (hf : gm_ir f9) (ht : gm_ir t9) (hl : gm_ir l9) (hr : gm_ir r9) : irN (nthr N f9 t9 l9 r9) := by
  unfold nthr
  exact ir_nup (ir_nup (ir_nup (ir_nup (ir_nup (ir_nup (ir_nup (ir_nup h (ir_s ⟨h4.1, by omega⟩)) hf) ht) hl) (h 9)) hr) ⟨by decide, by decide⟩) ⟨by decide, by decide⟩
theorem ir_per {l9 r9 w9 : Int} (h : irN N) (h3 : 0 ≤ N 3 ∧ N 3 ≤ 8) (hl : gm_ir l9) (hr : gm_ir r9) (hw : gm_ir w9) : irN (nper N l9 r9 w9) := by
  unfold nper
  exact ir_nup (ir_nup (ir_nup (ir_nup h (ir_s ⟨h3.1, by omega⟩)) hl) hr) hw
theorem ir_opn (h : irN N) (h14 : 0 ≤ N 14 ∧ N 14 ≤ 24) (hl : gm_ir l) (hp : gm_ir p) : irN (nopn N l p) := by
  unfold nopn
  exact ir_nup (ir_nup (ir_nup (ir_nup (ir_nup (ir_nup h hp) (h 9)) (ir_s ⟨h14.1, by omega⟩)) (h 9)) hl) hp
theorem v_sp_ir : ∀ (t : Nat) (N : Int → Int) (a b : Int), irN N → irN (v_sp f e t N a b).2.2 := by
  intro t
  induction t with
  | zero => exact fun N a b h => h
  | succ t ih => exact fun N a b h => tif_i (C := fun q : Bool × Int × (Int → Int) => irN q.2.2) (ih _ _ _ (ir_nup h tx_v_ir)) h
theorem v_line_ir (h : irN N) (hR : NR N) : irN (v_line f e N b).2.2 := by
  have T : ∀ {P : Prop} {a c : Bool × Int × (Int → Int)}, irN a.2.2 → irN c.2.2 → irN (tif P a c).2.2 := fun {P a c} ha hc => tif_i (C := fun q : Bool × Int × (Int → Int) => irN q.2.2) ha hc
  have c2 := hR.2.1.1
  have c5 := hR.2.1.2.1
  have c3 := hR.2.1.2.2.1
  have c4 := hR.2.1.2.2.2.1
  have c6 := hR.2.1.2.2.2.2.1
  unfold v_line
  refine T ?_ (T ?_ (T ?_ (T ?_ (T ?_ (T ?_ (T ?_ (T ?_ (T ?_ (T ?_ h)))))))))
  · exact T (T (ir_nup (ir_nup h tx_v_ir) tx_v_ir) h) h
  · exact T (T (ir_nup (ir_nup h tx_v_ir) ⟨by decide, by decide⟩) h) h
  · exact T h (T (v_sp_ir _ _ _ _ (ir_nup (ir_nup h (ir_s ⟨c2.1, by omega⟩)) tx_v_ir)) h)
  · exact T (T (T (ir_nup (ir_nup h tx_v_ir) tx_v_ir) h) h) h
  · exact T (ir_nup h tx_v_ir) h
  · exact T (ir_nup h tx_v_ir) h
  · exact T h (T (T (T (ir_nup (ir_nup (ir_nup (ir_nup h (ir_s ⟨c5.1, by omega⟩)) tx_v_ir) tx_v_ir) tx_v_ir) h) h) h)
  · exact T h (T (T (T (T (ir_per h c3 tx_v_ir tx_v_ir tx_v_ir) h) (ir_per h c3 tx_v_ir tx_v_ir ⟨by decide, by decide⟩)) h) h)
  · exact T h (T (T (ir_thr h c4 ⟨by decide, by decide⟩ ⟨by decide, by decide⟩ tx_v_ir tx_v_ir) h) h)
  · exact T h (v_sp_ir _ _ _ _ (ir_nup h (ir_s ⟨c6.1, by omega⟩)))
theorem v_txt_ir : ∀ (t : Nat) (N : Int → Int) (b : Int), GJ N → 0 ≤ b ∧ b ≤ e → (v_txt f e t N b).1 = true → irN (v_txt f e t N b).2.2 := by
  intro t
  induction t with
  | zero => exact fun N b _ _ h => by cases h
  | succ t ih =>
    intro N b h hb ht
    have q := v_line_b (f := f) (N := N) hb
    by_cases h1 : (v_line f e N b).1 = true
    · by_cases h2 : tx_k f e (v_line f e N b).2.1 = 256
      · rw [show v_txt f e (t + 1) N b = v_line f e N b by show tif _ _ _ = _; rw [tif_t h1, tif_t h2]]
        exact v_line_ir h.2 h.1.1
      · by_cases h3 : tx_k f e (v_line f e N b).2.1 = 59
        · rw [show v_txt f e (t + 1) N b = v_txt f e t (v_line f e N b).2.2 (tx_n f e (v_line f e N b).2.1) by show tif _ _ _ = _; rw [tif_t h1, tif_f h2, tif_t h3]] at ht ⊢
          have n1 := tx_nb (f := f) q.2
          exact ih _ _ ⟨v_line_g h.1 hb h1, v_line_ir h.2 h.1.1⟩ ⟨by omega, n1.2.1⟩ ht
        · rw [show v_txt f e (t + 1) N b = (false, (v_line f e N b).2.1, N) by show tif _ _ _ = _; rw [tif_t h1, tif_f h2, tif_f h3]] at ht
          cases ht
    · rw [show v_txt f e (t + 1) N b = (false, (v_line f e N b).2.1, N) from tif_f h1] at ht
      cases ht
theorem v_val_ir (h : GJ N) (he : 0 ≤ e) (ht : (v_val f e N).1 = true) : irN (v_val f e N).2.2 := by
  obtain ⟨g1, g2, -⟩ := tx_gb (f := f) he
  by_cases h1 : tx_k f e (tx_g f e 0) = 256
  · rw [show v_val f e N = (true, tx_g f e 0, N) from tif_t h1]
    exact h.2
  · rw [show v_val f e N = v_txt f e 14 N (tx_g f e 0) from tif_f h1] at ht ⊢
    exact v_txt_ir _ _ _ h ⟨g1, g2⟩ ht
theorem ym_ir {Ψ : (Int → Int) → Int → Int → Int → Int → Prop} {o dd : Int → Int} (hN : NR N) (hg : LOGI N) (hi : irN N) {s0 : Int} (h0 : 0 ≤ s0) : ∀ k : Nat, (k : Int) ≤ N 4 → irN (yrun Ψ o dd (N, s0) k).1 := by
  intro k
  induction k with
  | zero => exact fun _ => hi
  | succ k ih =>
    intro hk
    obtain ⟨i1, i2, i3, i4, -⟩ := ym_i (Ψ := Ψ) (o := o) (dd := dd) hN hg h0 k (by omega)
    have i := ih (by omega)
    have h4 := hN.2.1.2.2.2.1
    show irN (ystep Ψ o dd (k : Int) (yrun Ψ o dd (N, s0) k)).1
    generalize yrun Ψ o dd (N, s0) k = s at i i1 i2 i4 ⊢
    unfold ystep
    by_cases hw : WTS s.1 (k : Int) (o (k : Int)) ∧ ¬ opf s.1 (Ψ s.1) (k : Int) (dd (k : Int)) = -1
    · rw [tif_t hw]
      have hk4 : (0 : Int) ≤ (k : Int) ∧ (k : Int) < s.1 4 := by rw [i4]; omega
      have hr : 0 ≤ (s.1 (119 + ((k : Int) * 7 + 0))) := by
        have := (i1.2.2.2.2 (k : Int) hk4.1 hk4.2).1
        have := hw.1.1
        omega
      have hb := opf_b (ψ := Ψ s.1) (dp := dd (k : Int)) i1 hk4 hr
      have h3 := i1.2.1.2.2.1
      exact ir_opn i i1.2.1.2.2.2.2.2.1 ⟨by omega, by omega⟩ ⟨by omega, by omega⟩
    · rw [tif_f hw]
      exact i
theorem yrs_ir {Ψ : (Int → Int) → Int → Int → Int → Int → Prop} {o dd : Int → Int} (hN : NR N) (hg : LOGI N) (hi : irN N) : ∀ k : Nat, N 9 + (k : Int) ≤ 299 → irN (yrs Ψ o dd (N, 0) k).1 := by
  intro k
  induction k with
  | zero => exact fun _ => hi
  | succ k ih =>
    intro hk
    obtain ⟨i1, i2, i3, i4, i5, i6, i7⟩ := yrs_i (Ψ := Ψ) (o := o) (dd := dd) hN hg k (by omega)
    have i := ih (by omega)
    show irN (yrun Ψ o dd (nyr (yrs Ψ o dd (N, 0) k).1, 0) ((yrs Ψ o dd (N, 0) k).1 4).toNat).1
    have h9 := hN.1.2.2.2.2.2
    have h4 := i1.2.1.2.2.2.1
    have e4 : nyr (yrs Ψ o dd (N, 0) k).1 4 = (yrs Ψ o dd (N, 0) k).1 4 := nup_ne (by decide)
    refine ym_ir (nr_nyr i1 (by omega)) (logi_nyr i2) ?_ (Int.le_refl 0) _ (by rw [e4]; omega)
    unfold nyr
    exact ir_nup i ⟨by omega, by omega⟩
/-- one more is remembered -/
theorem ra_take (hG : GJ N) (hA : ∀ N1 ∈ A, GJ N1 ∧ hgeo N N1) (hg : hgeo N N') : ∀ N1 ∈ (N :: A).take 12, GJ N1 ∧ hgeo N' N1 := fun N1 h => by
  rcases List.mem_cons.mp (List.mem_of_mem_take h) with rfl | h
  · exact ⟨hG, hgeo_s hg⟩
  · exact ⟨(hA N1 h).1, hgeo_t (hgeo_s hg) (hA N1 h).2⟩
theorem ra_post (h : RA N lw A im t w f) (ha : gm_ir a) (hb : gm_ir b) : RA (ap_post N A a b).2.2.1 lw (ap_post N A a b).2.2.2 im t w f := by
  obtain ⟨hG, hL, hA, hrest⟩ := h
  unfold ap_post
  by_cases h1 : ¬ ((0 ≤ a ∧ a < N 3) ∧ (0 ≤ b ∧ b < N 3))
  · rw [tif_t h1]; exact ⟨hG, hL, hA, hrest⟩
  rw [tif_f h1]
  by_cases h2 : a = b
  · rw [tif_t h2]; exact ⟨hG, hL, hA, hrest⟩
  rw [tif_f h2]
  by_cases h3 : N 4 = 24
  · rw [tif_t h3]; exact ⟨hG, hL, hA, hrest⟩
  rw [tif_f h3]
  have h1 := Classical.not_not.mp h1
  have h4 := hG.1.1.2.1.2.2.2.1
  have hP := hG.1.1.2.2.2.1 a h1.1.1 h1.1.2
  exact ⟨⟨gi_nthr hG.1 (by omega) ⟨by omega, h1.1.2⟩ ⟨by omega, h1.2.2⟩ hP.1 hP.2.1 (fun _ => h1.2.1), ir_thr hG.2 h4 ha hb (hG.2 _) (hG.2 _)⟩, hL, ra_take hG hA (hgeo_thr h4.1), hrest⟩
theorem ra_watch (h : RA N lw A im t w f) (hl : gm_ir l) : RA (ap_watch N A p l).2.2.1 lw (ap_watch N A p l).2.2.2 im t w f := by
  obtain ⟨hG, hL, hA, hrest⟩ := h
  unfold ap_watch
  by_cases h1 : ¬ ((0 ≤ p ∧ p < N 3) ∧ (l = -1 ∨ (0 ≤ l ∧ l < N 0)))
  · rw [tif_t h1]; exact ⟨hG, hL, hA, hrest⟩
  rw [tif_f h1]
  have h1 := Classical.not_not.mp h1
  have h0 := hG.1.1.1.1
  refine ⟨⟨gi_nwat hG.1 h1.1 ⟨by omega, by omega⟩, ?_⟩, hL, ra_take hG hA (hgeo_wat h1.1.1), hrest⟩
  show irN (nwat N p l)
  unfold nwat
  exact ir_nup hG.2 hl
theorem ra_open (h : RA N lw A im t w f) : RA (ap_open lw N A l).2.2.1 lw (ap_open lw N A l).2.2.2 im t w f := by
  obtain ⟨hG, hL, hA, hrest⟩ := h
  unfold ap_open
  by_cases h1 : ¬ (0 ≤ l ∧ l < N 4)
  · rw [tif_t h1]; exact ⟨hG, hL, hA, hrest⟩
  rw [tif_f h1]
  by_cases h2 : ¬ WTS N l (aout N (hts (N 13)) (aphi lw N (hts (N 13))) l)
  · rw [tif_t h2]; exact ⟨hG, hL, hA, hrest⟩
  rw [tif_f h2]
  have h1 := Classical.not_not.mp h1
  have h2 := Classical.not_not.mp h2
  have h4 := hG.1.1.2.1.2.2.2.1
  have h3 := hG.1.1.2.1.2.2.1
  have hB := hG.1.1.2.2.2.2 l h1.1 h1.2
  have h14 := logi_lt hG.1.1 hG.1.2.2 h1 h2.2.1
  have hl24 : 0 ≤ l ∧ l < 24 := ⟨h1.1, by omega⟩
  have w0 := h2.1
  have hp : 0 ≤ (N (119 + (l * 7 + 1))) ∧ (N (119 + (l * 7 + 1))) < N 3 := ⟨hB.2.2.2.2.2.2.2 (by omega), hB.2.1.2⟩
  have hg : geo N (nopn N l ((N (119 + (l * 7 + 1))))) := geo_nopn hl24 h14
  exact ⟨⟨⟨nr_nopn hG.1.1 h1 h14 hp, ns_geo hg hG.1.1 hG.1.2.1, logi_nopn hG.1.1 hG.1.2.2 h1 h2.2.1 (by omega)⟩, ir_opn hG.2 ⟨h14.1, by omega⟩ ⟨by omega, by omega⟩ (hG.2 _)⟩, hL, ra_take hG hA (hgeo_g hg), hrest⟩
theorem ra_years (h : RA N lw A im t w f) : RA (ap_years lw N A y).2.2.1 lw (ap_years lw N A y).2.2.2 im t w f := by
  obtain ⟨hG, hL, hA, hrest⟩ := h
  unfold ap_years
  by_cases h1 : ¬ (1 ≤ y ∧ y ≤ 50 ∧ y ≤ 299 - N 9)
  · rw [tif_t h1]; exact ⟨hG, hL, hA, hrest⟩
  rw [tif_f h1]
  have h1 := Classical.not_not.mp h1
  have hh9 : N 9 + (y.toNat : Int) ≤ 299 := by omega
  obtain ⟨i1, i2, hg, -⟩ := yrs_i (Ψ := fun N2 => apsi lw N2 (hts (N 13))) (o := aout N (hts (N 13)) (aphi lw N (hts (N 13)))) (dd := adp N (hts (N 13)) (aphi lw N (hts (N 13)))) hG.1.1 hG.1.2.2 y.toNat hh9
  have ii := yrs_ir (Ψ := fun N2 => apsi lw N2 (hts (N 13))) (o := aout N (hts (N 13)) (aphi lw N (hts (N 13)))) (dd := adp N (hts (N 13)) (aphi lw N (hts (N 13)))) hG.1.1 hG.1.2.2 hG.2 y.toNat hh9
  exact ⟨⟨⟨i1, ns_geo hg hG.1.1 hG.1.2.1, i2⟩, ii⟩, hL, ra_take hG hA (hgeo_g hg), hrest⟩
theorem ra_undo (h : RA N lw A im t w f) : RA (ap_undo N A).2.1 lw (ap_undo N A).2.2 im t w f := by
  obtain ⟨hG, hL, hA, hrest⟩ := h
  cases A with
  | nil => exact ⟨hG, hL, hA, hrest⟩
  | cons N0 A1 =>
    have h0 := hA N0 List.mem_cons_self
    exact ⟨h0.1, hL, fun N1 h1 => ⟨(hA N1 (List.mem_cons_of_mem _ h1)).1, hgeo_t (hgeo_s h0.2) (hA N1 (List.mem_cons_of_mem _ h1)).2⟩, hrest⟩
theorem ra_image (h : RA N lw A im t w f) : RA N lw A (some (N, lw)) t w f := by
  obtain ⟨hG, hL, hA, hi, hrest⟩ := h
  refine ⟨hG, hL, hA, fun NI lI e => ?_, hrest⟩
  cases e
  exact ⟨hG, hL⟩
theorem ra_back (h : RA N lw A im t w f) : RA (ap_back N lw A im).2.1 (ap_back N lw A im).2.2.1 (ap_back N lw A im).2.2.2 im t w f := by
  obtain ⟨hG, hL, hA, hi, hrest⟩ := h
  cases im with
  | none => exact ⟨hG, hL, hA, hi, hrest⟩
  | some q =>
    obtain ⟨g1, g2⟩ := hi q.1 q.2 rfl
    exact ⟨g1, g2, (fun N1 h1 => nomatch h1), hi, hrest⟩
theorem ra_valley (h : RA N lw A im t w f) : RA (ap_valley f t N A).2.2.1 lw (ap_valley f t N A).2.2.2.1 im 0 (ap_valley f t N A).2.2.2.2 f := by
  obtain ⟨hG, hL, hA, hi, ht, hw, hf⟩ := h
  unfold ap_valley
  by_cases h1 : ¬ (v_val f t N).1 = true
  · rw [tif_t h1]
    have := v_val_b (f := f) (N := N) ht.1
    exact ⟨hG, hL, hA, hi, ⟨by decide, by decide⟩, ⟨by show -1 ≤ (v_val f t N).2.1; omega, by show (v_val f t N).2.1 ≤ 400; omega⟩, hf⟩
  rw [tif_f h1]
  by_cases h2 : N 7 = 12
  · rw [tif_t h2]
    exact ⟨hG, hL, hA, hi, ⟨by decide, by decide⟩, (show (-1 : Int) ≤ -1 ∧ (-1 : Int) ≤ 400 from ⟨by decide, by decide⟩), hf⟩
  rw [tif_f h2]
  have h1 := Classical.not_not.mp h1
  have h7 := hG.1.1.2.1.2.2.2.2.2.2.1
  exact ⟨⟨gi_7 (v_val_g hG.1 ht.1 h1) ⟨by omega, by omega⟩, ir_nup (v_val_ir hG ht.1 h1) ⟨by omega, by omega⟩⟩, hL, (fun N1 h => nomatch h), hi, ⟨by decide, by decide⟩, (show (-1 : Int) ≤ -1 ∧ (-1 : Int) ≤ 400 from ⟨by decide, by decide⟩), hf⟩
theorem ra_law (h : RA N lw A im t w f) : RA N (ap_law f t lw A).2.2.1 (ap_law f t lw A).2.2.2.1 im 0 (ap_law f t lw A).2.2.2.2 f := by
  obtain ⟨hG, hL, hA, hi, ht, hw, hf⟩ := h
  obtain ⟨b0, b1, b2⟩ := g_law_b (f := f) (e := t) ht.1
  unfold ap_law
  by_cases h1 : ¬ (g_law f t).1 = true
  · rw [tif_t h1]
    have b2 := b2 h1
    exact ⟨hG, hL, hA, hi, ⟨by decide, by decide⟩, ⟨by show -1 ≤ (g_law f t).2; omega, by show (g_law f t).2 ≤ 400; omega⟩, hf⟩
  rw [tif_f h1]
  have h1 := Classical.not_not.mp h1
  refine ⟨hG, fun ls e => ?_, (fun N1 h => nomatch h), hi, ⟨by decide, by decide⟩, (show (-1 : Int) ≤ -1 ∧ (-1 : Int) ≤ 400 from ⟨by decide, by decide⟩), hf⟩
  cases e
  exact s_law_w ht.1 h1
theorem ra_feed {a : Int → Int} (h : RA N lw A im t w f) : RA N lw A im (ap_feed a t f).2.1 w (ap_feed a t f).2.2 := by
  obtain ⟨hG, hL, hA, hi, ht, hw, hf⟩ := h
  unfold ap_feed
  by_cases h1 : 381 ≤ t
  · rw [tif_t h1]; exact ⟨hG, hL, hA, hi, ht, hw, hf⟩
  rw [tif_f h1]
  refine ⟨hG, hL, hA, hi, (show 0 ≤ t + 20 ∧ t + 20 ≤ 400 from ⟨by omega, by omega⟩), hw, fun j j0 j1 => ?_⟩
  show -128 ≤ fdc a t 20 f j ∧ fdc a t 20 f j ≤ 127
  unfold fdc
  split
  · exact fb_ir
  · exact hf j j0 j1
theorem ra_end (h : RA N lw A im t w f) : RA N lw A im (ap_end x t).2 w f := by
  obtain ⟨hG, hL, hA, hi, ht, hw, hf⟩ := h
  unfold ap_end
  by_cases h1 : x < 0 ∨ t < x
  · rw [tif_t h1]; exact ⟨hG, hL, hA, hi, ht, hw, hf⟩
  rw [tif_f h1]
  exact ⟨hG, hL, hA, hi, ⟨by omega, by omega⟩, hw, hf⟩
end GJ11
