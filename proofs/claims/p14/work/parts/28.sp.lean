/-! CUTS SHOWN ONE BEHIND ANOTHER: each is walked once, those shown ahead of it are stops (names from 2000000 on). -/
noncomputable def ck_stp (O : gm_Or) (E : List (Nat × List ck_Sum)) (mi d n0 : Nat) (W : List (Nat × Int × Int) × List (Nat × Int)) (outs : List ck_Oc) (cuts : List (Nat × ck_C)) (f : Nat) : List ck_H → List ck_H → Bool
  | [], _ => true
  | h :: r, done => ck_go O none [] E mi d n0 W outs cuts f true done h.2.2.1 h.2.2.2.1 h.1 h.2.1.1 [] h.2.2.2.2 h.2.1.2.1 && ck_stp O E mi d n0 W outs cuts f r (h :: done)
noncomputable def ck_okp (O : gm_Or) (E : List (Nat × List ck_Sum)) (mi : Nat) (cuts : List (Nat × ck_C)) (l : List ck_H) (f : Nat) (S : ck_Sum) : Bool :=
  ((decide (S.2.2.1.length ≤ gm_ml mi) && ck_cu (l.map (fun h => (h.1, h.2.1)) ++ cuts)) && ck_stp O E mi S.1.1 S.2.1 S.2.2.2.2.1 S.2.2.2.2.2 (l.map (fun h => (h.1, h.2.1)) ++ cuts) f l []) && (ck_go O none [] E mi S.1.1 S.2.1 S.2.2.2.2.1 S.2.2.2.2.2 (l.map (fun h => (h.1, h.2.1)) ++ cuts) f false l S.1.2.1 S.1.2.2 0 (S.2.2.1.map some ++ List.replicate (gm_ml mi - S.2.2.1.length) none) [] S.2.1 S.2.2.2.1)
section SP
variable {O : gm_Or} {X : Int → Int} {LX : Nat} {E : List (Nat × List ck_Sum)} {mi d n0 : Nat} {W : List (Nat × Int × Int) × List (Nat × Int)} {outs : List ck_Oc} {σ σ0 : Nat → Int} {K0 : gm_K} {R0 : gm_R} {M0 : gm_M}
theorem ck_stp_s {cuts : List (Nat × ck_C)} {f : Nat} (hcu : ck_cu cuts = true) (hE : ck_nmu O ∧ ck_OkE O X LX E) : ∀ (l done : List ck_H), (∀ h ∈ l, (h.1, h.2.1) ∈ cuts) → (∀ h ∈ done, (h.1, h.2.1) ∈ cuts ∧ ∀ σ : Nat → Int, (∀ s, s < 100 → σ s = σ0 s) → ck_Hy O X LX mi d W n0 K0 R0 M0 (ck_Q O σ0 W n0 K0 R0 M0 outs) σ h) → ck_stp O E mi d n0 W outs cuts f l done = true → ∀ h ∈ l, (h.1, h.2.1) ∈ cuts ∧ ∀ σ : Nat → Int, (∀ s, s < 100 → σ s = σ0 s) → ck_Hy O X LX mi d W n0 K0 R0 M0 (ck_Q O σ0 W n0 K0 R0 M0 outs) σ h := by
  intro l
  induction l with
  | nil => intro done _ _ _ h hm; cases hm
  | cons h0 r ih =>
    intro done hl hd hs h hm
    unfold ck_stp at hs
    rw [Bool.and_eq_true] at hs
    have key : (h0.1, h0.2.1) ∈ cuts ∧ ∀ σ : Nat → Int, (∀ s, s < 100 → σ s = σ0 s) → ck_Hy O X LX mi d W n0 K0 R0 M0 (ck_Q O σ0 W n0 K0 R0 M0 outs) σ h0 := by
      refine ⟨hl h0 List.mem_cons_self, fun σ hσ v _ bc bs L K R M hb1 hb2 hS _ => ?_⟩
      exact gm_Wp_wk (Nat.le_refl _) hb1 hb2 (ck_go_s (σ0 := σ0) hcu hE ck_X0 ck_l0 f true done _ _ _ _ [] _ _ σ L [] K R M hσ (fun z hz => ⟨(hd z hz).1, (hd z hz).2 σ hσ⟩) hS hs.1)
    rcases List.mem_cons.mp hm with rfl | hm
    · exact key
    · refine ih (h0 :: done) (fun z hz => hl z (List.mem_cons_of_mem _ hz)) (fun z hz => ?_) hs.2 h hm
      rcases List.mem_cons.mp hz with rfl | hz
      · exact key
      · exact hd z hz
theorem ck_okp_s {cuts : List (Nat × ck_C)} {l : List ck_H} {f : Nat} {S : ck_Sum} (hE : ck_nmu O ∧ ck_OkE O X LX E) (h : ck_okp O E mi cuts l f S = true) : ck_Ok O X LX mi S := by
  intro d σ vs n K R M hd hn hvs _ hF hf
  unfold ck_okp at h
  simp only [Bool.and_eq_true, decide_eq_true_eq] at h
  obtain ⟨⟨⟨h2, hcu⟩, hst⟩, h3⟩ := h
  subst hn
  obtain ⟨g1, g2⟩ := ck_ent hvs
  have hl : ∀ h ∈ l, (h.1, h.2.1) ∈ l.map (fun h => (h.1, h.2.1)) ++ cuts := fun h hm => List.mem_append_left _ (List.mem_map.mpr ⟨h, hm, rfl⟩)
  have hch := ck_stp_s (σ0 := σ) (K0 := K) (R0 := R) (M0 := M) hcu hE l [] hl (fun _ hz => nomatch hz) hst
  refine gm_Wp_wk hd (Nat.le_refl _) (Nat.le_refl _) (ck_go_s (σ0 := σ) hcu hE ck_X0 ck_l0 f false l _ _ 0 _ [] _ _ σ _ [] K R M (fun _ _ => rfl) (fun z hz => ⟨(hch z hz).1, (hch z hz).2 σ (fun _ _ => rfl)⟩) ⟨hF, ⟨?_, fun j b hb => ?_⟩, rfl, hf, ck_fr_0⟩ h3)
  · unfold gm_ent
    simp [g1]
  · unfold gm_ent
    rw [List.getElem?_append] at hb ⊢
    simp only [List.length_map] at hb ⊢
    split at hb
    · rename_i e
      rw [if_pos (by rw [← g1]; exact e)]
      rw [List.getElem?_map] at hb ⊢
      cases hq : S.2.2.1[j]? with
      | none => rw [hq] at hb; cases hb
      | some b' =>
        rw [hq] at hb
        cases hb
        obtain ⟨u, h4, h5⟩ := g2 j b hq
        exact ⟨u, by rw [h4]; rfl, h5⟩
    · exfalso
      have := List.mem_of_getElem? hb
      rw [List.mem_replicate] at this
      cases this.2
end SP
/-- one of them by itself: those ahead of it are stops -/
noncomputable def ck_stpi (O : gm_Or) (E : List (Nat × List ck_Sum)) (mi d n0 : Nat) (W : List (Nat × Int × Int) × List (Nat × Int)) (outs : List ck_Oc) (cuts : List (Nat × ck_C)) (f : Nat) (l : List ck_H) (i : Nat) : Bool := match l.drop i with
  | [] => true
  | h :: _ => ck_go O none [] E mi d n0 W outs cuts f true (l.take i).reverse h.2.2.1 h.2.2.2.1 h.1 h.2.1.1 [] h.2.2.2.2 h.2.1.2.1
section SPI
variable {O : gm_Or} {X : Int → Int} {LX : Nat} {E : List (Nat × List ck_Sum)} {mi d n0 : Nat} {W : List (Nat × Int × Int) × List (Nat × Int)} {outs : List ck_Oc}
theorem ck_stpi_s {cuts : List (Nat × ck_C)} {f : Nat} {l : List ck_H} (h : ∀ i, i < l.length → ck_stpi O E mi d n0 W outs cuts f l i = true) : ∀ (r done : List ck_H), l = done.reverse ++ r → ck_stp O E mi d n0 W outs cuts f r done = true := by
  intro r
  induction r with
  | nil => intro done _; rfl
  | cons a r ih =>
    intro done e
    have h1 := h done.length (by rw [e]; simp)
    unfold ck_stpi at h1
    rw [e, List.drop_left' (by simp), List.take_left' (by simp), List.reverse_reverse] at h1
    unfold ck_stp
    rw [Bool.and_eq_true]
    exact ⟨h1, ih (a :: done) (by rw [e]; simp)⟩
theorem ck_okp_i {cuts : List (Nat × ck_C)} {l : List ck_H} {f : Nat} {S : ck_Sum} (hE : ck_nmu O ∧ ck_OkE O X LX E) (h1 : (decide (S.2.2.1.length ≤ gm_ml mi) && ck_cu (l.map (fun h => (h.1, h.2.1)) ++ cuts)) = true) (h2 : ∀ i, i < l.length → ck_stpi O E mi S.1.1 S.2.1 S.2.2.2.2.1 S.2.2.2.2.2 (l.map (fun h => (h.1, h.2.1)) ++ cuts) f l i = true) (h3 : ck_go O none [] E mi S.1.1 S.2.1 S.2.2.2.2.1 S.2.2.2.2.2 (l.map (fun h => (h.1, h.2.1)) ++ cuts) f false l S.1.2.1 S.1.2.2 0 (S.2.2.1.map some ++ List.replicate (gm_ml mi - S.2.2.1.length) none) [] S.2.1 S.2.2.2.1 = true) : ck_Ok O X LX mi S := by
  refine ck_okp_s (cuts := cuts) (l := l) (f := f) hE ?_
  unfold ck_okp
  rw [h1, h3, ck_stpi_s h2 l [] rfl]
  rfl
end SPI
