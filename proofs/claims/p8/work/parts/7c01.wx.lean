/-! THE WORLD BETWEEN THE CALLS, told exactly: which law each State holds, which cells stay. -/
theorem vM {la : Nat → Nat} {M : gm_M} {c : Nat} {j : Int} (h : c ≤ 245) : bs_M la M c j = M c j := by unfold bs_M bg_rho; rw [if_pos (by omega)]
section WX
variable {X : Int → Int} {LX : Nat} {O : gm_Or} {g z g1 c n' : Nat} {la : Nat → Nat} {K K' K1 : gm_K} {R R' : gm_R} {M M' M1 : gm_M} {S : ck_Sum} {L : gm_L} {st : List gm_V} {Q Qf : gm_Q}
theorem bg_oweX {d bc bs mi pc : Nat} {u : Option gm_V} (hb : bg g la K R M) (hz : bs_ok la z g1) (hg : g < 10000) (hr : bs_rt z g1 c (bs_K la K) (bs_M la M) n' K' R' M') (hu : u = none ∨ ∃ x, u = some (gm_vi x)) (hW : bg (g + c) (bg_la la g c R') (bg_K g K K') (bg_R (g + c) (bg_la la g c R')) (bg_M g M M') → gm_Wp X LX d bc bs mi pc L (u.toList ++ st) (245 + 4 * (g + c)) (bg_K g K K') (bg_R (g + c) (bg_la la g c R')) (bg_M g M M') Q) : gm_owe X LX d bc bs mi pc L st (bg_rho (la 3)) (bg_f la) (245 + 4 * g1) (245 + 4 * g) K R M Q (.inl u) n' K' R' M' := by
  have hc : c ≤ 1 := by have := hr.1.1; omega
  exact ⟨u, rfl, hu, 245 + 4 * (g + c), _, _, _, fun ti α α1 hx => ⟨bg_al g c α α1, bg_xt hr.1.2 hc hg, bg_bgw hb hz hr hg hx⟩, bg_Rv (by omega) (bg_dl hb hr), hW (bg_new hb hz hr hg)⟩
/-- what the row says, and all that comes behind, the world told exactly -/
noncomputable def bc_KX (X : Int → Int) (LX d bc bs mi pc : Nat) (L : gm_L) (st : List gm_V) (Q : gm_Q) (O : gm_Or) (z g1 g : Nat) (la : Nat → Nat) (K : gm_K) (M : gm_M) (S : ck_Sum) : Prop := ∀ oc ∈ S.2.2.2.2.2, ∀ (σ : Nat → Int) (u : Option gm_V) (n' : Nat) (K' : gm_K) (R' : gm_R) (M' : gm_M), (∀ q ∈ O.2.2.nm, σ q.1 = bs_M la M q.2.1 q.2.2) → ck_ho σ oc.1 (.inl u) → ck_gf σ oc.2.2 n' K' R' M' → gm_Fx O n' K' R' M' → ck_fr S.2.2.2.2.1 (245 + 4 * g1) (bs_K la K) (bs_R z g1) (bs_M la M) n' K' R' M' → bg g (bg_la la g 0 R') (bg_K g K K') (bg_R g (bg_la la g 0 R')) (bg_M g M M') → gm_Wp X LX d bc bs mi pc L (u.toList ++ st) (245 + 4 * g) (bg_K g K K') (bg_R g (bg_la la g 0 R')) (bg_M g M M') Q
theorem bc_ownX {d bc bs mi pc mj d' bc' bs' : Nat} {vs : List gm_V} (hb : bg g la K R M) (hz : bs_ok la z g1) (hg : g < 10000) (hnm : ck_nmu O) (hO : ∀ n K R M, gm_Fx O n K R M → gm_Fx p2_O n K R M) (hF : gm_Fx O (245 + 4 * g1) (bs_K la K) (bs_R z g1) (bs_M la M)) (hS : ck_Ok O X LX mj S) (hck : bc_ok O z g1 S = true) (h1 : S.1.1 ≤ d') (h2 : S.1.2.1 ≤ bc') (h3 : S.1.2.2 ≤ bs') (hvs : ∀ σ, ck_gas σ S.2.2.1 vs) (k : bc_KX X LX d bc bs mi pc L st Q O z g1 g la K M S) : gm_Wp X LX d' bc' bs' mj 0 (gm_ent mj vs) [] (245 + 4 * g1) (bs_K la K) (bs_R z g1) (bs_M la M) (gm_owe X LX d bc bs mi pc L st (bg_rho (la 3)) (bg_f la) (245 + 4 * g1) (245 + 4 * g) K R M Q) := by
  have hck2 := hck
  simp only [bc_ok, Bool.and_eq_true, decide_eq_true_eq] at hck2
  have hσ := ck_sn_s (σ := fun _ => 0) (M := bs_M la M) hnm
  refine gm_Wp_wk (Nat.le_refl _) h2 h3 (gm_Wp_mono (fun o n' K' R' M' hq => ?_) (hS d' (ck_sn O (fun _ => 0) (bs_M la M)) vs _ _ _ _ h1 hck2.1.symm (hvs _) hσ hF (bc_f_s hck2.2.1 hF (by omega) hσ)))
  obtain ⟨hrt, oc, hoc, u, rfl, hu, ho, hf⟩ := bc_rt hck hz hO hq
  exact bg_oweX (c := 0) hb hz hg hrt hu (fun hb2 => k oc hoc _ u n' K' R' M' hσ ho hf hq.1 hq.2.1 hb2)
/-- a call on the object k1 itself -/
theorem bc_virtX {ix mj k1 ci mi pc d bc bs : Nat} {xs : List Int} (hb : bg g la K R M) (hz : bs_ok la z g1) (hg : g < 10000) (hnm : ck_nmu O) (hO : ∀ n K R M, gm_Fx O n K R M → gm_Fx p2_O n K R M) (hF : gm_Fx O (245 + 4 * g1) (bs_K la K) (bs_R z g1) (bs_M la M)) (hk1 : 1 ≤ k1 ∧ k1 ≤ 245) (hK1 : (K k1).1 = ci + 4) (h : gm_at mi pc = some (.invokevirtual ix)) (hc : gm_cal (gm_ow mi) ix = some (0, mj)) (hmx : gm_ow mj ≠ gm_mxi) (hci : ci < 12) (hcn : gm_cn ci = (gm_mn mj).cls) (hna : xs.length = gm_na mj) (hlen : xs.length + 1 ≤ gm_ml mj) (hst : (st.map gm_cat).sum ≤ 8) (hS : ck_Ok O X LX mj S) (hck : bc_ok O z g1 S = true) (h1 : S.1.1 + 1 ≤ d) (h2 : S.1.2.1 ≤ bc) (h3 : S.1.2.2 ≤ bs) (hvs : ∀ σ, ck_gas σ S.2.2.1 (gm_vr k1 :: xs.map gm_vi)) (k : bc_KX X LX d (bc - S.1.2.1) (bs - S.1.2.2) mi (pc + 3) L st Q O z g1 g la K M S) : gm_Wp X LX d bc bs mi pc L ((xs.map gm_vi).reverse ++ gm_vr k1 :: st) (245 + 4 * g) K R M Q := by
  have er : bg_rho (la 3) k1 = k1 := by unfold bg_rho; rw [if_pos (by omega)]
  have := gm_c_virtS (k1 := k1) (as := xs.map gm_vi) (d' := S.1.1) (bc' := S.1.2.1) (bs' := S.1.2.2) (fun ti α => bg_sbw hb hz ti α) (fun i j a b c d e => bc_hin hz i j a b c d e) (bs_Rv hz) ⟨hk1.1, by omega⟩ (show (bs_K la K k1).1 = ci + 4 by unfold bs_K; rw [er]; exact hK1) h hc hmx hci hcn (by rw [List.length_map]; exact hna) (fun v hv => by obtain ⟨x, -, rfl⟩ := List.mem_map.mp hv; exact ⟨x, rfl⟩) (by rw [List.length_map]; exact hlen) hst h1 h2 h3 (bc_ownX hb hz hg hnm hO hF hS hck (Nat.le_refl _) (Nat.le_refl _) (Nat.le_refl _) hvs k)
  rw [er] at this
  exact this
theorem bc_arX (xs : List Int) {t n1 : Nat} (hn : 245 ≤ n1) : gm_ar (bg_rho t) n1 (gm_vr 1 :: bc_as xs true) (gm_vr 1 :: bc_as xs true) := by
  refine ⟨_, _, rfl, Or.inr ⟨1, ⟨by decide, by omega⟩, rfl, by rfl⟩, ?_⟩
  induction xs with
  | nil => exact ⟨_, _, rfl, Or.inr ⟨245, ⟨by decide, by omega⟩, rfl, by rfl⟩, rfl⟩
  | cons x xs ih => exact ⟨_, _, rfl, Or.inl ⟨x, rfl, rfl⟩, ih⟩
/-- a call by one of the law's own methods -/
theorem bc_statX {ix mj mi pc d bc bs : Nat} {xs : List Int} (hb : bg g la K R M) (hz : bs_ok la z g1) (hg : g < 10000) (hnm : ck_nmu O) (hO : ∀ n K R M, gm_Fx O n K R M → gm_Fx p2_O n K R M) (hF : gm_Fx O (245 + 4 * g1) (bs_K la K) (bs_R z g1) (bs_M la M)) (h : gm_at mi pc = some (.invokestatic ix)) (hc : gm_cal (gm_ow mi) ix = some (5, mj)) (hmx : gm_ow mj ≠ gm_mxi) (hhj : ¬ gm_hh mj = []) (hna : xs.length + 2 = gm_na mj) (hlen : xs.length + 2 ≤ gm_ml mj) (hst : (st.map gm_cat).sum ≤ 8) (hS : ck_Ok O X LX mj S) (hck : bc_ok O z g1 S = true) (h1 : S.1.1 + 1 ≤ d) (h2 : S.1.2.1 ≤ bc) (h3 : S.1.2.2 ≤ bs) (hvs : ∀ σ, ck_gas σ S.2.2.1 (gm_vr 1 :: bc_as xs true)) (k : bc_KX X LX d (bc - S.1.2.1) (bs - S.1.2.2) mi (pc + 3) L st Q O z g1 g la K M S) : gm_Wp X LX d bc bs mi pc L (gm_vr 245 :: ((xs.map gm_vi).reverse ++ gm_vr 1 :: st)) (245 + 4 * g) K R M Q := by
  have hl : (gm_vr 1 :: bc_as xs true).length = xs.length + 2 := by simp [bc_as]
  have := gm_c_statS (as1 := gm_vr 1 :: bc_as xs true) (as := gm_vr 1 :: bc_as xs true) (d' := S.1.1) (bc' := S.1.2.1) (bs' := S.1.2.2) (st := st) (fun ti α => bg_sbw hb hz ti α) (fun i j a b c d e => bc_hin hz i j a b c d e) (bs_Rv hz) (bc_arX xs (by omega)) h hc hmx hhj (by rw [hl]; exact hna) (by rw [hl]; exact hlen) hst h1 h2 h3 (bc_ownX hb hz hg hnm hO hF hS hck (Nat.le_refl _) (Nat.le_refl _) (Nat.le_refl _) hvs k)
  rw [show (gm_vr 1 :: bc_as xs true).reverse ++ st = gm_vr 245 :: ((xs.map gm_vi).reverse ++ gm_vr 1 :: st) by simp [bc_as]] at this
  exact this
/-- a call by its row and by a judgement of its own: the end by the judgement, the numbers of the old cells by the row -/
noncomputable def bc_KM (X : Int → Int) (LX d bc bs mi pc : Nat) (L : gm_L) (st : List gm_V) (Q : gm_Q) (O : gm_Or) (z g1 g : Nat) (la : Nat → Nat) (K : gm_K) (R : gm_R) (M : gm_M) (S : ck_Sum) (Qf : gm_Q) : Prop := ∀ (o : gm_O) (n1 : Nat) (K1 : gm_K) (R1 : gm_R) (M1 : gm_M) (σ : Nat → Int) (o2 : gm_O) (n2 : Nat) (K2 : gm_K) (R2 : gm_R) (M2 : gm_M), Qf o n1 K1 R1 M1 → ck_Q O σ S.2.2.2.2.1 (245 + 4 * g1) (bs_K la K) (bs_R z g1) (bs_M la M) S.2.2.2.2.2 o2 n2 K2 R2 M2 → dt_o o o2 → dt_m (245 + 4 * g1) K1 M1 K2 M2 → (∀ k, 1 ≤ k → k ≤ 245 + 4 * g1 → K1 k = K2 k) ∧ gm_owe X LX d bc bs mi pc L st (bg_rho (la 3)) (bg_f la) (245 + 4 * g1) (245 + 4 * g) K R M Q o n1 K1 R1 (mxM (245 + 4 * g1) M2 M1)
theorem bc_ownM {d bc bs mi pc mj d' bc' bs' : Nat} {vs : List gm_V} (hnm : ck_nmu O) (hF : gm_Fx O (245 + 4 * g1) (bs_K la K) (bs_R z g1) (bs_M la M)) (hS : ck_Ok O X LX mj S) (hn : S.2.1 = 245 + 4 * g1) (hf0 : bc_f O z S.2.2.2.1 = true) (h1 : S.1.1 ≤ d') (h2 : S.1.2.1 ≤ bc') (h3 : S.1.2.2 ≤ bs') (hvs : ∀ σ, ck_gas σ S.2.2.1 vs) (hf : gm_Wp X LX d' bc' bs' mj 0 (gm_ent mj vs) [] (245 + 4 * g1) (bs_K la K) (bs_R z g1) (bs_M la M) Qf) (k : bc_KM X LX d bc bs mi pc L st Q O z g1 g la K R M S Qf) : gm_Wp X LX d' bc' bs' mj 0 (gm_ent mj vs) [] (245 + 4 * g1) (bs_K la K) (bs_R z g1) (bs_M la M) (gm_owe X LX d bc bs mi pc L st (bg_rho (la 3)) (bg_f la) (245 + 4 * g1) (245 + 4 * g) K R M Q) := by
  have hσ := ck_sn_s (σ := fun _ => 0) (M := bs_M la M) hnm
  have hrow := gm_Wp_wk (Nat.le_refl _) h2 h3 (hS d' (ck_sn O (fun _ => 0) (bs_M la M)) vs _ _ _ _ h1 hn.symm (hvs _) hσ hF (bc_f_s hf0 hF (by omega) hσ))
  refine gm_Wp_mx hf hrow (fun o n1 K1 R1 M1 o2 n2 K2 R2 M2 q1 q2 ho hm => ?_)
  exact k o n1 K1 R1 M1 _ o2 n2 K2 R2 M2 q1 q2 ho hm
theorem bc_virtM {ix mj k1 ci mi pc d bc bs d' bc' bs' : Nat} {xs : List Int} (hb : bg g la K R M) (hz : bs_ok la z g1) (hnm : ck_nmu O) (hF : gm_Fx O (245 + 4 * g1) (bs_K la K) (bs_R z g1) (bs_M la M)) (hk1 : 1 ≤ k1 ∧ k1 ≤ 245) (hK1 : (K k1).1 = ci + 4) (h : gm_at mi pc = some (.invokevirtual ix)) (hc : gm_cal (gm_ow mi) ix = some (0, mj)) (hmx : gm_ow mj ≠ gm_mxi) (hci : ci < 12) (hcn : gm_cn ci = (gm_mn mj).cls) (hna : xs.length = gm_na mj) (hlen : xs.length + 1 ≤ gm_ml mj) (hst : (st.map gm_cat).sum ≤ 8) (hS : ck_Ok O X LX mj S) (hn : S.2.1 = 245 + 4 * g1) (hf0 : bc_f O z S.2.2.2.1 = true) (h1 : S.1.1 ≤ d') (h2 : S.1.2.1 ≤ bc') (h3 : S.1.2.2 ≤ bs') (hd : d' + 1 ≤ d) (hb1 : bc' ≤ bc) (hb2 : bs' ≤ bs) (hvs : ∀ σ, ck_gas σ S.2.2.1 (gm_vr k1 :: xs.map gm_vi)) (hf : gm_Wp X LX d' bc' bs' mj 0 (gm_ent mj (gm_vr k1 :: xs.map gm_vi)) [] (245 + 4 * g1) (bs_K la K) (bs_R z g1) (bs_M la M) Qf) (k : bc_KM X LX d (bc - bc') (bs - bs') mi (pc + 3) L st Q O z g1 g la K R M S Qf) : gm_Wp X LX d bc bs mi pc L ((xs.map gm_vi).reverse ++ gm_vr k1 :: st) (245 + 4 * g) K R M Q := by
  have er : bg_rho (la 3) k1 = k1 := by unfold bg_rho; rw [if_pos (by omega)]
  have := gm_c_virtS (k1 := k1) (as := xs.map gm_vi) (d' := d') (bc' := bc') (bs' := bs') (fun ti α => bg_sbw hb hz ti α) (fun i j a b c d e => bc_hin hz i j a b c d e) (bs_Rv hz) ⟨hk1.1, by omega⟩ (show (bs_K la K k1).1 = ci + 4 by unfold bs_K; rw [er]; exact hK1) h hc hmx hci hcn (by rw [List.length_map]; exact hna) (fun v hv => by obtain ⟨x, -, rfl⟩ := List.mem_map.mp hv; exact ⟨x, rfl⟩) (by rw [List.length_map]; exact hlen) hst hd hb1 hb2 (bc_ownM hnm hF hS hn hf0 h1 h2 h3 hvs hf k)
  rw [er] at this
  exact this
theorem bc_statM {ix mj mi pc d bc bs d' bc' bs' : Nat} {xs : List Int} (hb : bg g la K R M) (hz : bs_ok la z g1) (hnm : ck_nmu O) (hF : gm_Fx O (245 + 4 * g1) (bs_K la K) (bs_R z g1) (bs_M la M)) (h : gm_at mi pc = some (.invokestatic ix)) (hc : gm_cal (gm_ow mi) ix = some (5, mj)) (hmx : gm_ow mj ≠ gm_mxi) (hhj : ¬ gm_hh mj = []) (hna : xs.length + 2 = gm_na mj) (hlen : xs.length + 2 ≤ gm_ml mj) (hst : (st.map gm_cat).sum ≤ 8) (hS : ck_Ok O X LX mj S) (hn : S.2.1 = 245 + 4 * g1) (hf0 : bc_f O z S.2.2.2.1 = true) (h1 : S.1.1 ≤ d') (h2 : S.1.2.1 ≤ bc') (h3 : S.1.2.2 ≤ bs') (hd : d' + 1 ≤ d) (hb1 : bc' ≤ bc) (hb2 : bs' ≤ bs) (hvs : ∀ σ, ck_gas σ S.2.2.1 (gm_vr 1 :: bc_as xs true)) (hf : gm_Wp X LX d' bc' bs' mj 0 (gm_ent mj (gm_vr 1 :: bc_as xs true)) [] (245 + 4 * g1) (bs_K la K) (bs_R z g1) (bs_M la M) Qf) (k : bc_KM X LX d (bc - bc') (bs - bs') mi (pc + 3) L st Q O z g1 g la K R M S Qf) : gm_Wp X LX d bc bs mi pc L (gm_vr 245 :: ((xs.map gm_vi).reverse ++ gm_vr 1 :: st)) (245 + 4 * g) K R M Q := by
  have hl : (gm_vr 1 :: bc_as xs true).length = xs.length + 2 := by simp [bc_as]
  have := gm_c_statS (as1 := gm_vr 1 :: bc_as xs true) (as := gm_vr 1 :: bc_as xs true) (d' := d') (bc' := bc') (bs' := bs') (st := st) (fun ti α => bg_sbw hb hz ti α) (fun i j a b c d e => bc_hin hz i j a b c d e) (bs_Rv hz) (bc_arX xs (by omega)) h hc hmx hhj (by rw [hl]; exact hna) (by rw [hl]; exact hlen) hst hd hb1 hb2 (bc_ownM hnm hF hS hn hf0 h1 h2 h3 hvs hf k)
  rw [show (gm_vr 1 :: bc_as xs true).reverse ++ st = gm_vr 245 :: ((xs.map gm_vi).reverse ++ gm_vr 1 :: st) by simp [bc_as]] at this
  exact this
/-- which law a State holds by what a call sees -/
theorem bg_dcs {s : Nat} (hz : bs_ok la z g1) (hs : s ∈ bg_ss) : bg_dc la g 0 (bs_R z g1 s 8) = la s := by
  rw [bc_lf hs]
  unfold bg_dc
  by_cases e : s = 3
  · subst e
    rw [if_pos rfl]
    rcases hz with ⟨rfl, -, h0⟩ | ⟨rfl, -⟩ | ⟨rfl, -, h0⟩
    · rw [if_pos rfl, h0]
    · rw [if_neg (by decide), if_neg (by decide)]
    · rw [if_neg (by decide), if_pos rfl, if_neg (by decide)]
  · rw [if_neg e, if_neg (by omega), if_neg (by omega), show 100000 + s - 100000 = s by omega]
/-- references as a call leaves them -/
noncomputable def rvR (z g1 : Nat) (R' : gm_R) : Prop := (∀ k j, ¬ (k ∈ bg_ss ∧ j = 8) → R' k j = bs_R z g1 k j) ∧ ∀ s ∈ bg_ss, R' s 8 = 0 ∨ (R' s 8 = 246 ∧ g1 = 1) ∨ ∃ s' ∈ bg_ss, R' s 8 = 100000 + s'
theorem rvR_0 (hz : bs_ok la z g1) : rvR z g1 (bs_R z g1) := by
  refine ⟨fun _ _ _ => rfl, fun s hs => ?_⟩
  rw [bc_lf hs]
  by_cases e3 : s = 3
  · rw [if_pos e3]
    rcases hz with h | h | h
    · exact Or.inl h.1
    · exact Or.inr (Or.inr ⟨3, by decide, h.1⟩)
    · exact Or.inr (Or.inl ⟨h.1, h.2.1⟩)
  · rw [if_neg e3]
    exact Or.inr (Or.inr ⟨s, hs, rfl⟩)
theorem rvR_u {s s' : Nat} (h : rvR z g1 R') (hs : s ∈ bg_ss) (hs' : s' ∈ bg_ss) : rvR z g1 (gm_uR R' s 8 (R' s' 8)) := by
  refine ⟨fun k j hk => ?_, fun t ht => ?_⟩
  · unfold gm_uR
    rw [if_neg (fun e => hk ⟨by rw [e.1]; exact hs, e.2⟩)]
    exact h.1 k j hk
  · unfold gm_uR
    by_cases e : t = s ∧ (8 : Int) = 8
    · rw [if_pos e]
      exact h.2 s' hs'
    · rw [if_neg e]
      exact h.2 t ht
/-- the world that a call hands back, without a new law -/
theorem rt_of {n2 : Nat} {Ka K2 : gm_K} {R2 : gm_R} {Ma M2 : gm_M} {W : List (Nat × Int × Int) × List (Nat × Int)} (hg1 : g1 ≤ 1) (hr : rvR z g1 R') (hF : gm_Fx p2_O n2 K2 R2 M2) (hfr : ck_fr W (245 + 4 * g1) K1 (bs_R z g1) M1 n2 K2 R2 M2) (hW : W.1.all (fun w => decide (w.1 ≤ 245)) = true) (hk : ∀ k, k ≤ 245 + 4 * g1 → Ka k = K1 k) : bs_rt z g1 0 K1 M1 (245 + 4 * g1) Ka R' (mxM (245 + 4 * g1) M2 Ma) := by
  have eK : ∀ k, k ≤ 245 → Ka k = K2 k := fun k h => (hk k (by omega)).trans (hfr.2.1 k (by omega)).symm
  have eM : ∀ k, k ≤ 245 → mxM (245 + 4 * g1) M2 Ma k = M2 k := fun k h => funext fun j => mxM_o (by omega)
  refine ⟨⟨Or.inl rfl, rfl⟩, ⟨fun k q hq => ?_, fun k j r hq => ?_, fun k r hq => ?_, fun k r hq => ?_, ?_⟩, hk, fun k j k1 k2 => ?_, fun k j _ hj => hr.1 k j hj, fun s hs => (hr.2 s hs).imp_right (Or.imp_left fun e => ⟨e.1, Or.inl e.2⟩), fun h => absurd h (by decide)⟩
  · obtain ⟨a1, a2, a3⟩ := hF.1 k q hq
    have := bg_O1 hq
    exact ⟨a1, by omega, (eK k (by omega)).trans a3⟩
  · obtain ⟨-, a2, a3⟩ := bg_rfo hq
    refine ⟨by omega, (hr.1 k j a3).trans ?_⟩
    unfold bs_R
    rw [hq]
  · obtain ⟨a1, a2⟩ := hF.2.2.1 k r hq
    have := bg_tyk hq
    refine ⟨by omega, fun j j1 j2 => ?_⟩
    rw [eM k (by omega)]
    exact a2 j j1 j2
  · have := jfp_b hq
    by_cases hk9 : k ≤ 245
    · omega
    · have hq : r ∈ j_fp k := hq
      rw [show j_fp k = [] by unfold j_fp; rw [if_neg (by omega), if_neg (by omega), if_neg (by omega), if_neg (by omega)]] at hq
      cases hq
  · have hJ : jP p2_ty (M2 227) (M2 228) (M2 229) (M2 230) := hF.2.2.2.2
    show jP p2_ty (mxM (245 + 4 * g1) M2 Ma 227) (mxM (245 + 4 * g1) M2 Ma 228) (mxM (245 + 4 * g1) M2 Ma 229) (mxM (245 + 4 * g1) M2 Ma 230)
    rw [eM 227 (by decide), eM 228 (by decide), eM 229 (by decide), eM 230 (by decide)]
    exact hJ
  · rw [mxM_o k2]
    refine hfr.2.2.1 k j k2 fun w hw hh => ?_
    have := of_decide_eq_true (List.all_eq_true.mp hW w hw)
    omega
end WX
