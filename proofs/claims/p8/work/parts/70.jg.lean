/-! THE REFERENCE'S law(): what is laid down of a text, counted. -/
/-- steps from a to b, reckoned, leave h numbers -/
noncomputable def jD (f : Int → Int) (a b h : Int) : Prop := ∃ G : Int → Int, G a = 0 ∧ G b = h ∧ ∀ i, a ≤ i → i < b → jS (f (49 + 2 * i)) (G i) (G (i + 1))
/-- the first c lines are whole, up to step e -/
noncomputable def jL (f : Int → Int) (c e : Int) : Prop := ∀ n : Int, 0 ≤ n → n < c → n < 12 → (0 ≤ f (3 + 4 * n) ∧ f (3 + 4 * n) ≤ f (4 + 4 * n) ∧ f (4 + 4 * n) ≤ e) ∧ ∃ G : Int → Int, G (f (3 + 4 * n)) = 0 ∧ ∀ i, f (3 + 4 * n) ≤ i → i < f (4 + 4 * n) → jS (f (49 + 2 * i)) (G i) (G (i + 1))
theorem jD_cg {f g : Int → Int} {a b h : Int} (h1 : ∀ i, a ≤ i → i < b → g (49 + 2 * i) = f (49 + 2 * i)) (hf : jD f a b h) : jD g a b h := by
  obtain ⟨G, g1, g2, g3⟩ := hf
  refine ⟨G, g1, g2, fun i h2 h3 => ?_⟩
  rw [h1 i h2 h3]
  exact g3 i h2 h3
theorem jL_cg {f g : Int → Int} {c e : Int} (h1 : ∀ i, 0 ≤ i → i < e → g (49 + 2 * i) = f (49 + 2 * i)) (h2 : ∀ n : Int, 0 ≤ n → n < c → n < 12 → g (3 + 4 * n) = f (3 + 4 * n) ∧ g (4 + 4 * n) = f (4 + 4 * n)) (hf : jL f c e) : jL g c e := by
  intro n n1 n2 n3
  obtain ⟨e1, e2⟩ := h2 n n1 n2 n3
  obtain ⟨⟨a1, a2, a3⟩, G, g1, g2⟩ := hf n n1 n2 n3
  rw [e1, e2]
  refine ⟨⟨a1, a2, a3⟩, G, g1, fun i i1 i2 => ?_⟩
  rw [h1 i (by omega) (by omega)]
  exact g2 i i1 i2
theorem jL_e {f : Int → Int} {c e e' : Int} (h : e ≤ e') (hf : jL f c e) : jL f c e' := by
  intro n n1 n2 n3
  obtain ⟨⟨a1, a2, a3⟩, G⟩ := hf n n1 n2 n3
  exact ⟨⟨a1, a2, by omega⟩, G⟩
theorem jL_0 {f : Int → Int} {e : Int} : jL f 0 e := fun n n1 n2 _ => by omega
theorem jD_0 {f : Int → Int} {a : Int} : jD f a a 0 := ⟨fun _ => 0, rfl, rfl, fun i h1 h2 => by omega⟩
/-- a step more -/
theorem jD_s {f g : Int → Int} {a b h s h' : Int} (hab : a ≤ b) (hf : jD f a b h) (hs : jS s h h') (h1 : ∀ i, a ≤ i → i < b → g (49 + 2 * i) = f (49 + 2 * i)) (h2 : g (49 + 2 * b) = s) : jD g a (b + 1) h' := by
  obtain ⟨G, g1, g2, g3⟩ := hf
  refine ⟨fun i => if i = b + 1 then h' else G i, ?_, ?_, fun i i1 i2 => ?_⟩
  · show (if a = b + 1 then h' else G a) = 0
    rw [if_neg (by omega)]
    exact g1
  · show (if b + 1 = b + 1 then h' else G (b + 1)) = h'
    rw [if_pos rfl]
  · show jS (g (49 + 2 * i)) (if i = b + 1 then h' else G i) (if i + 1 = b + 1 then h' else G (i + 1))
    rw [if_neg (by omega)]
    by_cases e : i = b
    · rw [if_pos (by omega), e, h2, g2]
      exact hs
    · rw [if_neg (by omega), h1 i i1 (by omega)]
      exact g3 i i1 (by omega)
/-- no more numbers than steps -/
theorem jD_le {f : Int → Int} {a b h : Int} (hab : a ≤ b) (hf : jD f a b h) : h ≤ b - a := by
  obtain ⟨G, g1, g2, g3⟩ := hf
  have key : ∀ (m : Nat) (i : Int), i - a = (m : Int) → i ≤ b → G i ≤ i - a := by
    intro m
    induction m with
    | zero =>
      intro i h1 _
      have : i = a := by omega
      subst this
      omega
    | succ m ih =>
      intro i h1 h2
      have h3 := ih (i - 1) (by omega) (by omega)
      obtain ⟨s1, s2, s3⟩ := g3 (i - 1) (by omega) (by omega)
      rw [show i - 1 + 1 = i by omega] at s1 s2 s3
      generalize hk : f (49 + 2 * (i - 1)) = k at *
      by_cases c1 : k ≤ 10
      · have := s1 c1; omega
      · by_cases c2 : k = 14
        · have := s2 c2; omega
        · have := s3 (by omega) c2; omega
  rw [← g2]
  exact key (b - a).toNat b (by omega) (by omega)
/-- lines and steps: a text -/
theorem jT_of {f : Int → Int} {c e : Int} (he : e ≤ 400) (h0 : f 0 ≤ c) (hf : jL f c e) : jT f := by
  intro n n1 n2 n3
  obtain ⟨⟨a1, a2, a3⟩, G⟩ := hf n n1 (by omega) n2
  exact ⟨⟨a1, a2, by omega⟩, G⟩
/-- the line that was begun at a is whole -/
theorem jL_s {f g : Int → Int} {c a b h : Int} (hc : 0 ≤ c) (ha : 0 ≤ a) (hab : a ≤ b) (hb : b ≤ 400) (hf : jL f c a) (hd : jD f a b h) (h3 : f (3 + 4 * c) = a) (h4 : g (4 + 4 * c) = b) (hg : ∀ j, ¬ j = 4 + 4 * c → g j = f j) (h12 : c < 12) : jL g (c + 1) b := by
  intro n n1 n2 n3
  have hst : ∀ i : Int, 0 ≤ i → g (49 + 2 * i) = f (49 + 2 * i) := fun i hi => hg _ (by omega)
  by_cases e : n = c
  · subst e
    rw [h4, hg _ (by omega), h3]
    obtain ⟨G, g1, g2, g3⟩ := hd
    refine ⟨⟨ha, hab, by omega⟩, G, g1, fun i i1 i2 => ?_⟩
    rw [hst i (by omega)]
    exact g3 i i1 i2
  · obtain ⟨⟨a1, a2, a3⟩, G, g1, g2⟩ := hf n n1 (by omega) n3
    rw [hg _ (by omega), hg _ (by omega)]
    refine ⟨⟨a1, a2, by omega⟩, G, g1, fun i i1 i2 => ?_⟩
    rw [hst i (by omega)]
    exact g2 i i1 i2
noncomputable def jX (M : gm_M) : Prop := ((M 0 4 = M 226 9 - M 226 11 ∧ M 0 5 = M 0 3 + M 0 4 ∧ M 0 3 = M 226 11 - M 226 15) ∧ (0 ≤ M 0 1 ∧ M 0 1 ≤ M 226 15 ∧ M 226 15 ≤ 400) ∧ (M 0 6 = 1 → (0 ≤ M 0 2 ∧ M 0 2 < 12) ∧ M 227 (1244 + (3 + 4 * M 0 2)) = M 0 1)) ∧ jD (fun j => M 227 (1244 + j)) (M 0 1) (M 226 15) (M 0 0) ∧ jL (fun j => M 227 (1244 + j)) (M 0 2) (M 0 1)
noncomputable def jG (t : List (Int × Int × Int × Int)) (K : gm_K) (M : gm_M) : Prop := j_J t K M ∧ jX M
noncomputable def jg_e (k : Nat) : List (Int × Int) := if k = 0 then [(0, 6)] else if k = 226 then [(9, 9), (11, 11), (15, 15)] else if k = 227 then [(1247, 1248), (1251, 1252), (1255, 1256), (1259, 1260), (1263, 1264), (1267, 1268), (1271, 1272), (1275, 1276), (1279, 1280), (1283, 1284), (1287, 1288), (1291, 1292), (1293, 2092)] else []
noncomputable def jg_fp (k : Nat) : List (Int × Int) := j_fp k ++ jg_e k
theorem jg_l : (List.range 12).all (fun (n : Nat) => decide ((1247 + 4 * (n : Int), 1248 + 4 * (n : Int)) ∈ jg_e 227)) = true := by decide +kernel
theorem jX_cg {M M' : gm_M} (h : ∀ k r, r ∈ jg_e k → ∀ j, r.1 ≤ j → j ≤ r.2 → M' k j = M k j) (hX : jX M) : jX M' := by
  have h0 : ∀ j, 0 ≤ j → j ≤ 6 → M' 0 j = M 0 j := fun j h1 h2 => h 0 (0, 6) (by decide) j h1 h2
  have h9 : M' 226 9 = M 226 9 := h 226 (9, 9) (by decide) 9 (by decide) (by decide)
  have h11 : M' 226 11 = M 226 11 := h 226 (11, 11) (by decide) 11 (by decide) (by decide)
  have h15 : M' 226 15 = M 226 15 := h 226 (15, 15) (by decide) 15 (by decide) (by decide)
  have hs : ∀ j, 49 ≤ j → j ≤ 848 → M' 227 (1244 + j) = M 227 (1244 + j) := fun j h1 h2 => h 227 (1293, 2092) (by decide +kernel) _ (by dsimp only; omega) (by dsimp only; omega)
  have hl : ∀ n : Int, 0 ≤ n → n < 12 → M' 227 (1244 + (3 + 4 * n)) = M 227 (1244 + (3 + 4 * n)) ∧ M' 227 (1244 + (4 + 4 * n)) = M 227 (1244 + (4 + 4 * n)) := by
    intro n n1 n2
    obtain ⟨m, rfl⟩ : ∃ m : Nat, n = (m : Int) := ⟨n.toNat, by omega⟩
    have hm := of_decide_eq_true (List.all_eq_true.mp jg_l m (List.mem_range.mpr (by omega)))
    exact ⟨h 227 _ hm _ (by dsimp only; omega) (by dsimp only; omega), h 227 _ hm _ (by dsimp only; omega) (by dsimp only; omega)⟩
  obtain ⟨⟨⟨a1, a2, a3⟩, ⟨b1, b2, b3⟩, c1⟩, d1, e1⟩ := hX
  unfold jX
  rw [h0 0 (by decide) (by decide), h0 1 (by decide) (by decide), h0 2 (by decide) (by decide), h0 3 (by decide) (by decide), h0 4 (by decide) (by decide), h0 5 (by decide) (by decide), h0 6 (by decide) (by decide), h9, h11, h15]
  refine ⟨⟨⟨a1, a2, a3⟩, ⟨b1, b2, b3⟩, fun h6 => ?_⟩, jD_cg (fun i i1 i2 => hs _ (by omega) (by omega)) d1, jL_cg (fun i i1 i2 => hs _ (by omega) (by omega)) (fun n n1 _ n3 => hl n n1 n3) e1⟩
  obtain ⟨c2, c3⟩ := c1 h6
  exact ⟨c2, by rw [(hl _ c2.1 c2.2).1]; exact c3⟩
theorem jg_h {t : List (Int × Int × Int × Int)} : gm_hP jg_fp (jG t) (some (226, 9, 11)) := by
  refine ⟨fun K K' M M' hK h hJ => ⟨j_h K K' M M' (fun k r hr => hK k r (List.mem_append_left _ hr)) (fun k r hr => h k r (List.mem_append_left _ hr)) hJ.1, jX_cg (fun k r hr => h k r (List.mem_append_right _ hr)) hJ.2⟩, fun g hg => ?_⟩
  cases hg
  refine ⟨fun K M hJ => ?_, ⟨by decide, by decide⟩, fun K M M' hJ h e4 e5 e3 => ?_⟩
  · obtain ⟨-, ⟨⟨a1, a2, a3⟩, ⟨b1, b2, b3⟩, -⟩, -⟩ := hJ
    exact ⟨a1, a2, by show M 0 3 ≤ M 226 11; omega⟩
  · have hM : ∀ c, ¬ c = 226 → ¬ c = 0 → M' c = M c := fun c c1 c2 => funext fun j => h c j (fun e => c1 e.1) (fun e => c2 e.1)
    have h0 : ∀ j, ¬ (j = 3 ∨ j = 4 ∨ j = 5) → M' 0 j = M 0 j := fun j hj => h 0 j (fun e => absurd e.1 (by decide)) (fun e => hj e.2)
    have h15 : M' 226 15 = M 226 15 := h 226 15 (fun e => absurd e.2 (by decide)) (fun e => absurd e.1 (by decide))
    obtain ⟨hJ, ⟨⟨a1, a2, a3⟩, ⟨b1, b2, b3⟩, c1⟩, d1, e1⟩ := hJ
    have e4 : M' 0 4 = M' 226 9 - M' 226 11 := e4
    have e3 : M' 0 3 - M' 226 11 = M 0 3 - M 226 11 := e3
    refine ⟨?_, ?_⟩
    · unfold j_J at hJ ⊢
      rw [hM 227 (by decide) (by decide), hM 228 (by decide) (by decide), hM 229 (by decide) (by decide), hM 230 (by decide) (by decide)]
      exact hJ
    · unfold jX
      rw [h0 0 (by decide), h0 1 (by decide), h0 2 (by decide), h0 6 (by decide), h15, hM 227 (by decide) (by decide)]
      exact ⟨⟨⟨e4, e5, by omega⟩, ⟨b1, b2, b3⟩, c1⟩, d1, e1⟩
noncomputable def pg_nm : List (Nat × Nat × Int) := p2_nm ++ [(30, 0, 0), (31, 0, 3), (32, 0, 4), (33, 0, 5)]
noncomputable abbrev pg_O : gm_Or := ck_OG p2_T jg_fp (jG p2_ty) pg_nm (some (226, 9, 11)) jg_h
theorem pg_nmk : pg_nm.all (fun q => decide (pg_nm.find? (fun p => p.1 == q.1) = some q)) = true := by decide +kernel
theorem pg_nmu : ck_nmu pg_O := fun q hq => of_decide_eq_true (List.all_eq_true.mp pg_nmk q hq)
theorem pg_p2 {n : Nat} {K : gm_K} {R : gm_R} {M : gm_M} (h : gm_Fx pg_O n K R M) : gm_Fx p2_O n K R M := ⟨h.1, h.2.1, h.2.2.1, fun k r hr => h.2.2.2.1 k r (List.mem_append_left _ hr), h.2.2.2.2.1⟩
theorem p2_pg {n : Nat} {K : gm_K} {R : gm_R} {M : gm_M} (h : gm_Fx p2_O n K R M) (hX : jX M) : gm_Fx pg_O n K R M := by
  refine ⟨h.1, h.2.1, h.2.2.1, fun k r hr => ?_, h.2.2.2.2, hX⟩
  rcases List.mem_append.mp hr with hr | hr
  · exact h.2.2.2.1 k r hr
  · have h1 := (md_mo h).1.2
    have h2 := (md_kd h md_o.1.2).1.1.2
    unfold jg_e at hr
    split at hr
    · omega
    · split at hr
      · omega
      · split at hr
        · omega
        · cases hr
