/-! WHAT IS SAID OF MEMORY that bounds of single numbers do not say: how many letters are opened, to whom they go, the texts of the law. -/
noncomputable def jcn (f : Int → Int) : Nat → Nat
  | 0 => 0
  | m + 1 => jcn f m + (if f (124 + 7 * (m : Int)) < 0 then 1 else 0)
/-- opened and not opened are no more than there are; what is from somebody goes to somebody -/
noncomputable def jO (f : Int → Int) : Prop := f 14 + (jcn f 24 : Int) ≤ f 4 ∧ ∀ l : Nat, l < 24 → 0 ≤ f (119 + 7 * (l : Int)) → 0 ≤ f (120 + 7 * (l : Int))
/-- a step with g numbers laid by leaves g' -/
noncomputable def jS (k g g' : Int) : Prop := (k ≤ 10 → 0 ≤ g ∧ g' = g + 1) ∧ (k = 14 → 1 ≤ g ∧ g' = g) ∧ (10 < k → ¬ k = 14 → 2 ≤ g ∧ g' = g - 1)
/-- a text of lines; each line's steps can be reckoned -/
noncomputable def jT (f : Int → Int) : Prop := ∀ n : Int, 0 ≤ n → n < 12 → n < f 0 → (0 ≤ f (3 + 4 * n) ∧ f (3 + 4 * n) ≤ f (4 + 4 * n) ∧ f (4 + 4 * n) ≤ 400) ∧ ∃ G : Int → Int, G (f (3 + 4 * n)) = 0 ∧ ∀ i, f (3 + 4 * n) ≤ i → i < f (4 + 4 * n) → jS (f (49 + 2 * i)) (G i) (G (i + 1))
/-- what is remembered keeps these types -/
noncomputable def jA (t : List (Int × Int × Int × Int)) (f : Int → Int) : Prop := ∀ y : Int, 0 ≤ y → y < 12 → ∀ r ∈ t, ∀ j, r.1 ≤ j → j ≤ r.2.1 → 0 ≤ j → j < 395 → (-2147483648 ≤ f (395 * y + j) ∧ f (395 * y + j) < 2147483648) ∧ r.2.2.1 ≤ f (395 * y + j) ∧ f (395 * y + j) ≤ r.2.2.2
noncomputable def jP (t : List (Int × Int × Int × Int)) (f7 f8 f9 fA : Int → Int) : Prop := (jO f7 ∧ jO f8 ∧ jO f9 ∧ ∀ y : Int, 0 ≤ y → y < 12 → jO (fun j => fA (395 * y + j))) ∧ jA t fA ∧ jT (fun j => f7 (395 + j)) ∧ jT (fun j => f8 (395 + j)) ∧ jT (fun j => f9 (395 + j))
theorem jcn_cg {f g : Int → Int} : ∀ m : Nat, (∀ l : Nat, l < m → g (124 + 7 * (l : Int)) = f (124 + 7 * (l : Int))) → jcn g m = jcn f m := by
  intro m
  induction m with
  | zero => intro _; rfl
  | succ m ih =>
    intro h
    show jcn g m + (if g (124 + 7 * (m : Int)) < 0 then 1 else 0) = jcn f m + (if f (124 + 7 * (m : Int)) < 0 then 1 else 0)
    rw [ih (fun l hl => h l (by omega)), h m (by omega)]
theorem jcn_up {f g : Int → Int} {l0 : Nat} : ∀ m : Nat, (∀ l : Nat, l < m → ¬ l = l0 → g (124 + 7 * (l : Int)) = f (124 + 7 * (l : Int))) → jcn g m ≤ jcn f m + 1 := by
  intro m
  induction m with
  | zero => intro _; exact Nat.zero_le _
  | succ m ih =>
    intro h
    show jcn g m + (if g (124 + 7 * (m : Int)) < 0 then 1 else 0) ≤ jcn f m + (if f (124 + 7 * (m : Int)) < 0 then 1 else 0) + 1
    by_cases e : m = l0
    · have := jcn_cg (f := f) (g := g) m (fun l hl => h l (by omega) (by omega))
      rw [this]
      split <;> split <;> omega
    · have := ih (fun l hl hne => h l (by omega) hne)
      rw [h m (by omega) e]
      omega
theorem jcn_dn {f g : Int → Int} {l0 : Nat} (h0 : f (124 + 7 * (l0 : Int)) < 0) (h1 : 0 ≤ g (124 + 7 * (l0 : Int))) : ∀ m : Nat, l0 < m → (∀ l : Nat, l < m → ¬ l = l0 → g (124 + 7 * (l : Int)) = f (124 + 7 * (l : Int))) → jcn g m + 1 = jcn f m := by
  intro m
  induction m with
  | zero => intro hl _; omega
  | succ m ih =>
    intro hl h
    show jcn g m + (if g (124 + 7 * (m : Int)) < 0 then 1 else 0) + 1 = jcn f m + (if f (124 + 7 * (m : Int)) < 0 then 1 else 0)
    by_cases e : m = l0
    · subst e
      have := jcn_cg (f := f) (g := g) m (fun l hl => h l (by omega) (by omega))
      rw [this, if_neg (by omega), if_pos h0]
    · have := ih (by omega) (fun l hl hne => h l (by omega) hne)
      rw [h m (by omega) e]
      omega
theorem jcn_pos {f : Int → Int} {l0 : Nat} (h0 : f (124 + 7 * (l0 : Int)) < 0) : ∀ m : Nat, l0 < m → 1 ≤ jcn f m := by
  intro m
  induction m with
  | zero => intro hl; omega
  | succ m ih =>
    intro hl
    show 1 ≤ jcn f m + (if f (124 + 7 * (m : Int)) < 0 then 1 else 0)
    by_cases e : m = l0
    · subst e
      rw [if_pos h0]
      omega
    · have := ih (by omega)
      omega
theorem jO_cg {f g : Int → Int} (h4 : g 4 = f 4) (h14 : g 14 = f 14) (h : ∀ l : Nat, l < 24 → g (119 + 7 * (l : Int)) = f (119 + 7 * (l : Int)) ∧ g (120 + 7 * (l : Int)) = f (120 + 7 * (l : Int)) ∧ g (124 + 7 * (l : Int)) = f (124 + 7 * (l : Int))) (hf : jO f) : jO g := by
  refine ⟨?_, fun l hl h1 => ?_⟩
  · rw [jcn_cg (f := f) (g := g) 24 (fun l hl => (h l hl).2.2), h4, h14]
    exact hf.1
  · rw [(h l hl).1] at h1
    rw [(h l hl).2.1]
    exact hf.2 l hl h1
theorem jO_cg2 {f g : Int → Int} (h : ∀ j, 0 ≤ j → j < 395 → g j = f j) (hf : jO f) : jO g := jO_cg (h 4 (by decide) (by decide)) (h 14 (by decide) (by decide)) (fun l hl => ⟨h _ (by omega) (by omega), h _ (by omega) (by omega), h _ (by omega) (by omega)⟩) hf
theorem jT_cg {f g : Int → Int} (h : ∀ j, 0 ≤ j → j < 849 → g j = f j) (hf : jT f) : jT g := by
  intro n h1 h2 h3
  rw [h 0 (by decide) (by decide)] at h3
  obtain ⟨⟨a1, a2, a3⟩, G, a4, a5⟩ := hf n h1 h2 h3
  rw [h (3 + 4 * n) (by omega) (by omega), h (4 + 4 * n) (by omega) (by omega)]
  refine ⟨⟨a1, a2, a3⟩, G, a4, fun i h4 h5 => ?_⟩
  rw [h (49 + 2 * i) (by omega) (by omega)]
  exact a5 i h4 h5
theorem jA_cg {t : List (Int × Int × Int × Int)} {f g : Int → Int} (h : ∀ j, 0 ≤ j → j < 4740 → g j = f j) (hf : jA t f) : jA t g := by
  intro y y1 y2 r hr j h1 h2 h3 h4
  rw [h (395 * y + j) (by omega) (by omega)]
  exact hf y y1 y2 r hr j h1 h2 h3 h4
noncomputable def j_fp (k : Nat) : List (Int × Int) := if k = 227 then [(4, 4), (14, 14), (395, 1243), (119, 120), (124, 124), (126, 127), (131, 131), (133, 134), (138, 138), (140, 141), (145, 145), (147, 148), (152, 152), (154, 155), (159, 159), (161, 162), (166, 166), (168, 169), (173, 173), (175, 176), (180, 180), (182, 183), (187, 187), (189, 190), (194, 194), (196, 197), (201, 201), (203, 204), (208, 208), (210, 211), (215, 215), (217, 218), (222, 222), (224, 225), (229, 229), (231, 232), (236, 236), (238, 239), (243, 243), (245, 246), (250, 250), (252, 253), (257, 257), (259, 260), (264, 264), (266, 267), (271, 271), (273, 274), (278, 278), (280, 281), (285, 285)] else if k = 228 then [(0, 1243)] else if k = 229 then [(0, 1243)] else if k = 230 then [(0, 4739)] else []
noncomputable def j_J (t : List (Int × Int × Int × Int)) (_ : gm_K) (M : gm_M) : Prop := jP t (M 227) (M 228) (M 229) (M 230)
theorem j_fpm : (List.range 24).all (fun l => decide ((119 + 7 * (l : Int), 120 + 7 * (l : Int)) ∈ j_fp 227) && decide ((124 + 7 * (l : Int), 124 + 7 * (l : Int)) ∈ j_fp 227)) = true := by decide +kernel
theorem j_h {t : List (Int × Int × Int × Int)} : ∀ (K K' : gm_K) (M M' : gm_M), (∀ k r, r ∈ j_fp k → K' k = K k) → (∀ k r, r ∈ j_fp k → ∀ j, r.1 ≤ j → j ≤ r.2 → M' k j = M k j) → j_J t K M → j_J t K' M' := by
  intro _ _ M M' _ h hJ
  obtain ⟨⟨o7, o8, o9, oA⟩, tA, t7, t8, t9⟩ := hJ
  have h8 : ∀ j, 0 ≤ j → j < 1244 → M' 228 j = M 228 j := fun j h1 h2 => h 228 (0, 1243) (by decide) j h1 (by dsimp only; omega)
  have h9 : ∀ j, 0 ≤ j → j < 1244 → M' 229 j = M 229 j := fun j h1 h2 => h 229 (0, 1243) (by decide) j h1 (by dsimp only; omega)
  have hA : ∀ j, 0 ≤ j → j < 4740 → M' 230 j = M 230 j := fun j h1 h2 => h 230 (0, 4739) (by decide) j h1 (by dsimp only; omega)
  have h7 : ∀ j, 395 ≤ j → j < 1244 → M' 227 j = M 227 j := fun j h1 h2 => h 227 (395, 1243) (by decide +kernel) j h1 (by dsimp only; omega)
  refine ⟨⟨jO_cg (h 227 (4, 4) (by decide +kernel) 4 (Int.le_refl _) (Int.le_refl _)) (h 227 (14, 14) (by decide +kernel) 14 (Int.le_refl _) (Int.le_refl _)) (fun l hl => ?_) o7, jO_cg2 (fun j h1 h2 => h8 j h1 (by omega)) o8, jO_cg2 (fun j h1 h2 => h9 j h1 (by omega)) o9, fun y y1 y2 => jO_cg2 (fun j h1 h2 => hA _ (by omega) (by omega)) (oA y y1 y2)⟩, jA_cg hA tA, jT_cg (fun j h1 h2 => h7 _ (by omega) (by omega)) t7, jT_cg (fun j h1 h2 => h8 _ (by omega) (by omega)) t8, jT_cg (fun j h1 h2 => h9 _ (by omega) (by omega)) t9⟩
  have h1 := List.all_eq_true.mp j_fpm l (List.mem_range.mpr hl)
  rw [Bool.and_eq_true, decide_eq_true_eq, decide_eq_true_eq] at h1
  exact ⟨h 227 _ h1.1 _ (Int.le_refl _) (by dsimp only; omega), h 227 _ h1.1 _ (by dsimp only; omega) (Int.le_refl _), h 227 _ h1.2 _ (Int.le_refl _) (Int.le_refl _)⟩
/-! how it changes -/
theorem j_image {t : List (Int × Int × Int × Int)} {f7 f8 f9 fA g : Int → Int} (h : jP t f7 f8 f9 fA) (hg : ∀ j, 0 ≤ j → j < 1244 → g j = f7 j) : jP t f7 g f9 fA := by
  obtain ⟨⟨o7, o8, o9, oA⟩, tA, t7, t8, t9⟩ := h
  exact ⟨⟨o7, jO_cg2 (fun j h1 h2 => hg j h1 (by omega)) o7, o9, oA⟩, tA, t7, jT_cg (fun j h1 h2 => hg _ (by omega) (by omega)) t7, t9⟩
theorem j_before {t : List (Int × Int × Int × Int)} {f7 f8 f9 fA g : Int → Int} (h : jP t f7 f8 f9 fA) (hg : ∀ j, 0 ≤ j → j < 1244 → g j = f7 j) : jP t f7 f8 g fA := by
  obtain ⟨⟨o7, o8, o9, oA⟩, tA, t7, t8, t9⟩ := h
  exact ⟨⟨o7, o8, jO_cg2 (fun j h1 h2 => hg j h1 (by omega)) o7, oA⟩, tA, t7, t8, jT_cg (fun j h1 h2 => hg _ (by omega) (by omega)) t7⟩
theorem j_back {t : List (Int × Int × Int × Int)} {f7 f8 f9 fA g : Int → Int} (h : jP t f7 f8 f9 fA) (hg : ∀ j, 0 ≤ j → j < 1244 → g j = f8 j) : jP t g f8 f9 fA := by
  obtain ⟨⟨o7, o8, o9, oA⟩, tA, t7, t8, t9⟩ := h
  exact ⟨⟨jO_cg2 (fun j h1 h2 => hg j h1 (by omega)) o8, o8, o9, oA⟩, tA, jT_cg (fun j h1 h2 => hg _ (by omega) (by omega)) t8, t8, t9⟩
theorem j_again {t : List (Int × Int × Int × Int)} {f7 f8 f9 fA g : Int → Int} (h : jP t f7 f8 f9 fA) (hg : ∀ j, 0 ≤ j → j < 1244 → g j = f9 j) : jP t g f8 f9 fA := by
  obtain ⟨⟨o7, o8, o9, oA⟩, tA, t7, t8, t9⟩ := h
  exact ⟨⟨jO_cg2 (fun j h1 h2 => hg j h1 (by omega)) o9, o8, o9, oA⟩, tA, jT_cg (fun j h1 h2 => hg _ (by omega) (by omega)) t9, t8, t9⟩
theorem j_law {t : List (Int × Int × Int × Int)} {f7 f8 f9 fA g : Int → Int} (h : jP t f7 f8 f9 fA) (hg : ∀ j, 0 ≤ j → j < 395 → g j = f7 j) (ht : jT (fun j => g (395 + j))) : jP t g f8 f9 fA := by
  obtain ⟨⟨o7, o8, o9, oA⟩, tA, t7, t8, t9⟩ := h
  exact ⟨⟨jO_cg2 hg o7, o8, o9, oA⟩, tA, ht, t8, t9⟩
theorem j_undo {t : List (Int × Int × Int × Int)} {f7 f8 f9 fA g : Int → Int} {y : Int} (h : jP t f7 f8 f9 fA) (hy : 0 ≤ y ∧ y < 12) (hg : ∀ j, 0 ≤ j → j < 395 → g j = fA (395 * y + j)) (hg2 : ∀ j, 395 ≤ j → j < 1244 → g j = f7 j) : jP t g f8 f9 fA := by
  obtain ⟨⟨o7, o8, o9, oA⟩, tA, t7, t8, t9⟩ := h
  exact ⟨⟨jO_cg2 (f := fun j => fA (395 * y + j)) hg (oA y hy.1 hy.2), o8, o9, oA⟩, tA, jT_cg (fun j h1 h2 => hg2 _ (by omega) (by omega)) t7, t8, t9⟩
theorem j_shift {t : List (Int × Int × Int × Int)} {f7 f8 f9 fA g : Int → Int} (h : jP t f7 f8 f9 fA) (hg : ∀ j, 0 ≤ j → j < 4345 → g j = fA (j + 395)) (hg2 : ∀ j, 4345 ≤ j → j < 4740 → g j = fA j) : jP t f7 f8 f9 g := by
  obtain ⟨⟨o7, o8, o9, oA⟩, tA, t7, t8, t9⟩ := h
  refine ⟨⟨o7, o8, o9, fun y y1 y2 => ?_⟩, fun y y1 y2 r hr j h1 h2 h3 h4 => ?_, t7, t8, t9⟩
  · by_cases e : y < 11
    · refine jO_cg2 (f := fun j => fA (395 * (y + 1) + j)) (fun j h1 h2 => ?_) (oA (y + 1) (by omega) (by omega))
      rw [hg _ (by omega) (by omega)]
      congr 1
      omega
    · exact jO_cg2 (f := fun j => fA (395 * y + j)) (fun j h1 h2 => hg2 _ (by omega) (by omega)) (oA y y1 y2)
  · by_cases e : y < 11
    · rw [hg _ (by omega) (by omega), show 395 * y + j + 395 = 395 * (y + 1) + j by omega]
      exact tA (y + 1) (by omega) (by omega) r hr j h1 h2 h3 h4
    · rw [hg2 _ (by omega) (by omega)]
      exact tA y y1 y2 r hr j h1 h2 h3 h4
theorem j_store {t : List (Int × Int × Int × Int)} {f7 f8 f9 fA g : Int → Int} {y0 : Int} (h : jP t f7 f8 f9 fA) (ht : ∀ r ∈ t, ∀ j, r.1 ≤ j → j ≤ r.2.1 → 0 ≤ j → j < 395 → (-2147483648 ≤ f7 j ∧ f7 j < 2147483648) ∧ r.2.2.1 ≤ f7 j ∧ f7 j ≤ r.2.2.2) (hg : ∀ j, 0 ≤ j → j < 395 → g (395 * y0 + j) = f7 j) (hg2 : ∀ j, ¬ (395 * y0 ≤ j ∧ j < 395 * y0 + 395) → g j = fA j) : jP t f7 f8 f9 g := by
  obtain ⟨⟨o7, o8, o9, oA⟩, tA, t7, t8, t9⟩ := h
  refine ⟨⟨o7, o8, o9, fun y y1 y2 => ?_⟩, fun y y1 y2 r hr j h1 h2 h3 h4 => ?_, t7, t8, t9⟩
  · by_cases e : y = y0
    · subst e
      exact jO_cg2 (f := f7) (fun j h1 h2 => hg j h1 h2) o7
    · exact jO_cg2 (f := fun j => fA (395 * y + j)) (fun j h1 h2 => hg2 _ (by omega)) (oA y y1 y2)
  · by_cases e : y = y0
    · subst e
      rw [hg j h3 h4]
      exact ht r hr j h1 h2 h3 h4
    · rw [hg2 _ (by omega)]
      exact tA y y1 y2 r hr j h1 h2 h3 h4
/-- something is thrown in as number l -/
theorem jO_throw {f g : Int → Int} {l0 : Nat} (hf : jO f) (h4 : g 4 = f 4 + 1) (h14 : g 14 = f 14) (hs : ∀ l : Nat, l < 24 → ¬ l = l0 → g (119 + 7 * (l : Int)) = f (119 + 7 * (l : Int)) ∧ g (120 + 7 * (l : Int)) = f (120 + 7 * (l : Int)) ∧ g (124 + 7 * (l : Int)) = f (124 + 7 * (l : Int))) (h0 : 0 ≤ g (119 + 7 * (l0 : Int)) → 0 ≤ g (120 + 7 * (l0 : Int))) : jO g := by
  refine ⟨?_, fun l hl h1 => ?_⟩
  · have h1 := jcn_up (f := f) (g := g) (l0 := l0) 24 (fun l hl hne => (hs l hl hne).2.2)
    have h2 := hf.1
    omega
  · by_cases e : l = l0
    · subst e
      exact h0 h1
    · rw [(hs l hl e).1] at h1
      rw [(hs l hl e).2.1]
      exact hf.2 l hl h1
/-- letter l is opened -/
theorem jO_open {f g : Int → Int} {l0 : Nat} (hl0 : l0 < 24) (hf : jO f) (h4 : g 4 = f 4) (h14 : g 14 = f 14 + 1) (hb : f (124 + 7 * (l0 : Int)) < 0) (hb2 : 0 ≤ g (124 + 7 * (l0 : Int))) (hs : ∀ l : Nat, l < 24 → g (119 + 7 * (l : Int)) = f (119 + 7 * (l : Int)) ∧ g (120 + 7 * (l : Int)) = f (120 + 7 * (l : Int)) ∧ (¬ l = l0 → g (124 + 7 * (l : Int)) = f (124 + 7 * (l : Int)))) : jO g := by
  refine ⟨?_, fun l hl h1 => ?_⟩
  · have h1 := jcn_dn (f := f) (g := g) hb hb2 24 hl0 (fun l hl hne => (hs l hl).2.2 hne)
    have h2 := hf.1
    omega
  · rw [(hs l hl).1] at h1
    rw [(hs l hl).2.1]
    exact hf.2 l hl h1
theorem jO_lt {f : Int → Int} {l0 : Nat} (hl0 : l0 < 24) (hf : jO f) (hb : f (124 + 7 * (l0 : Int)) < 0) : f 14 < f 4 := by
  have h1 := jcn_pos (f := f) hb 24 hl0
  have h2 := hf.1
  omega
