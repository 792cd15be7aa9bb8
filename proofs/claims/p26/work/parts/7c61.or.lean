/-! 7c61.or -/
section
/-! ORDER: what it answers. -/
theorem cnt_1 {p q : Int → Prop} {k : Nat} (h : ∀ i : Nat, ¬ i = k → (p (i : Int) ↔ q (i : Int))) (hp : ¬ p (k : Int)) (hq : q (k : Int)) : ∀ n : Nat, (n ≤ k → cnt q n = cnt p n) ∧ (k < n → cnt q n = cnt p n + 1) := by
  intro n
  induction n with
  | zero => exact ⟨fun _ => rfl, fun h => absurd h (Nat.not_lt_zero _)⟩
  | succ n ih =>
    by_cases e : n = k
    · subst e
      refine ⟨fun h2 => by omega, fun _ => ?_⟩
      rw [cnt_t hq, cnt_f hp, ih.1 (Nat.le_refl _)]
    · have h1 := h n e
      by_cases hn : p (n : Int)
      · rw [cnt_t hn, cnt_t (h1.mp hn)]
        refine ⟨fun h2 => ?_, fun h2 => ?_⟩
        · rw [ih.1 (by omega)]
        · rw [ih.2 (by omega)]
      · rw [cnt_f hn, cnt_f (fun hh => hn (h1.mpr hh))]
        exact ⟨fun h2 => ih.1 (by omega), fun h2 => ih.2 (by omega)⟩
theorem cnt_m {p q : Int → Prop} : ∀ n : Nat, (∀ i : Nat, i < n → p (i : Int) → q (i : Int)) → cnt p n ≤ cnt q n := by
  intro n
  induction n with
  | zero => intro _; exact Int.le_refl _
  | succ n ih =>
    intro h
    have h1 := ih (fun i hi => h i (by omega))
    by_cases hp : p (n : Int)
    · rw [cnt_t hp, cnt_t (h n (by omega) hp)]; omega
    · rw [cnt_f hp]
      by_cases hq : q (n : Int)
      · rw [cnt_t hq]; omega
      · rw [cnt_f hq]; exact h1
/-- fewer, where one is left out -/
theorem cnt_l {p q : Int → Prop} {n k : Nat} (hk : k < n) (h : ∀ i : Nat, i < n → p (i : Int) → q (i : Int)) (hp : ¬ p (k : Int)) (hq : q (k : Int)) : cnt p n < cnt q n := by
  have h1 := (cnt_1 (p := fun i => q i ∧ ¬ i = (k : Int)) (q := q) (k := k) (fun i hi => ⟨fun hh => hh.1, fun hh => ⟨hh, fun e => hi (by omega)⟩⟩) (fun hh => hh.2 rfl) hq n).2 hk
  have h2 := cnt_m (p := p) (q := fun i => q i ∧ ¬ i = (k : Int)) n (fun i hi hh => ⟨h i hi hh, fun e => hp (by rw [← e]; exact hh)⟩)
  omega
/-- how many come out ahead of a letter -/
noncomputable def rkl (N o : Int → Int) (l : Int) : Int := cnt (fun i => (¬ o i = -1 ∧ o i < o l) ∨ (o i = o l ∧ i < l)) (N 4).toNat
/-- how many stand ahead of a place in the order -/
noncomputable def bfo (N o : Int → Int) (y k : Int) : Int := cnt (fun i => ¬ o i = -1 ∧ (o i < y ∨ (o i = y ∧ i < k))) (N 4).toNat
noncomputable def ORD (N o : Int → Int) (x v : Int) : Prop := (v = -1 ∧ ∀ l, 0 ≤ l → l < N 4 → ¬ o l = -1 → ¬ rkl N o l = x) ∨ ((0 ≤ v ∧ v < N 4) ∧ ¬ o v = -1 ∧ rkl N o v = x)
theorem rkl_lt {N o : Int → Int} {a b : Int} (ha : 0 ≤ a ∧ a < N 4) (hb : 0 ≤ b ∧ b < N 4) (ho : ¬ o a = -1) (h : o a < o b ∨ (o a = o b ∧ a < b)) : rkl N o a < rkl N o b := by
  obtain ⟨k, rfl⟩ : ∃ k : Nat, a = (k : Int) := ⟨a.toNat, by omega⟩
  refine cnt_l (k := k) (by omega) (fun i hi hh => ?_) (fun hh => ?_) ?_
  · rcases hh with ⟨h1, h2⟩ | ⟨h1, h2⟩
    · by_cases e : o (i : Int) < o b
      · exact Or.inl ⟨h1, e⟩
      · exact Or.inr ⟨by omega, by omega⟩
    · rcases h with h | ⟨h, h3⟩
      · exact Or.inl ⟨by omega, by omega⟩
      · exact Or.inr ⟨by omega, by omega⟩
  · rcases hh with ⟨h1, h2⟩ | ⟨h1, h2⟩ <;> omega
  · rcases h with h | ⟨h, h3⟩
    · exact Or.inl ⟨ho, h⟩
    · exact Or.inr ⟨h, h3⟩
theorem ORD_u {N o : Int → Int} {x v v2 : Int} (a : ORD N o x v) (b : ORD N o x v2) : v = v2 := by
  rcases a with ⟨a1, a2⟩ | ⟨a1, a2, a3⟩
  · rcases b with ⟨b1, b2⟩ | ⟨b1, b2, b3⟩
    · omega
    · exact absurd b3 (a2 v2 b1.1 b1.2 b2)
  · rcases b with ⟨b1, b2⟩ | ⟨b1, b2, b3⟩
    · exact absurd a3 (b2 v a1.1 a1.2 a2)
    · by_cases h1 : o v < o v2 ∨ (o v = o v2 ∧ v < v2)
      · have := rkl_lt (N := N) a1 b1 a2 h1
        omega
      · by_cases h2 : o v2 < o v ∨ (o v2 = o v ∧ v2 < v)
        · have := rkl_lt (N := N) b1 a1 b2 h2
          omega
        · omega
/-- the class's answer: the first such letter -/
theorem ORD_x {N o : Int → Int} {x : Int} : ∃ v, ORD N o x v := by
  by_cases h : ∃ l, (0 ≤ l ∧ l < N 4) ∧ ¬ o l = -1 ∧ rkl N o l = x
  · obtain ⟨l, h1, h2, h3⟩ := h
    exact ⟨l, Or.inr ⟨h1, h2, h3⟩⟩
  · exact ⟨-1, Or.inl ⟨rfl, fun l l0 l1 l2 l3 => h ⟨l, ⟨l0, l1⟩, l2, l3⟩⟩⟩
noncomputable def odr (N o : Int → Int) (x : Int) : Int := Classical.choose (ORD_x (N := N) (o := o) (x := x))
theorem odr_s {N o : Int → Int} {x : Int} : ORD N o x (odr N o x) := Classical.choose_spec ORD_x
theorem bfo_k {N o : Int → Int} {y l : Int} (hy : ¬ y = -1) (hl : o l = y) : rkl N o l = bfo N o y l := by
  subst hl
  exact cnt_cg _ (fun i _ => ⟨fun hh => by rcases hh with ⟨h1, h2⟩ | ⟨h1, h2⟩; exact ⟨h1, Or.inl h2⟩; exact ⟨by omega, Or.inr ⟨h1, h2⟩⟩, fun hh => by rcases hh with ⟨h1, h2 | ⟨h2, h3⟩⟩; exact Or.inl ⟨h1, h2⟩; exact Or.inr ⟨h2, h3⟩⟩)
theorem bfo_s1 {N o : Int → Int} {y : Int} {k : Nat} (hk : (k : Int) < N 4) (hy : ¬ y = -1) (h : o (k : Int) = y) : bfo N o y (k + 1 : Nat) = bfo N o y (k : Int) + 1 :=
  (cnt_1 (p := (fun i => ¬ o i = -1 ∧ (o i < y ∨ (o i = y ∧ i < (k : Int))))) (q := (fun i => ¬ o i = -1 ∧ (o i < y ∨ (o i = y ∧ i < ((k + 1 : Nat) : Int))))) (k := k) (fun i hi => ⟨fun hh => ⟨hh.1, by rcases hh.2 with h1 | ⟨h1, h2⟩; exact Or.inl h1; exact Or.inr ⟨h1, by omega⟩⟩, fun hh => ⟨hh.1, by rcases hh.2 with h1 | ⟨h1, h2⟩; exact Or.inl h1; exact Or.inr ⟨h1, by omega⟩⟩⟩) (fun hh => by rcases hh.2 with h1 | ⟨h1, h2⟩ <;> omega) ⟨by omega, Or.inr ⟨h, by omega⟩⟩ (N 4).toNat).2 (by omega)
theorem bfo_s0 {N o : Int → Int} {y : Int} {k : Nat} (h : ¬ o (k : Int) = y) : bfo N o y (k + 1 : Nat) = bfo N o y (k : Int) :=
  cnt_cg _ (fun i _ => ⟨fun hh => ⟨hh.1, by rcases hh.2 with h1 | ⟨h1, h2⟩; exact Or.inl h1; refine Or.inr ⟨h1, ?_⟩; by_cases e : i = k; (subst e; exact absurd h1 h); omega⟩, fun hh => ⟨hh.1, by rcases hh.2 with h1 | ⟨h1, h2⟩; exact Or.inl h1; exact Or.inr ⟨h1, by omega⟩⟩⟩)
theorem bfo_y {N o : Int → Int} {y : Int} : bfo N o (y + 1) 0 = bfo N o y (N 4) :=
  cnt_cg _ (fun i hi => ⟨fun hh => ⟨hh.1, by rcases hh.2 with h1 | ⟨h1, h2⟩; (by_cases e : o (i : Int) = y; exact Or.inr ⟨e, by omega⟩; exact Or.inl (by omega)); exact absurd h2 (by omega)⟩, fun hh => ⟨hh.1, Or.inl (by rcases hh.2 with h1 | ⟨h1, h2⟩ <;> omega)⟩⟩)
theorem bfo_0 {N o : Int → Int} (hob : ∀ l, 0 ≤ l → l < N 4 → -1 ≤ o l ∧ o l ≤ 299) : bfo N o 0 0 = 0 := by
  have key : ∀ n : Nat, n ≤ (N 4).toNat → cnt (fun i => ¬ o i = -1 ∧ (o i < 0 ∨ (o i = 0 ∧ i < 0))) n = 0 := by
    intro n
    induction n with
    | zero => intro _; rfl
    | succ n ih =>
      intro hn
      rw [cnt_f (fun hh => by have := hob (n : Int) (by omega) (by omega); rcases hh.2 with h1 | ⟨h1, h2⟩ <;> omega)]
      exact ih (by omega)
  exact key _ (Nat.le_refl _)
theorem bfo_e {N o : Int → Int} (hob : ∀ l, 0 ≤ l → l < N 4 → -1 ≤ o l ∧ o l ≤ 299) {l : Int} (hl : 0 ≤ l ∧ l < N 4) (ho : ¬ o l = -1) : rkl N o l < bfo N o 300 0 := by
  obtain ⟨k, rfl⟩ : ∃ k : Nat, l = (k : Int) := ⟨l.toNat, by omega⟩
  refine cnt_l (k := k) (by omega) (fun i hi hh => ?_) (fun hh => ?_) ?_
  · have := hob (i : Int) (by omega) (by omega)
    rcases hh with ⟨h1, h2⟩ | ⟨h1, h2⟩
    · exact ⟨h1, Or.inl (by omega)⟩
    · exact ⟨by omega, Or.inl (by omega)⟩
  · rcases hh with ⟨h1, h2⟩ | ⟨h1, h2⟩ <;> omega
  · have := hob (k : Int) (by omega) (by omega)
    exact ⟨ho, Or.inl (by omega)⟩
theorem rkl_b {N o : Int → Int} {l : Int} : 0 ≤ rkl N o l ∧ rkl N o l ≤ ((N 4).toNat : Int) := cnt_b _
section OR61
variable {X : Int → Int} {LX d bc bs n : Nat} {K : gm_K} {R : gm_R} {M : gm_M} {Q : gm_Q} {N h : Int → Int} {sp : Int → Int → Int} {FI : gm_M → Prop} {φ : Int → Int → Int → Int} {o dd : Int → Int} {l lane row year y p w x k c v a b t : Int}
theorem ah_c (hd : 4 ≤ d) (hE : E0 n K R) (hT : TI N h sp M) (hN : NR N) (h3 : M 220 3 = N 4) (ho : ∀ l, 0 ≤ l → l < N 4 → M 221 (l * 2 + 0) = o l) (hob : ∀ l, 0 ≤ l → l < N 4 → -1 ≤ o l ∧ o l ≤ 299) (hl : 0 ≤ l ∧ l < N 4) (hol : ¬ o l = -1) (hq : Q (.inl (some (gm_vi (cnt (fun i => (¬ o i = -1 ∧ o i < o l) ∨ (o i = o l ∧ i < l)) (N 4).toNat)))) n K R M) : ∀ (u k : Nat) (z5 : Option gm_V) (z6 : Option gm_V), (k : Int) + (u : Int) = N 4 → gm_Wp X LX d bc bs 53 15 [some (gm_vr 1), some (gm_vi l), some (gm_vi (o l)), some (gm_vi (cnt (fun i => (¬ o i = -1 ∧ o i < o l) ∨ (o i = o l ∧ i < l)) k)), some (gm_vi (k : Int)), z5, z6] [] n K R M Q := by
  obtain ⟨⟨⟨a0, b0⟩, ⟨a1, b1⟩, ⟨a10, b10⟩, ⟨a11, b11⟩, ⟨a12, b12⟩, a9, b9⟩, ⟨⟨a2, b2⟩, ⟨a5, b5⟩, ⟨a3, b3⟩, ⟨a4, b4⟩, ⟨a6, b6⟩, ⟨a14, b14⟩, ⟨a7, b7⟩, a13, b13⟩, rF, rP, rL⟩ := id hN
  have ob7 := hob l hl.1 hl.2
  intro u
  induction u with
  | zero =>
    intro k z5 z6 hk
    have ek : k = (N 4).toNat := by omega
    have hb9 := cnt_b (p := (fun i => (¬ o i = -1 ∧ o i < o l) ∨ (o i = o l ∧ i < l))) k
    refine gm_sz (gm_p_load (pc := 15) (i := .iload 4) (sr := 0) (j := 4) (by decide +kernel) rfl rfl rfl) ?_
    refine gm_sz (gm_p_load (pc := 17) (i := .aload_n 0) (sr := 2) (j := 0) (by decide +kernel) rfl rfl rfl) ?_
    refine gm_sz (fw_gr (pc := 18) (ix := 97) (ci := 0) (j := 14) (r := 220) (by decide +kernel) (e0k hE (k := 1) (c := 0) (by decide +kernel)) (by decide +kernel) (by decide +kernel) (e0r hE (k := 1) (j := 14) (r := 220) (by decide +kernel))) ?_
    refine gm_c_virt (k := 220) (ci := 2) (mj := 9) (ix := 277) (pc := 21) (as := []) (st := [gm_vi (k : Int)]) (d' := d - 1) (bc' := 0) (bs' := 0) (by decide +kernel) (by decide +kernel) (by decide +kernel) (by decide +kernel) (e0k hE (k := 220) (c := 2) (by decide +kernel)).1 (e0k hE (k := 220) (c := 2) (by decide +kernel)).2 (by decide) (by decide +kernel) (show 0 = gm_na 9 by decide +kernel) fw_c0 (show 1 ≤ gm_ml 9 by decide +kernel) (Nat.le_of_ble_eq_true rfl) (by omega) (Nat.zero_le _) (Nat.zero_le _) ?_
    refine rw_size (s := N 4) (e0k hE (k := 220) (c := 2) (by decide +kernel)) h3 ?_
    show gm_Wp X LX d _ _ 53 24 _ [gm_vi (N 4), gm_vi (k : Int)] n K _ _ Q
    refine fw_ict (cc := .ge) (pc := 24) (off := 60) (by decide +kernel) (by decide) ⟨by omega, by omega⟩ ⟨by omega, by omega⟩ (show (N 4) ≤ (k : Int) by omega) ?_
    refine gm_sz (gm_p_load (pc := 84) (i := .iload_n 3) (sr := 0) (j := 3) (by decide +kernel) rfl rfl rfl) ?_
    have h9 : Q (.inl (some (gm_vi (cnt (fun i => (¬ o i = -1 ∧ o i < o l) ∨ (o i = o l ∧ i < l)) k)))) n K R M := by rw [ek]; exact hq
    exact gm_r_int (pc := 85) (by decide +kernel) (Or.inl (by decide +kernel)) h9
  | succ u ih =>
    intro k z5 z6 hk
    have hb9 := cnt_b (p := (fun i => (¬ o i = -1 ∧ o i < o l) ∨ (o i = o l ∧ i < l))) k
    have ob9 := hob (k : Int) (by omega) (by omega)
    have ob8 := hob l hl.1 hl.2
    refine gm_sz (gm_p_load (pc := 15) (i := .iload 4) (sr := 0) (j := 4) (by decide +kernel) rfl rfl rfl) ?_
    refine gm_sz (gm_p_load (pc := 17) (i := .aload_n 0) (sr := 2) (j := 0) (by decide +kernel) rfl rfl rfl) ?_
    refine gm_sz (fw_gr (pc := 18) (ix := 97) (ci := 0) (j := 14) (r := 220) (by decide +kernel) (e0k hE (k := 1) (c := 0) (by decide +kernel)) (by decide +kernel) (by decide +kernel) (e0r hE (k := 1) (j := 14) (r := 220) (by decide +kernel))) ?_
    refine gm_c_virt (k := 220) (ci := 2) (mj := 9) (ix := 277) (pc := 21) (as := []) (st := [gm_vi (k : Int)]) (d' := d - 1) (bc' := 0) (bs' := 0) (by decide +kernel) (by decide +kernel) (by decide +kernel) (by decide +kernel) (e0k hE (k := 220) (c := 2) (by decide +kernel)).1 (e0k hE (k := 220) (c := 2) (by decide +kernel)).2 (by decide) (by decide +kernel) (show 0 = gm_na 9 by decide +kernel) fw_c0 (show 1 ≤ gm_ml 9 by decide +kernel) (Nat.le_of_ble_eq_true rfl) (by omega) (Nat.zero_le _) (Nat.zero_le _) ?_
    refine rw_size (s := N 4) (e0k hE (k := 220) (c := 2) (by decide +kernel)) h3 ?_
    show gm_Wp X LX d _ _ 53 24 _ [gm_vi (N 4), gm_vi (k : Int)] n K _ _ Q
    refine fw_icf (cc := .ge) (pc := 24) (off := 60) (by decide +kernel) (by decide) ⟨by omega, by omega⟩ ⟨by omega, by omega⟩ (show ¬ (N 4) ≤ (k : Int) by omega) ?_
    refine gm_sz (gm_p_load (pc := 27) (i := .aload_n 0) (sr := 2) (j := 0) (by decide +kernel) rfl rfl rfl) ?_
    refine gm_sz (fw_gr (pc := 28) (ix := 97) (ci := 0) (j := 14) (r := 220) (by decide +kernel) (e0k hE (k := 1) (c := 0) (by decide +kernel)) (by decide +kernel) (by decide +kernel) (e0r hE (k := 1) (j := 14) (r := 220) (by decide +kernel))) ?_
    refine gm_sz (gm_p_load (pc := 31) (i := .iload 4) (sr := 0) (j := 4) (by decide +kernel) rfl rfl rfl) ?_
    refine gm_sz (gm_p_const (pc := 33) (i := .iconst 0) (v := gm_vi 0) (by decide +kernel) (by decide +kernel)) ?_
    refine gm_c_virt (k := 220) (ci := 2) (mj := 10) (ix := 186) (pc := 34) (as := [gm_vi (k : Int), gm_vi 0]) (st := []) (d' := d - 1) (bc' := 0) (bs' := 0) (by decide +kernel) (by decide +kernel) (by decide +kernel) (by decide +kernel) (e0k hE (k := 220) (c := 2) (by decide +kernel)).1 (e0k hE (k := 220) (c := 2) (by decide +kernel)).2 (by decide) (by decide +kernel) (show 2 = gm_na 10 by decide +kernel) (fw_c2 fw_si fw_si) (show 3 ≤ gm_ml 10 by decide +kernel) (Nat.le_of_ble_eq_true rfl) (by omega) (Nat.zero_le _) (Nat.zero_le _) ?_
    refine rw_get (s := N 4) (w := 2) (x := o (k : Int)) (e0k hE (k := 220) (c := 2) (by decide +kernel)) (e0a hE (k := 221) (q := (0, 48)) (by decide +kernel)) (e0r hE (k := 220) (j := 2) (r := 221) (by decide +kernel)) (by decide) h3 (hT.1 (220, 1, 2) (by decide)) ⟨by omega, by omega⟩ ⟨by omega, by omega⟩ ⟨by omega, by omega⟩ ⟨by omega, by omega⟩ (ho (k : Int) (by omega) (by omega)) ?_
    show gm_Wp X LX d _ _ 53 37 _ [gm_vi (o (k : Int))] n K _ _ Q
    refine gm_sz (gm_p_stor (pc := 37) (i := .istore 5) (sr := 0) (j := 5) (by decide +kernel) rfl (show 6 ≤ _ from Nat.le_of_ble_eq_true rfl) rfl) ?_
    refine gm_sz (gm_p_load (pc := 39) (i := .iload 5) (sr := 0) (j := 5) (by decide +kernel) rfl rfl rfl) ?_
    refine gm_sz (gm_p_const (pc := 41) (i := .iconst (-1)) (v := gm_vi (-1)) (by decide +kernel) (by decide +kernel)) ?_
    refine fw_ic (cc := .eq) (pc := 42) (off := 13) (by decide +kernel) (by decide) ⟨by omega, by omega⟩ ⟨by decide, by decide⟩ (fun h42 => ?_) (fun h42 => ?_)
    · have h42 : (o (k : Int)) = (-1) := h42
      refine gm_sz (gm_p_const (pc := 55) (i := .iconst 0) (v := gm_vi 0) (by decide +kernel) (by decide +kernel)) ?_
      refine gm_sz (gm_p_stor (pc := 56) (i := .istore 6) (sr := 0) (j := 6) (by decide +kernel) rfl (show 7 ≤ _ from Nat.le_of_ble_eq_true rfl) rfl) ?_
      refine gm_sz (gm_p_load (pc := 58) (i := .iload 6) (sr := 0) (j := 6) (by decide +kernel) rfl rfl rfl) ?_
      refine fw_iffd (cc := .ne) (pc := 60) (off := 15) (by decide +kernel) (by decide) ⟨by decide, by decide⟩ (by decide) ?_
      refine gm_sz (gm_p_load (pc := 63) (i := .iload 5) (sr := 0) (j := 5) (by decide +kernel) rfl rfl rfl) ?_
      refine gm_sz (gm_p_load (pc := 65) (i := .iload_n 2) (sr := 0) (j := 2) (by decide +kernel) rfl rfl rfl) ?_
      refine fw_ic (cc := .ne) (pc := 66) (off := 12) (by decide +kernel) (by decide) ⟨by omega, by omega⟩ ⟨by omega, by omega⟩ (fun h66 => ?_) (fun h66 => ?_)
      · have h66 : ¬ (o (k : Int)) = (o l) := h66
        refine gm_sz (gm_p_iinc (pc := 78) (j := 4) (z := 1) (by decide +kernel) rfl) ?_
        refine gm_sz (gm_p_goto (pc := 81) (off := (-66)) (by decide +kernel) (by decide)) ?_
        have e8 : ((k + 1 : Nat) : Int) = (k : Int) + 1 := by omega
        have e9 : cnt (fun i => (¬ o i = -1 ∧ o i < o l) ∨ (o i = o l ∧ i < l)) (k + 1) = cnt (fun i => (¬ o i = -1 ∧ o i < o l) ∨ (o i = o l ∧ i < l)) k := cnt_f (p := (fun i => (¬ o i = -1 ∧ o i < o l) ∨ (o i = o l ∧ i < l))) (show ¬ ((¬ o (k : Int) = -1 ∧ o (k : Int) < o l) ∨ (o (k : Int) = o l ∧ (k : Int) < l)) from by omega)
        have h9 := ih (k + 1) (some (gm_vi (o (k : Int)))) (some (gm_vi 0)) (by omega)
        rw [e9, e8] at h9
        exact h9
      · have h66 : (o (k : Int)) = (o l) := Classical.not_not.mp h66
        refine gm_sz (gm_p_load (pc := 69) (i := .iload 4) (sr := 0) (j := 4) (by decide +kernel) rfl rfl rfl) ?_
        refine gm_sz (gm_p_load (pc := 71) (i := .iload_n 1) (sr := 0) (j := 1) (by decide +kernel) rfl rfl rfl) ?_
        refine fw_ic (cc := .ge) (pc := 72) (off := 6) (by decide +kernel) (by decide) ⟨by omega, by omega⟩ ⟨by omega, by omega⟩ (fun h72 => ?_) (fun h72 => ?_)
        · have h72 : l ≤ (k : Int) := h72
          refine gm_sz (gm_p_iinc (pc := 78) (j := 4) (z := 1) (by decide +kernel) rfl) ?_
          refine gm_sz (gm_p_goto (pc := 81) (off := (-66)) (by decide +kernel) (by decide)) ?_
          have e8 : ((k + 1 : Nat) : Int) = (k : Int) + 1 := by omega
          have e9 : cnt (fun i => (¬ o i = -1 ∧ o i < o l) ∨ (o i = o l ∧ i < l)) (k + 1) = cnt (fun i => (¬ o i = -1 ∧ o i < o l) ∨ (o i = o l ∧ i < l)) k := cnt_f (p := (fun i => (¬ o i = -1 ∧ o i < o l) ∨ (o i = o l ∧ i < l))) (show ¬ ((¬ o (k : Int) = -1 ∧ o (k : Int) < o l) ∨ (o (k : Int) = o l ∧ (k : Int) < l)) from by omega)
          have h9 := ih (k + 1) (some (gm_vi (o (k : Int)))) (some (gm_vi 0)) (by omega)
          rw [e9, e8] at h9
          exact h9
        · have h72 : ¬ l ≤ (k : Int) := h72
          refine gm_sz (gm_p_iinc (pc := 75) (j := 3) (z := 1) (by decide +kernel) rfl) ?_
          refine gm_sz (gm_p_iinc (pc := 78) (j := 4) (z := 1) (by decide +kernel) rfl) ?_
          refine gm_sz (gm_p_goto (pc := 81) (off := (-66)) (by decide +kernel) (by decide)) ?_
          have e8 : ((k + 1 : Nat) : Int) = (k : Int) + 1 := by omega
          have e9 : cnt (fun i => (¬ o i = -1 ∧ o i < o l) ∨ (o i = o l ∧ i < l)) (k + 1) = cnt (fun i => (¬ o i = -1 ∧ o i < o l) ∨ (o i = o l ∧ i < l)) k + 1 := cnt_t (p := (fun i => (¬ o i = -1 ∧ o i < o l) ∨ (o i = o l ∧ i < l))) (show (¬ o (k : Int) = -1 ∧ o (k : Int) < o l) ∨ (o (k : Int) = o l ∧ (k : Int) < l) from by omega)
          have h9 := ih (k + 1) (some (gm_vi (o (k : Int)))) (some (gm_vi 0)) (by omega)
          rw [e9, e8] at h9
          exact h9
    · have h42 : ¬ (o (k : Int)) = (-1) := h42
      refine gm_sz (gm_p_load (pc := 45) (i := .iload 5) (sr := 0) (j := 5) (by decide +kernel) rfl rfl rfl) ?_
      refine gm_sz (gm_p_load (pc := 47) (i := .iload_n 2) (sr := 0) (j := 2) (by decide +kernel) rfl rfl rfl) ?_
      refine fw_ic (cc := .ge) (pc := 48) (off := 7) (by decide +kernel) (by decide) ⟨by omega, by omega⟩ ⟨by omega, by omega⟩ (fun h48 => ?_) (fun h48 => ?_)
      · have h48 : (o l) ≤ (o (k : Int)) := h48
        refine gm_sz (gm_p_const (pc := 55) (i := .iconst 0) (v := gm_vi 0) (by decide +kernel) (by decide +kernel)) ?_
        refine gm_sz (gm_p_stor (pc := 56) (i := .istore 6) (sr := 0) (j := 6) (by decide +kernel) rfl (show 7 ≤ _ from Nat.le_of_ble_eq_true rfl) rfl) ?_
        refine gm_sz (gm_p_load (pc := 58) (i := .iload 6) (sr := 0) (j := 6) (by decide +kernel) rfl rfl rfl) ?_
        refine fw_iffd (cc := .ne) (pc := 60) (off := 15) (by decide +kernel) (by decide) ⟨by decide, by decide⟩ (by decide) ?_
        refine gm_sz (gm_p_load (pc := 63) (i := .iload 5) (sr := 0) (j := 5) (by decide +kernel) rfl rfl rfl) ?_
        refine gm_sz (gm_p_load (pc := 65) (i := .iload_n 2) (sr := 0) (j := 2) (by decide +kernel) rfl rfl rfl) ?_
        refine fw_ic (cc := .ne) (pc := 66) (off := 12) (by decide +kernel) (by decide) ⟨by omega, by omega⟩ ⟨by omega, by omega⟩ (fun h66 => ?_) (fun h66 => ?_)
        · have h66 : ¬ (o (k : Int)) = (o l) := h66
          refine gm_sz (gm_p_iinc (pc := 78) (j := 4) (z := 1) (by decide +kernel) rfl) ?_
          refine gm_sz (gm_p_goto (pc := 81) (off := (-66)) (by decide +kernel) (by decide)) ?_
          have e8 : ((k + 1 : Nat) : Int) = (k : Int) + 1 := by omega
          have e9 : cnt (fun i => (¬ o i = -1 ∧ o i < o l) ∨ (o i = o l ∧ i < l)) (k + 1) = cnt (fun i => (¬ o i = -1 ∧ o i < o l) ∨ (o i = o l ∧ i < l)) k := cnt_f (p := (fun i => (¬ o i = -1 ∧ o i < o l) ∨ (o i = o l ∧ i < l))) (show ¬ ((¬ o (k : Int) = -1 ∧ o (k : Int) < o l) ∨ (o (k : Int) = o l ∧ (k : Int) < l)) from by omega)
          have h9 := ih (k + 1) (some (gm_vi (o (k : Int)))) (some (gm_vi 0)) (by omega)
          rw [e9, e8] at h9
          exact h9
        · have h66 : (o (k : Int)) = (o l) := Classical.not_not.mp h66
          refine gm_sz (gm_p_load (pc := 69) (i := .iload 4) (sr := 0) (j := 4) (by decide +kernel) rfl rfl rfl) ?_
          refine gm_sz (gm_p_load (pc := 71) (i := .iload_n 1) (sr := 0) (j := 1) (by decide +kernel) rfl rfl rfl) ?_
          refine fw_ic (cc := .ge) (pc := 72) (off := 6) (by decide +kernel) (by decide) ⟨by omega, by omega⟩ ⟨by omega, by omega⟩ (fun h72 => ?_) (fun h72 => ?_)
          · have h72 : l ≤ (k : Int) := h72
            refine gm_sz (gm_p_iinc (pc := 78) (j := 4) (z := 1) (by decide +kernel) rfl) ?_
            refine gm_sz (gm_p_goto (pc := 81) (off := (-66)) (by decide +kernel) (by decide)) ?_
            have e8 : ((k + 1 : Nat) : Int) = (k : Int) + 1 := by omega
            have e9 : cnt (fun i => (¬ o i = -1 ∧ o i < o l) ∨ (o i = o l ∧ i < l)) (k + 1) = cnt (fun i => (¬ o i = -1 ∧ o i < o l) ∨ (o i = o l ∧ i < l)) k := cnt_f (p := (fun i => (¬ o i = -1 ∧ o i < o l) ∨ (o i = o l ∧ i < l))) (show ¬ ((¬ o (k : Int) = -1 ∧ o (k : Int) < o l) ∨ (o (k : Int) = o l ∧ (k : Int) < l)) from by omega)
            have h9 := ih (k + 1) (some (gm_vi (o (k : Int)))) (some (gm_vi 0)) (by omega)
            rw [e9, e8] at h9
            exact h9
          · have h72 : ¬ l ≤ (k : Int) := h72
            refine gm_sz (gm_p_iinc (pc := 75) (j := 3) (z := 1) (by decide +kernel) rfl) ?_
            refine gm_sz (gm_p_iinc (pc := 78) (j := 4) (z := 1) (by decide +kernel) rfl) ?_
            refine gm_sz (gm_p_goto (pc := 81) (off := (-66)) (by decide +kernel) (by decide)) ?_
            have e8 : ((k + 1 : Nat) : Int) = (k : Int) + 1 := by omega
            have e9 : cnt (fun i => (¬ o i = -1 ∧ o i < o l) ∨ (o i = o l ∧ i < l)) (k + 1) = cnt (fun i => (¬ o i = -1 ∧ o i < o l) ∨ (o i = o l ∧ i < l)) k + 1 := cnt_t (p := (fun i => (¬ o i = -1 ∧ o i < o l) ∨ (o i = o l ∧ i < l))) (show (¬ o (k : Int) = -1 ∧ o (k : Int) < o l) ∨ (o (k : Int) = o l ∧ (k : Int) < l) from by omega)
            have h9 := ih (k + 1) (some (gm_vi (o (k : Int)))) (some (gm_vi 0)) (by omega)
            rw [e9, e8] at h9
            exact h9
      · have h48 : ¬ (o l) ≤ (o (k : Int)) := h48
        refine gm_sz (gm_p_const (pc := 51) (i := .iconst 1) (v := gm_vi 1) (by decide +kernel) (by decide +kernel)) ?_
        refine gm_sz (gm_p_goto (pc := 52) (off := 4) (by decide +kernel) (by decide)) ?_
        refine gm_sz (gm_p_stor (pc := 56) (i := .istore 6) (sr := 0) (j := 6) (by decide +kernel) rfl (show 7 ≤ _ from Nat.le_of_ble_eq_true rfl) rfl) ?_
        refine gm_sz (gm_p_load (pc := 58) (i := .iload 6) (sr := 0) (j := 6) (by decide +kernel) rfl rfl rfl) ?_
        refine fw_iftd (cc := .ne) (pc := 60) (off := 15) (by decide +kernel) (by decide) ⟨by decide, by decide⟩ (by decide) ?_
        refine gm_sz (gm_p_iinc (pc := 75) (j := 3) (z := 1) (by decide +kernel) rfl) ?_
        refine gm_sz (gm_p_iinc (pc := 78) (j := 4) (z := 1) (by decide +kernel) rfl) ?_
        refine gm_sz (gm_p_goto (pc := 81) (off := (-66)) (by decide +kernel) (by decide)) ?_
        have e8 : ((k + 1 : Nat) : Int) = (k : Int) + 1 := by omega
        have e9 : cnt (fun i => (¬ o i = -1 ∧ o i < o l) ∨ (o i = o l ∧ i < l)) (k + 1) = cnt (fun i => (¬ o i = -1 ∧ o i < o l) ∨ (o i = o l ∧ i < l)) k + 1 := cnt_t (p := (fun i => (¬ o i = -1 ∧ o i < o l) ∨ (o i = o l ∧ i < l))) (show (¬ o (k : Int) = -1 ∧ o (k : Int) < o l) ∨ (o (k : Int) = o l ∧ (k : Int) < l) from by omega)
        have h9 := ih (k + 1) (some (gm_vi (o (k : Int)))) (some (gm_vi 1)) (by omega)
        rw [e9, e8] at h9
        exact h9
theorem ah_53 (hd : 4 ≤ d) (hE : E0 n K R) (hT : TI N h sp M) (hN : NR N) (h3 : M 220 3 = N 4) (ho : ∀ l, 0 ≤ l → l < N 4 → M 221 (l * 2 + 0) = o l) (hob : ∀ l, 0 ≤ l → l < N 4 → -1 ≤ o l ∧ o l ≤ 299) (hl : 0 ≤ l ∧ l < N 4) (hol : ¬ o l = -1) (hq : Q (.inl (some (gm_vi (rkl N o l)))) n K R M) : gm_Wp X LX d bc bs 53 0 (gm_ent 53 [gm_vr 1, gm_vi l]) [] n K R M Q := by
  obtain ⟨⟨⟨a0, b0⟩, ⟨a1, b1⟩, ⟨a10, b10⟩, ⟨a11, b11⟩, ⟨a12, b12⟩, a9, b9⟩, ⟨⟨a2, b2⟩, ⟨a5, b5⟩, ⟨a3, b3⟩, ⟨a4, b4⟩, ⟨a6, b6⟩, ⟨a14, b14⟩, ⟨a7, b7⟩, a13, b13⟩, rF, rP, rL⟩ := id hN
  refine gm_sz (gm_p_load (pc := 0) (i := .aload_n 0) (sr := 2) (j := 0) (by decide +kernel) rfl rfl rfl) ?_
  refine gm_sz (fw_gr (pc := 1) (ix := 97) (ci := 0) (j := 14) (r := 220) (by decide +kernel) (e0k hE (k := 1) (c := 0) (by decide +kernel)) (by decide +kernel) (by decide +kernel) (e0r hE (k := 1) (j := 14) (r := 220) (by decide +kernel))) ?_
  refine gm_sz (gm_p_load (pc := 4) (i := .iload_n 1) (sr := 0) (j := 1) (by decide +kernel) rfl rfl rfl) ?_
  refine gm_sz (gm_p_const (pc := 5) (i := .iconst 0) (v := gm_vi 0) (by decide +kernel) (by decide +kernel)) ?_
  refine gm_c_virt (k := 220) (ci := 2) (mj := 10) (ix := 186) (pc := 6) (as := [gm_vi l, gm_vi 0]) (st := []) (d' := d - 1) (bc' := 0) (bs' := 0) (by decide +kernel) (by decide +kernel) (by decide +kernel) (by decide +kernel) (e0k hE (k := 220) (c := 2) (by decide +kernel)).1 (e0k hE (k := 220) (c := 2) (by decide +kernel)).2 (by decide) (by decide +kernel) (show 2 = gm_na 10 by decide +kernel) (fw_c2 fw_si fw_si) (show 3 ≤ gm_ml 10 by decide +kernel) (Nat.le_of_ble_eq_true rfl) (by omega) (Nat.zero_le _) (Nat.zero_le _) ?_
  refine rw_get (s := N 4) (w := 2) (x := o l) (e0k hE (k := 220) (c := 2) (by decide +kernel)) (e0a hE (k := 221) (q := (0, 48)) (by decide +kernel)) (e0r hE (k := 220) (j := 2) (r := 221) (by decide +kernel)) (by decide) h3 (hT.1 (220, 1, 2) (by decide)) ⟨by omega, by omega⟩ ⟨by omega, by omega⟩ ⟨by omega, by omega⟩ ⟨by omega, by omega⟩ (ho l (by omega) (by omega)) ?_
  show gm_Wp X LX d _ _ 53 9 _ [gm_vi (o l)] n K _ _ Q
  refine gm_sz (gm_p_stor (pc := 9) (i := .istore_n 2) (sr := 0) (j := 2) (by decide +kernel) rfl (show 3 ≤ _ from Nat.le_of_ble_eq_true rfl) rfl) ?_
  refine gm_sz (gm_p_const (pc := 10) (i := .iconst 0) (v := gm_vi 0) (by decide +kernel) (by decide +kernel)) ?_
  refine gm_sz (gm_p_stor (pc := 11) (i := .istore_n 3) (sr := 0) (j := 3) (by decide +kernel) rfl (show 4 ≤ _ from Nat.le_of_ble_eq_true rfl) rfl) ?_
  refine gm_sz (gm_p_const (pc := 12) (i := .iconst 0) (v := gm_vi 0) (by decide +kernel) (by decide +kernel)) ?_
  refine gm_sz (gm_p_stor (pc := 13) (i := .istore 4) (sr := 0) (j := 4) (by decide +kernel) rfl (show 5 ≤ _ from Nat.le_of_ble_eq_true rfl) rfl) ?_
  exact ah_c hd hE hT hN h3 ho hob hl hol hq (N 4).toNat 0 _ _ (by omega)
theorem or_c (hd : 8 ≤ d) (hE : E0 n K R) (hT : TI N h sp M) (hN : NR N) (h3 : M 220 3 = N 4) (ho : ∀ l, 0 ≤ l → l < N 4 → M 221 (l * 2 + 0) = o l) (hob : ∀ l, 0 ≤ l → l < N 4 → -1 ≤ o l ∧ o l ≤ 299) (hi : gm_ir x) (hq : ∀ v, ORD N o x v → Q (.inl (some (gm_vi v))) n K R M) : ∀ (u k : Nat), (k : Int) + (u : Int) = N 4 → (∀ i : Int, 0 ≤ i → i < (k : Int) → ¬ o i = -1 → ¬ rkl N o i = x) → gm_Wp X LX d bc bs 52 6 [some (gm_vr 1), some (gm_vi x), some (gm_vi (k : Int))] [] n K R M Q := by
  obtain ⟨⟨⟨a0, b0⟩, ⟨a1, b1⟩, ⟨a10, b10⟩, ⟨a11, b11⟩, ⟨a12, b12⟩, a9, b9⟩, ⟨⟨a2, b2⟩, ⟨a5, b5⟩, ⟨a3, b3⟩, ⟨a4, b4⟩, ⟨a6, b6⟩, ⟨a14, b14⟩, ⟨a7, b7⟩, a13, b13⟩, rF, rP, rL⟩ := id hN
  intro u
  induction u with
  | zero =>
    intro k hk hp
    refine gm_sz (gm_p_load (pc := 6) (i := .iload_n 2) (sr := 0) (j := 2) (by decide +kernel) rfl rfl rfl) ?_
    refine gm_sz (gm_p_load (pc := 7) (i := .aload_n 0) (sr := 2) (j := 0) (by decide +kernel) rfl rfl rfl) ?_
    refine gm_sz (fw_gr (pc := 8) (ix := 97) (ci := 0) (j := 14) (r := 220) (by decide +kernel) (e0k hE (k := 1) (c := 0) (by decide +kernel)) (by decide +kernel) (by decide +kernel) (e0r hE (k := 1) (j := 14) (r := 220) (by decide +kernel))) ?_
    refine gm_c_virt (k := 220) (ci := 2) (mj := 9) (ix := 277) (pc := 11) (as := []) (st := [gm_vi (k : Int)]) (d' := d - 1) (bc' := 0) (bs' := 0) (by decide +kernel) (by decide +kernel) (by decide +kernel) (by decide +kernel) (e0k hE (k := 220) (c := 2) (by decide +kernel)).1 (e0k hE (k := 220) (c := 2) (by decide +kernel)).2 (by decide) (by decide +kernel) (show 0 = gm_na 9 by decide +kernel) fw_c0 (show 1 ≤ gm_ml 9 by decide +kernel) (Nat.le_of_ble_eq_true rfl) (by omega) (Nat.zero_le _) (Nat.zero_le _) ?_
    refine rw_size (s := N 4) (e0k hE (k := 220) (c := 2) (by decide +kernel)) h3 ?_
    show gm_Wp X LX d _ _ 52 14 _ [gm_vi (N 4), gm_vi (k : Int)] n K _ _ Q
    refine fw_ict (cc := .ge) (pc := 14) (off := 33) (by decide +kernel) (by decide) ⟨by omega, by omega⟩ ⟨by omega, by omega⟩ (show (N 4) ≤ (k : Int) by omega) ?_
    refine gm_sz (gm_p_const (pc := 47) (i := .iconst (-1)) (v := gm_vi (-1)) (by decide +kernel) (by decide +kernel)) ?_
    exact gm_r_int (pc := 48) (by decide +kernel) (Or.inl (by decide +kernel)) (hq _ (Or.inl ⟨rfl, fun l l0 l1 => hp l l0 (by omega)⟩))
  | succ u ih =>
    intro k hk hp
    have ob9 := hob (k : Int) (by omega) (by omega)
    have rb9 := rkl_b (N := N) (o := o) (l := (k : Int))
    refine gm_sz (gm_p_load (pc := 6) (i := .iload_n 2) (sr := 0) (j := 2) (by decide +kernel) rfl rfl rfl) ?_
    refine gm_sz (gm_p_load (pc := 7) (i := .aload_n 0) (sr := 2) (j := 0) (by decide +kernel) rfl rfl rfl) ?_
    refine gm_sz (fw_gr (pc := 8) (ix := 97) (ci := 0) (j := 14) (r := 220) (by decide +kernel) (e0k hE (k := 1) (c := 0) (by decide +kernel)) (by decide +kernel) (by decide +kernel) (e0r hE (k := 1) (j := 14) (r := 220) (by decide +kernel))) ?_
    refine gm_c_virt (k := 220) (ci := 2) (mj := 9) (ix := 277) (pc := 11) (as := []) (st := [gm_vi (k : Int)]) (d' := d - 1) (bc' := 0) (bs' := 0) (by decide +kernel) (by decide +kernel) (by decide +kernel) (by decide +kernel) (e0k hE (k := 220) (c := 2) (by decide +kernel)).1 (e0k hE (k := 220) (c := 2) (by decide +kernel)).2 (by decide) (by decide +kernel) (show 0 = gm_na 9 by decide +kernel) fw_c0 (show 1 ≤ gm_ml 9 by decide +kernel) (Nat.le_of_ble_eq_true rfl) (by omega) (Nat.zero_le _) (Nat.zero_le _) ?_
    refine rw_size (s := N 4) (e0k hE (k := 220) (c := 2) (by decide +kernel)) h3 ?_
    show gm_Wp X LX d _ _ 52 14 _ [gm_vi (N 4), gm_vi (k : Int)] n K _ _ Q
    refine fw_icf (cc := .ge) (pc := 14) (off := 33) (by decide +kernel) (by decide) ⟨by omega, by omega⟩ ⟨by omega, by omega⟩ (show ¬ (N 4) ≤ (k : Int) by omega) ?_
    refine gm_sz (gm_p_load (pc := 17) (i := .aload_n 0) (sr := 2) (j := 0) (by decide +kernel) rfl rfl rfl) ?_
    refine gm_sz (fw_gr (pc := 18) (ix := 97) (ci := 0) (j := 14) (r := 220) (by decide +kernel) (e0k hE (k := 1) (c := 0) (by decide +kernel)) (by decide +kernel) (by decide +kernel) (e0r hE (k := 1) (j := 14) (r := 220) (by decide +kernel))) ?_
    refine gm_sz (gm_p_load (pc := 21) (i := .iload_n 2) (sr := 0) (j := 2) (by decide +kernel) rfl rfl rfl) ?_
    refine gm_sz (gm_p_const (pc := 22) (i := .iconst 0) (v := gm_vi 0) (by decide +kernel) (by decide +kernel)) ?_
    refine gm_c_virt (k := 220) (ci := 2) (mj := 10) (ix := 186) (pc := 23) (as := [gm_vi (k : Int), gm_vi 0]) (st := []) (d' := d - 1) (bc' := 0) (bs' := 0) (by decide +kernel) (by decide +kernel) (by decide +kernel) (by decide +kernel) (e0k hE (k := 220) (c := 2) (by decide +kernel)).1 (e0k hE (k := 220) (c := 2) (by decide +kernel)).2 (by decide) (by decide +kernel) (show 2 = gm_na 10 by decide +kernel) (fw_c2 fw_si fw_si) (show 3 ≤ gm_ml 10 by decide +kernel) (Nat.le_of_ble_eq_true rfl) (by omega) (Nat.zero_le _) (Nat.zero_le _) ?_
    refine rw_get (s := N 4) (w := 2) (x := o (k : Int)) (e0k hE (k := 220) (c := 2) (by decide +kernel)) (e0a hE (k := 221) (q := (0, 48)) (by decide +kernel)) (e0r hE (k := 220) (j := 2) (r := 221) (by decide +kernel)) (by decide) h3 (hT.1 (220, 1, 2) (by decide)) ⟨by omega, by omega⟩ ⟨by omega, by omega⟩ ⟨by omega, by omega⟩ ⟨by omega, by omega⟩ (ho (k : Int) (by omega) (by omega)) ?_
    show gm_Wp X LX d _ _ 52 26 _ [gm_vi (o (k : Int))] n K _ _ Q
    refine gm_sz (gm_p_const (pc := 26) (i := .iconst (-1)) (v := gm_vi (-1)) (by decide +kernel) (by decide +kernel)) ?_
    refine fw_ic (cc := .eq) (pc := 27) (off := 14) (by decide +kernel) (by decide) ⟨by omega, by omega⟩ ⟨by decide, by decide⟩ (fun h27 => ?_) (fun h27 => ?_)
    · have h27 : (o (k : Int)) = (-1) := h27
      refine gm_sz (gm_p_iinc (pc := 41) (j := 2) (z := 1) (by decide +kernel) rfl) ?_
      refine gm_sz (gm_p_goto (pc := 44) (off := (-38)) (by decide +kernel) (by decide)) ?_
      have hp2 : ∀ i : Int, 0 ≤ i → i < ((k + 1 : Nat) : Int) → ¬ o i = -1 → ¬ rkl N o i = x := fun i i0 i1 i2 i3 => by
        by_cases e : i = (k : Int)
        · subst e; omega
        · exact hp i i0 (by omega) i2 i3
      have h9 := ih (k + 1) (by omega) hp2
      rw [show ((k + 1 : Nat) : Int) = (k : Int) + 1 by omega] at h9
      exact h9
    · have h27 : ¬ (o (k : Int)) = (-1) := h27
      refine gm_sz (gm_p_load (pc := 30) (i := .aload_n 0) (sr := 2) (j := 0) (by decide +kernel) rfl rfl rfl) ?_
      refine gm_sz (gm_p_load (pc := 31) (i := .iload_n 2) (sr := 0) (j := 2) (by decide +kernel) rfl rfl rfl) ?_
      refine gm_c_virt (k := 1) (ci := 0) (mj := 53) (ix := 402) (pc := 32) (as := [gm_vi (k : Int)]) (st := []) (d' := d - 1) (bc' := 0) (bs' := 0) (by decide +kernel) (by decide +kernel) (by decide +kernel) (by decide +kernel) (e0k hE (k := 1) (c := 0) (by decide +kernel)).1 (e0k hE (k := 1) (c := 0) (by decide +kernel)).2 (by decide) (by decide +kernel) (show 1 = gm_na 53 by decide +kernel) (fw_c1 fw_si) (show 2 ≤ gm_ml 53 by decide +kernel) (Nat.le_of_ble_eq_true rfl) (by omega) (Nat.zero_le _) (Nat.zero_le _) ?_
      refine ah_53 (o := o) (l := (k : Int)) (by omega) hE hT hN h3 ho hob ⟨by omega, by omega⟩ (by omega) ?_
      show gm_Wp X LX d _ _ 52 35 _ [gm_vi (rkl N o (k : Int))] n K _ _ Q
      refine gm_sz (gm_p_load (pc := 35) (i := .iload_n 1) (sr := 0) (j := 1) (by decide +kernel) rfl rfl rfl) ?_
      refine fw_ic (cc := .ne) (pc := 36) (off := 5) (by decide +kernel) (by decide) ⟨by omega, by omega⟩ hi (fun h36 => ?_) (fun h36 => ?_)
      · have h36 : ¬ (rkl N o (k : Int)) = x := h36
        refine gm_sz (gm_p_iinc (pc := 41) (j := 2) (z := 1) (by decide +kernel) rfl) ?_
        refine gm_sz (gm_p_goto (pc := 44) (off := (-38)) (by decide +kernel) (by decide)) ?_
        have hp2 : ∀ i : Int, 0 ≤ i → i < ((k + 1 : Nat) : Int) → ¬ o i = -1 → ¬ rkl N o i = x := fun i i0 i1 i2 i3 => by
          by_cases e : i = (k : Int)
          · subst e; omega
          · exact hp i i0 (by omega) i2 i3
        have h9 := ih (k + 1) (by omega) hp2
        rw [show ((k + 1 : Nat) : Int) = (k : Int) + 1 by omega] at h9
        exact h9
      · have h36 : (rkl N o (k : Int)) = x := Classical.not_not.mp h36
        refine gm_sz (gm_p_load (pc := 39) (i := .iload_n 2) (sr := 0) (j := 2) (by decide +kernel) rfl rfl rfl) ?_
        exact gm_r_int (pc := 40) (by decide +kernel) (Or.inl (by decide +kernel)) (hq _ (Or.inr ⟨⟨by omega, by omega⟩, by omega, by omega⟩))
theorem or_r1 (hd : 8 ≤ d) (hE : E0 n K R) (hT : TR N h M) (hN : NR N) (ho : ∀ l, 0 ≤ l → l < N 4 → M 238 l = o l) (hob : ∀ l, 0 ≤ l → l < N 4 → -1 ≤ o l ∧ o l ≤ 299) (hi : gm_ir x) (hq : ∀ v, ORD N o x v → Q (.inl (some (gm_vi v))) n K R M) {yy : Nat} (hyy : yy < 300) (hx0 : 0 ≤ x) (kn : ∀ z : Option gm_V, 0 ≤ x - bfo N o (yy : Int) (N 4) → gm_Wp X LX d bc bs 362 66 [some (gm_vr 226), some (gm_vi x), some (gm_vi (x - bfo N o (yy : Int) (N 4))), some (gm_vi (yy : Int)), z] [] n K R M Q) : ∀ (u k : Nat), (k : Int) + (u : Int) = N 4 → 0 ≤ x - bfo N o (yy : Int) (k : Int) → gm_Wp X LX d bc bs 362 27 [some (gm_vr 226), some (gm_vi x), some (gm_vi (x - bfo N o (yy : Int) (k : Int))), some (gm_vi (yy : Int)), some (gm_vi (k : Int))] [] n K R M Q := by
  obtain ⟨⟨⟨a0, b0⟩, ⟨a1, b1⟩, ⟨a10, b10⟩, ⟨a11, b11⟩, ⟨a12, b12⟩, a9, b9⟩, ⟨⟨a2, b2⟩, ⟨a5, b5⟩, ⟨a3, b3⟩, ⟨a4, b4⟩, ⟨a6, b6⟩, ⟨a14, b14⟩, ⟨a7, b7⟩, a13, b13⟩, rF, rP, rL⟩ := id hN
  intro u
  induction u with
  | zero =>
    intro k hk hp
    refine gm_sz (gm_p_load (pc := 27) (i := .iload 4) (sr := 0) (j := 4) (by decide +kernel) rfl rfl rfl) ?_
    refine gm_sz (gm_p_load (pc := 29) (i := .aload_n 0) (sr := 2) (j := 0) (by decide +kernel) rfl rfl rfl) ?_
    refine gm_c_virt (k := 226) (ci := 11) (mj := 254) (ix := 100) (pc := 30) (as := []) (st := [gm_vi (k : Int)]) (d' := d - 1) (bc' := 0) (bs' := 0) (by decide +kernel) (by decide +kernel) (by decide +kernel) (by decide +kernel) (e0k hE (k := 226) (c := 11) (by decide +kernel)).1 (e0k hE (k := 226) (c := 11) (by decide +kernel)).2 (by decide) (by decide +kernel) (show 0 = gm_na 254 by decide +kernel) fw_c0 (show 1 ≤ gm_ml 254 by decide +kernel) (Nat.le_of_ble_eq_true rfl) (by omega) (Nat.zero_le _) (Nat.zero_le _) ?_
    refine re_let hE hT hN ?_
    show gm_Wp X LX d _ _ 362 33 _ [gm_vi (N 4), gm_vi (k : Int)] n K _ _ Q
    refine fw_ict (cc := .ge) (pc := 33) (off := 33) (by decide +kernel) (by decide) ⟨by omega, by omega⟩ ⟨by omega, by omega⟩ (show (N 4) ≤ (k : Int) by omega) ?_
    have ek : (k : Int) = N 4 := by omega
    rw [ek] at hp ⊢
    exact kn _ hp
  | succ u ih =>
    intro k hk hp
    have ob9 := hob (k : Int) (by omega) (by omega)
    have bb9 := cnt_b (p := (fun i => ¬ o i = -1 ∧ (o i < (yy : Int) ∨ (o i = (yy : Int) ∧ i < (k : Int))))) (N 4).toNat
    have bb9 : 0 ≤ bfo N o (yy : Int) (k : Int) ∧ bfo N o (yy : Int) (k : Int) ≤ ((N 4).toNat : Int) := bb9
    refine gm_sz (gm_p_load (pc := 27) (i := .iload 4) (sr := 0) (j := 4) (by decide +kernel) rfl rfl rfl) ?_
    refine gm_sz (gm_p_load (pc := 29) (i := .aload_n 0) (sr := 2) (j := 0) (by decide +kernel) rfl rfl rfl) ?_
    refine gm_c_virt (k := 226) (ci := 11) (mj := 254) (ix := 100) (pc := 30) (as := []) (st := [gm_vi (k : Int)]) (d' := d - 1) (bc' := 0) (bs' := 0) (by decide +kernel) (by decide +kernel) (by decide +kernel) (by decide +kernel) (e0k hE (k := 226) (c := 11) (by decide +kernel)).1 (e0k hE (k := 226) (c := 11) (by decide +kernel)).2 (by decide) (by decide +kernel) (show 0 = gm_na 254 by decide +kernel) fw_c0 (show 1 ≤ gm_ml 254 by decide +kernel) (Nat.le_of_ble_eq_true rfl) (by omega) (Nat.zero_le _) (Nat.zero_le _) ?_
    refine re_let hE hT hN ?_
    show gm_Wp X LX d _ _ 362 33 _ [gm_vi (N 4), gm_vi (k : Int)] n K _ _ Q
    refine fw_icf (cc := .ge) (pc := 33) (off := 33) (by decide +kernel) (by decide) ⟨by omega, by omega⟩ ⟨by omega, by omega⟩ (show ¬ (N 4) ≤ (k : Int) by omega) ?_
    refine gm_sz (gm_p_load (pc := 36) (i := .aload_n 0) (sr := 2) (j := 0) (by decide +kernel) rfl rfl rfl) ?_
    refine gm_sz (fw_gr (pc := 37) (ix := 51) (ci := 11) (j := 31) (r := 238) (by decide +kernel) (e0k hE (k := 226) (c := 11) (by decide +kernel)) (by decide +kernel) (by decide +kernel) (e0r hE (k := 226) (j := 31) (r := 238) (by decide +kernel))) ?_
    refine gm_sz (gm_p_load (pc := 40) (i := .iload 4) (sr := 0) (j := 4) (by decide +kernel) rfl rfl rfl) ?_
    refine gm_sz (fw_ia (pc := 42) (k := 238) (len := 24) (e0 := (k : Int)) (x := o (k : Int)) (by decide +kernel) (e0a hE (k := 238) (q := (0, 24)) (by decide +kernel)).1 (e0a hE (k := 238) (q := (0, 24)) (by decide +kernel)).2 (by decide) ⟨by omega, by omega⟩ (ho (k : Int) (by omega) (by omega))) ?_
    refine gm_sz (gm_p_load (pc := 43) (i := .iload_n 3) (sr := 0) (j := 3) (by decide +kernel) rfl rfl rfl) ?_
    refine fw_ic (cc := .eq) (pc := 44) (off := 6) (by decide +kernel) (by decide) ⟨by omega, by omega⟩ ⟨by omega, by omega⟩ (fun h44 => ?_) (fun h44 => ?_)
    · have h44 : (o (k : Int)) = (yy : Int) := h44
      refine gm_sz (gm_p_load (pc := 50) (i := .iload_n 2) (sr := 0) (j := 2) (by decide +kernel) rfl rfl rfl) ?_
      refine fw_if (cc := .ne) (pc := 51) (off := 6) (by decide +kernel) (by decide) ⟨by have := hi.1; omega, by have := hi.2; omega⟩ (fun h51 => ?_) (fun h51 => ?_)
      · have h51 : ¬ (x - bfo N o (yy : Int) (k : Int)) = 0 := h51
        refine gm_sz (gm_p_iinc (pc := 57) (j := 2) (z := (-1)) (by decide +kernel) rfl) ?_
        refine gm_sz (gm_p_iinc (pc := 60) (j := 4) (z := 1) (by decide +kernel) rfl) ?_
        refine gm_sz (gm_p_goto (pc := 63) (off := (-36)) (by decide +kernel) (by decide)) ?_
        have e9 := bfo_s1 (N := N) (o := o) (y := (yy : Int)) (k := k) (by omega) (by omega) (by omega)
        have h9 := ih (k + 1) (by omega) (by rw [e9]; omega)
        rw [e9, show ((k + 1 : Nat) : Int) = (k : Int) + 1 by omega, show x - (bfo N o (yy : Int) (k : Int) + 1) = x - bfo N o (yy : Int) (k : Int) - 1 by omega] at h9
        exact h9
      · have h51 : (x - bfo N o (yy : Int) (k : Int)) = 0 := Classical.not_not.mp h51
        refine gm_sz (gm_p_load (pc := 54) (i := .iload 4) (sr := 0) (j := 4) (by decide +kernel) rfl rfl rfl) ?_
        have e9 := bfo_k (N := N) (o := o) (y := (yy : Int)) (l := (k : Int)) (by omega) (by omega)
        exact gm_r_int (pc := 56) (by decide +kernel) (Or.inl (by decide +kernel)) (hq _ (Or.inr ⟨⟨by omega, by omega⟩, by omega, by omega⟩))
    · have h44 : ¬ (o (k : Int)) = (yy : Int) := h44
      refine gm_sz (gm_p_goto (pc := 47) (off := 13) (by decide +kernel) (by decide)) ?_
      refine gm_sz (gm_p_iinc (pc := 60) (j := 4) (z := 1) (by decide +kernel) rfl) ?_
      refine gm_sz (gm_p_goto (pc := 63) (off := (-36)) (by decide +kernel) (by decide)) ?_
      have e9 := bfo_s0 (N := N) (o := o) (y := (yy : Int)) (k := k) (by omega)
      have h9 := ih (k + 1) (by omega) (by rw [e9]; exact hp)
      rw [e9, show ((k + 1 : Nat) : Int) = (k : Int) + 1 by omega] at h9
      exact h9
theorem or_r (hd : 8 ≤ d) (hE : E0 n K R) (hT : TR N h M) (hN : NR N) (ho : ∀ l, 0 ≤ l → l < N 4 → M 238 l = o l) (hob : ∀ l, 0 ≤ l → l < N 4 → -1 ≤ o l ∧ o l ≤ 299) (hi : gm_ir x) (hq : ∀ v, ORD N o x v → Q (.inl (some (gm_vi v))) n K R M) : ∀ (u y : Nat) (z : Option gm_V), y + u = 300 → (x < 0 ∧ y = 0 ∨ 0 ≤ x - bfo N o (y : Int) 0) → gm_Wp X LX d bc bs 362 13 [some (gm_vr 226), some (gm_vi x), some (gm_vi (x - bfo N o (y : Int) 0)), some (gm_vi (y : Int)), z] [] n K R M Q := by
  obtain ⟨⟨⟨a0, b0⟩, ⟨a1, b1⟩, ⟨a10, b10⟩, ⟨a11, b11⟩, ⟨a12, b12⟩, a9, b9⟩, ⟨⟨a2, b2⟩, ⟨a5, b5⟩, ⟨a3, b3⟩, ⟨a4, b4⟩, ⟨a6, b6⟩, ⟨a14, b14⟩, ⟨a7, b7⟩, a13, b13⟩, rF, rP, rL⟩ := id hN
  intro u
  induction u with
  | zero =>
    intro y z hk hp
    have ey : y = 300 := by omega
    refine gm_sz (gm_p_load (pc := 13) (i := .iload_n 3) (sr := 0) (j := 3) (by decide +kernel) rfl rfl rfl) ?_
    refine gm_sz (gm_p_const (pc := 14) (i := .sipush 300) (v := gm_vi 300) (by decide +kernel) (by decide +kernel)) ?_
    refine fw_ict (cc := .ge) (pc := 17) (off := 55) (by decide +kernel) (by decide) ⟨by omega, by omega⟩ ⟨by decide, by decide⟩ (show 300 ≤ (y : Int) by omega) ?_
    refine gm_sz (gm_p_const (pc := 72) (i := .iconst (-1)) (v := gm_vi (-1)) (by decide +kernel) (by decide +kernel)) ?_
    have hp : 0 ≤ x - bfo N o (y : Int) 0 := by rcases hp with h | h <;> omega
    subst ey
    exact gm_r_int (pc := 73) (by decide +kernel) (Or.inl (by decide +kernel)) (hq _ (Or.inl ⟨rfl, fun l l0 l1 l2 l3 => by have h9 : rkl N o l < bfo N o ((300 : Nat) : Int) 0 := bfo_e hob ⟨l0, l1⟩ l2; omega⟩))
  | succ u ih =>
    intro y z hk hp
    refine gm_sz (gm_p_load (pc := 13) (i := .iload_n 3) (sr := 0) (j := 3) (by decide +kernel) rfl rfl rfl) ?_
    refine gm_sz (gm_p_const (pc := 14) (i := .sipush 300) (v := gm_vi 300) (by decide +kernel) (by decide +kernel)) ?_
    refine fw_icf (cc := .ge) (pc := 17) (off := 55) (by decide +kernel) (by decide) ⟨by omega, by omega⟩ ⟨by decide, by decide⟩ (show ¬ 300 ≤ (y : Int) by omega) ?_
    refine gm_sz (gm_p_load (pc := 20) (i := .iload_n 1) (sr := 0) (j := 1) (by decide +kernel) rfl rfl rfl) ?_
    refine fw_if (cc := .lt) (pc := 21) (off := 51) (by decide +kernel) (by decide) hi (fun h21 => ?_) (fun h21 => ?_)
    · have h21 : x < 0 := h21
      refine gm_sz (gm_p_const (pc := 72) (i := .iconst (-1)) (v := gm_vi (-1)) (by decide +kernel) (by decide +kernel)) ?_
      exact gm_r_int (pc := 73) (by decide +kernel) (Or.inl (by decide +kernel)) (hq _ (Or.inl ⟨rfl, fun l l0 l1 l2 l3 => by have h9 := (rkl_b (N := N) (o := o) (l := l)).1; omega⟩))
    · have h21 : ¬ x < 0 := h21
      refine gm_sz (gm_p_const (pc := 24) (i := .iconst 0) (v := gm_vi 0) (by decide +kernel) (by decide +kernel)) ?_
      refine gm_sz (gm_p_stor (pc := 25) (i := .istore 4) (sr := 0) (j := 4) (by decide +kernel) rfl (show 5 ≤ _ from Nat.le_of_ble_eq_true rfl) rfl) ?_
      have hp : 0 ≤ x - bfo N o (y : Int) 0 := by rcases hp with h | h <;> omega
      refine or_r1 (o := o) (x := x) (yy := y) hd hE hT hN ho hob hi hq (by omega) (by omega) (fun z2 hz2 => ?_) (N 4).toNat 0 (by omega) hp
      refine gm_sz (gm_p_iinc (pc := 66) (j := 3) (z := 1) (by decide +kernel) rfl) ?_
      refine gm_sz (gm_p_goto (pc := 69) (off := (-56)) (by decide +kernel) (by decide)) ?_
      have h9 := ih (y + 1) z2 (by omega) (Or.inr (by rw [show ((y + 1 : Nat) : Int) = (y : Int) + 1 by omega, bfo_y]; exact hz2))
      rw [show ((y + 1 : Nat) : Int) = (y : Int) + 1 by omega, bfo_y] at h9
      exact h9
theorem cl_order (hd : 24 ≤ d) (hbc : 4 ≤ bc) (hbs : 24 ≤ bs) (hE : E0 n K R) (hT : TI N h sp M) (hN : NR N) (hfw : FLW X LX n K R N h sp FI φ) (hI : FI M) (hb15 : gm_ir (M 1 15)) (hk15 : ¬ M 1 15 = 0 → M 1 15 = 1 ∧ ENDS N h φ M) (hoo : ∀ l, 0 ≤ l → l < N 4 → OUTR N h φ l (o l) (dd l)) (hi : gm_ir x) (hq : ∀ v, ORD N o x v → ∀ M2, Q (.inl (some (gm_vi v))) n K R M2) : gm_Wp X LX d bc bs 52 0 (gm_ent 52 [gm_vr 1, gm_vi x]) [] n K R M Q := by
  obtain ⟨⟨⟨a0, b0⟩, ⟨a1, b1⟩, ⟨a10, b10⟩, ⟨a11, b11⟩, ⟨a12, b12⟩, a9, b9⟩, ⟨⟨a2, b2⟩, ⟨a5, b5⟩, ⟨a3, b3⟩, ⟨a4, b4⟩, ⟨a6, b6⟩, ⟨a14, b14⟩, ⟨a7, b7⟩, a13, b13⟩, rF, rP, rL⟩ := id hN
  have hob : ∀ l, 0 ≤ l → l < N 4 → -1 ≤ o l ∧ o l ≤ 299 := fun l l0 l1 => OUTR_b (hoo l l0 l1) (rL l l0 l1).2.2.2.1.1
  refine gm_sz (gm_p_load (pc := 0) (i := .aload_n 0) (sr := 2) (j := 0) (by decide +kernel) rfl rfl rfl) ?_
  refine gm_c_virt (k := 1) (ci := 0) (mj := 24) (ix := 254) (pc := 1) (as := []) (st := []) (d' := d - 1) (bc' := 0) (bs' := 0) (by decide +kernel) (by decide +kernel) (by decide +kernel) (by decide +kernel) (e0k hE (k := 1) (c := 0) (by decide +kernel)).1 (e0k hE (k := 1) (c := 0) (by decide +kernel)).2 (by decide) (by decide +kernel) (show 0 = gm_na 24 by decide +kernel) fw_c0 (show 1 ≤ gm_ml 24 by decide +kernel) (Nat.le_of_ble_eq_true rfl) (by omega) (Nat.zero_le _) (Nat.zero_le _) ?_
  refine en_c24 (by omega) hE hT hN hfw hI hb15 hk15 (fun M24 hf24 hI24 h15 hen => ?_)
  show gm_Wp X LX d _ _ 52 4 _ [] n K _ _ Q
  have ho24 : ∀ l, 0 ≤ l → l < N 4 → M24 221 (l * 2 + 0) = o l := fun l l0 l1 => (OUTR_u (hen.2 l l0 l1) (hoo l l0 l1)).1
  refine gm_sz (gm_p_const (pc := 4) (i := .iconst 0) (v := gm_vi 0) (by decide +kernel) (by decide +kernel)) ?_
  refine gm_sz (gm_p_stor (pc := 5) (i := .istore_n 2) (sr := 0) (j := 2) (by decide +kernel) rfl (show 3 ≤ _ from Nat.le_of_ble_eq_true rfl) rfl) ?_
  exact or_c (by omega) hE (ti_fr (W := [(206, some 2), (206, some 3), (206, some 4), (206, some 5), (206, some 6), (206, some 7), (206, some 8), (200, some 6), (204, none), (205, none), (220, some 3), (221, none), (1, some 15)]) hT (fr_t fr_0 hf24 (by decide)) (by decide) (by decide +kernel)) hN hen.1 ho24 hob hi (fun v h => hq v h _) (N 4).toNat 0 (by omega) (fun i i0 i1 => by omega)
theorem re_order (hd : 24 ≤ d) (hE : E0 n K R) (hT : TR N h M) (hN : NR N) (hfw : FLR X LX n K R N h FI φ) (hI : FI M) (hoo : ∀ l, 0 ≤ l → l < N 4 → OUTR N h φ l (o l) (dd l)) (hi : gm_ir x) (hq : ∀ v, ORD N o x v → ∀ M2, M2 226 0 = 0 → Q (.inl (some (gm_vi v))) n K R M2) : gm_Wp X LX d bc bs 362 0 (gm_ent 362 [gm_vr 226, gm_vi x]) [] n K R M Q := by
  obtain ⟨⟨⟨a0, b0⟩, ⟨a1, b1⟩, ⟨a10, b10⟩, ⟨a11, b11⟩, ⟨a12, b12⟩, a9, b9⟩, ⟨⟨a2, b2⟩, ⟨a5, b5⟩, ⟨a3, b3⟩, ⟨a4, b4⟩, ⟨a6, b6⟩, ⟨a14, b14⟩, ⟨a7, b7⟩, a13, b13⟩, rF, rP, rL⟩ := id hN
  have hob : ∀ l, 0 ≤ l → l < N 4 → -1 ≤ o l ∧ o l ≤ 299 := fun l l0 l1 => OUTR_b (hoo l l0 l1) (rL l l0 l1).2.2.2.1.1
  refine gm_sz (gm_p_load (pc := 0) (i := .aload_n 0) (sr := 2) (j := 0) (by decide +kernel) rfl rfl rfl) ?_
  refine gm_sz (gm_p_const (pc := 1) (i := .iconst 0) (v := gm_vi 0) (by decide +kernel) (by decide +kernel)) ?_
  refine gm_sz (fw_pi (pc := 2) (ix := 3) (ci := 11) (j := 0) (M' := gm_uM M 226 0 0) (by decide +kernel) (e0k hE (k := 226) (c := 11) (by decide +kernel)) (by decide +kernel) (by decide +kernel) (by decide +kernel) rfl) ?_
  refine gm_sz (gm_p_load (pc := 5) (i := .aload_n 0) (sr := 2) (j := 0) (by decide +kernel) rfl rfl rfl) ?_
  refine gm_c_virt (k := 226) (ci := 11) (mj := 332) (ix := 428) (pc := 6) (as := []) (st := []) (d' := d - 1) (bc' := 0) (bs' := 0) (by decide +kernel) (by decide +kernel) (by decide +kernel) (by decide +kernel) (e0k hE (k := 226) (c := 11) (by decide +kernel)).1 (e0k hE (k := 226) (c := 11) (by decide +kernel)).2 (by decide) (by decide +kernel) (show 0 = gm_na 332 by decide +kernel) fw_c0 (show 1 ≤ gm_ml 332 by decide +kernel) (Nat.le_of_ble_eq_true rfl) (by omega) (Nat.zero_le _) (Nat.zero_le _) ?_
  refine oa_332 (by omega) hE (tr_fr (W := [(226, some 0)]) hT (fr_p fr_0 (Or.inr (by decide))) (by decide)) hN hfw (hfw.2.1 [(226, some 0)] _ _ (by decide) (fr_p fr_0 (Or.inr (by decide))) hI) hoo uM_at (fun M32 hf32 hI32 h032 ho32 => ?_)
  show gm_Wp X LX d _ _ 362 9 _ [] n K _ _ Q
  refine gm_sz (gm_p_load (pc := 9) (i := .iload_n 1) (sr := 0) (j := 1) (by decide +kernel) rfl rfl rfl) ?_
  refine gm_sz (gm_p_stor (pc := 10) (i := .istore_n 2) (sr := 0) (j := 2) (by decide +kernel) rfl (show 3 ≤ _ from Nat.le_of_ble_eq_true rfl) rfl) ?_
  refine gm_sz (gm_p_const (pc := 11) (i := .iconst 0) (v := gm_vi 0) (by decide +kernel) (by decide +kernel)) ?_
  refine gm_sz (gm_p_stor (pc := 12) (i := .istore_n 3) (sr := 0) (j := 3) (by decide +kernel) rfl (show 4 ≤ _ from Nat.le_of_ble_eq_true rfl) rfl) ?_
  have b0 := bfo_0 (N := N) (o := o) hob
  have h9 := or_r (X := X) (LX := LX) (d := d) (bc := bc - 0) (bs := bs - 0) (Q := Q) (by omega) hE (tr_fr (W := [(226, some 0), (226, some 29), (226, some 30), (226, some 26), (226, some 17), (226, some 18), (226, some 19), (226, some 20), (226, some 21), (226, some 22), (226, some 23), (235, none), (233, none), (236, none), (237, none), (238, none)]) hT (fr_t (fr_p fr_0 (Or.inr (by decide))) hf32 (by decide)) (by decide)) hN ho32 hob hi (fun v h => hq v h _ h032) 300 0 (none) rfl (by by_cases h : x < 0; exact Or.inl ⟨h, rfl⟩; exact Or.inr (by rw [show ((0 : Nat) : Int) = 0 from rfl, b0]; omega))
  rw [show ((0 : Nat) : Int) = 0 from rfl, b0, Int.sub_zero] at h9
  exact h9
end OR61
section OR61B
variable {X : Int → Int} {LX d bc bs n g z g1 : Nat} {la : Nat → Nat} {K : gm_K} {R : gm_R} {M : gm_M} {N : Int → Int} {lw : Option (List lln)} {A : List (Int → Int)} {im : Option ((Int → Int) × Option (List lln))} {t w : Int} {f : Int → Int} {a b c e : Int} {NC : Nat} {C Ln G : Int → Int}
noncomputable def q_order (lw : Option (List lln)) (N : Int → Int) (a : Int) : Int × Int := (0, odr N (ao lw N) a)
theorem iq_order : gm_ir (q_order lw N a).1 := by
  unfold q_order
  exact (show (-2147483648 : Int) ≤ 0 ∧ (0 : Int) < 2147483648 from by decide)
theorem z_order : (q_order lw N a).1 = 0 := by
  unfold q_order
  exact rfl
theorem cq_order (hd : 24 ≤ d) (hbc : 4 ≤ bc) (hbs : 24 ≤ bs) (hE : E0 n K R) (hK : K 245 = (2, 1)) (hc : CC n K R NC C Ln G lw) (hL : LBX NC C Ln lw M) (hG : GJ N) (hV : CLV N lw A im t w f M) (ia : gm_ir a) : gm_Wp X LX d bc bs 52 0 (gm_ent 52 [gm_vr 1, gm_vi a]) [] n K R M (CF (q_order lw N a).2 none) := by
  exact cl_order (o := ao lw N) (dd := adp N (hts (N 13)) (aphi lw N (hts (N 13)))) hd hbc hbs hE hV.1.1 hG.1.1 (flw_a hE hc hG.1.1 hG.1.2.1) (fic_of hL hV) (hb_of hV.2.1) (hk_of hV.2.1) (fun l _ _ => aout_s l) ia (fun v h M2 => ⟨hK, by rw [ORD_u h odr_s]; rfl, fun v e => nomatch e⟩)
theorem rq_order (hd : 24 ≤ d) (hE : E0 n K R) (hT : jT fun j => M 227 (395 + j)) (hS6 : NSb 6 N) (hG : GJ N) (hV : RFV N lw A im t w f M) (ia : gm_ir a) : gm_Wp X LX d bc bs 362 0 (gm_ent 362 [gm_vr 226, gm_vi a]) [] n K R M (RF (q_order lw N a).1 (q_order lw N a).2) := by
  have k226 := k226 hE
  exact re_order (o := ao lw N) (dd := adp N (hts (N 13)) (aphi lw N (hts (N 13)))) hd hE hV.1.1 hG.1.1 (flr_a hE (lawg_of hV.1.2.1 hT) hgeo_r hG.1.1 hG.1.1 hS6) ⟨hV.2.1, fun _ _ => rfl⟩ (fun l _ _ => aout_s l) ia (fun v h M2 h0 => rf_e k226 (congrArg (Prod.mk 0) (ORD_u odr_s h)) (fun _ => rfl) h0)
theorem fw_order (hb : bg g la K R M) (hR : REL la K M N lw A im t w f) (ia : gm_ir a) : ∀ z g1, bs_ok la z g1 → ¬ z = 100003 → gm_Wp X LX 279 6 600 52 0 (gm_ent 52 (gm_vr 1 :: [a].map gm_vi)) [] (245 + 4 * g1) (bs_K la K) (bs_R z g1) (bs_M la M) (CF (q_order lw N a).2 none) := by
  intro z g1 hz hz3
  have hE := e0_w hb hz
  obtain ⟨NC, C, Ln, hcc, hlb⟩ := cc_w hb hz hz3 hR.2.1.1 hR.2.2.2.1.2.1
  exact cq_order (by decide) (by decide) (by decide) hE (k245 hE).2 hcc hlb hR.1.1 (clv_w hb hR.2.2.1) ia
theorem fm_order (hb : bg g la K R M) (hR : REL la K M N lw A im t w f) (ia : gm_ir a) : gm_Wp X LX 279 6 600 362 0 (gm_ent 362 (gm_vr 226 :: [a].map gm_vi)) [] 245 (bs_K la K) (bs_R 100003 0) (bs_M la M) (RF (q_order lw N a).1 (q_order lw N a).2) := rq_order (by decide) (e0_w hb (Or.inr (Or.inl ⟨rfl, rfl⟩))) (gJ_w hb) (ns6 (bs_F0 (z := 100003) hb) (rfv_w (la := la) hR.2.2.2).1.1.1 hR.1.1.1.1) hR.1.1 (rfv_w hR.2.2.2) ia
end OR61B
end
/-! 7c62.po -/
section
/-! POLES: what it answers. -/
theorem apt_sym {N : Int → Int} {a b c : Int} : apt N a b c = apt N b a c := by
  unfold apt
  by_cases h : ∃ i : Nat, (i : Int) < N 0 ∧ (gm_and (gm_shr c (i : Int)) 1 = 1 ∧ ¬ (N (287 + (a * 6 + (i : Int)))) = (N (287 + (b * 6 + (i : Int)))))
  · obtain ⟨i, h1, h2, h3⟩ := h
    rw [if_pos ⟨i, h1, h2, h3⟩, if_pos ⟨i, h1, h2, fun e => h3 e.symm⟩]
  · rw [if_neg h, if_neg (fun ⟨i, h1, h2, h3⟩ => h ⟨i, h1, h2, fun e => h3 e.symm⟩)]
def btc (x : Int) : Int := gm_and (((gm_and (((gm_and (x - (gm_and (gm_ushr x 1) 1431655765)) 858993459) + (gm_and (gm_ushr (x - (gm_and (gm_ushr x 1) 1431655765)) 2) 858993459)) + (gm_ushr ((gm_and (x - (gm_and (gm_ushr x 1) 1431655765)) 858993459) + (gm_and (gm_ushr (x - (gm_and (gm_ushr x 1) 1431655765)) 2) 858993459)) 4)) 252645135) + (gm_ushr (gm_and (((gm_and (x - (gm_and (gm_ushr x 1) 1431655765)) 858993459) + (gm_and (gm_ushr (x - (gm_and (gm_ushr x 1) 1431655765)) 2) 858993459)) + (gm_ushr ((gm_and (x - (gm_and (gm_ushr x 1) 1431655765)) 858993459) + (gm_and (gm_ushr (x - (gm_and (gm_ushr x 1) 1431655765)) 2) 858993459)) 4)) 252645135) 8)) + (gm_ushr ((gm_and (((gm_and (x - (gm_and (gm_ushr x 1) 1431655765)) 858993459) + (gm_and (gm_ushr (x - (gm_and (gm_ushr x 1) 1431655765)) 2) 858993459)) + (gm_ushr ((gm_and (x - (gm_and (gm_ushr x 1) 1431655765)) 858993459) + (gm_and (gm_ushr (x - (gm_and (gm_ushr x 1) 1431655765)) 2) 858993459)) 4)) 252645135) + (gm_ushr (gm_and (((gm_and (x - (gm_and (gm_ushr x 1) 1431655765)) 858993459) + (gm_and (gm_ushr (x - (gm_and (gm_ushr x 1) 1431655765)) 2) 858993459)) + (gm_ushr ((gm_and (x - (gm_and (gm_ushr x 1) 1431655765)) 858993459) + (gm_and (gm_ushr (x - (gm_and (gm_ushr x 1) 1431655765)) 2) 858993459)) 4)) 252645135) 8)) 16)) 63
/-- all tables are told apart -/
noncomputable def ALL (N : Int → Int) (c : Int) : Prop := ∀ i j : Int, 0 ≤ i → i < j → j < N 6 → apt N i j c = 1
/-- the best of the first sets -/
noncomputable def plf (N : Int → Int) : Nat → Int
  | 0 => -1
  | k + 1 => @ite Int ((plf N k = -1 ∨ btc (k : Int) < btc (plf N k)) ∧ ALL N (k : Int)) (Classical.propDecidable _) (k : Int) (plf N k)
theorem plf_b {N : Int → Int} : ∀ k : Nat, -1 ≤ plf N k ∧ plf N k < (k : Int) := by
  intro k
  induction k with
  | zero => exact ⟨show (-1 : Int) ≤ -1 by decide, show (-1 : Int) < 0 by decide⟩
  | succ k ih =>
    by_cases h : (plf N k = -1 ∨ btc (k : Int) < btc (plf N k)) ∧ ALL N (k : Int)
    · rw [show plf N (k + 1) = (k : Int) from if_pos h]; exact ⟨by omega, by omega⟩
    · rw [show plf N (k + 1) = plf N k from if_neg h]; exact ⟨ih.1, by omega⟩
theorem shl_6 {x : Int} (h0 : 0 ≤ x) (h1 : x ≤ 6) : 1 ≤ gm_shl 1 x ∧ gm_shl 1 x ≤ 64 := by
  have h : x = 0 ∨ x = 1 ∨ x = 2 ∨ x = 3 ∨ x = 4 ∨ x = 5 ∨ x = 6 := by omega
  rcases h with rfl | rfl | rfl | rfl | rfl | rfl | rfl <;> decide
section PO62
variable {X : Int → Int} {LX d bc bs n : Nat} {K : gm_K} {R : gm_R} {M : gm_M} {Q : gm_Q} {N h : Int → Int} {sp : Int → Int → Int} {FI : gm_M → Prop} {φ : Int → Int → Int → Int} {l lane row year y p w x k c v a b t : Int}
theorem bc_49 (hq : Q (.inl (some (gm_vi (btc x)))) n K R M) : gm_Wp X LX d bc bs 49 0 (gm_ent 49 [gm_vi x]) [] n K R M Q := by
  refine gm_sz (gm_p_load (pc := 0) (i := .iload_n 0) (sr := 0) (j := 0) (by decide +kernel) rfl rfl rfl) ?_
  refine gm_sz (gm_p_load (pc := 1) (i := .iload_n 0) (sr := 0) (j := 0) (by decide +kernel) rfl rfl rfl) ?_
  refine gm_sz (gm_p_const (pc := 2) (i := .iconst 1) (v := gm_vi 1) (by decide +kernel) (by decide +kernel)) ?_
  refine gm_sz (gm_p_bin (pc := 3) (i := .iushr) (f := gm_ushr) (by decide +kernel) rfl) ?_
  refine gm_sz (gm_p_ldci (pc := 4) (i := .ldc_w 265) (ix := 265) (v := 1431655765) (by decide +kernel) (Or.inr rfl) (by decide +kernel)) ?_
  refine gm_sz (gm_p_bin (pc := 7) (i := .iand) (f := gm_and) (by decide +kernel) rfl) ?_
  refine gm_sz (gm_p_bin (pc := 8) (i := .isub) (f := fun x y => x - y) (by decide +kernel) rfl) ?_
  refine gm_sz (gm_p_stor (pc := 9) (i := .istore_n 0) (sr := 0) (j := 0) (by decide +kernel) rfl (show 1 ≤ _ from Nat.le_of_ble_eq_true rfl) rfl) ?_
  refine gm_sz (gm_p_load (pc := 10) (i := .iload_n 0) (sr := 0) (j := 0) (by decide +kernel) rfl rfl rfl) ?_
  refine gm_sz (gm_p_ldci (pc := 11) (i := .ldc_w 266) (ix := 266) (v := 858993459) (by decide +kernel) (Or.inr rfl) (by decide +kernel)) ?_
  refine gm_sz (gm_p_bin (pc := 14) (i := .iand) (f := gm_and) (by decide +kernel) rfl) ?_
  refine gm_sz (gm_p_load (pc := 15) (i := .iload_n 0) (sr := 0) (j := 0) (by decide +kernel) rfl rfl rfl) ?_
  refine gm_sz (gm_p_const (pc := 16) (i := .iconst 2) (v := gm_vi 2) (by decide +kernel) (by decide +kernel)) ?_
  refine gm_sz (gm_p_bin (pc := 17) (i := .iushr) (f := gm_ushr) (by decide +kernel) rfl) ?_
  refine gm_sz (gm_p_ldci (pc := 18) (i := .ldc_w 266) (ix := 266) (v := 858993459) (by decide +kernel) (Or.inr rfl) (by decide +kernel)) ?_
  refine gm_sz (gm_p_bin (pc := 21) (i := .iand) (f := gm_and) (by decide +kernel) rfl) ?_
  refine gm_sz (gm_p_bin (pc := 22) (i := .iadd) (f := fun x y => x + y) (by decide +kernel) rfl) ?_
  refine gm_sz (gm_p_stor (pc := 23) (i := .istore_n 0) (sr := 0) (j := 0) (by decide +kernel) rfl (show 1 ≤ _ from Nat.le_of_ble_eq_true rfl) rfl) ?_
  refine gm_sz (gm_p_load (pc := 24) (i := .iload_n 0) (sr := 0) (j := 0) (by decide +kernel) rfl rfl rfl) ?_
  refine gm_sz (gm_p_load (pc := 25) (i := .iload_n 0) (sr := 0) (j := 0) (by decide +kernel) rfl rfl rfl) ?_
  refine gm_sz (gm_p_const (pc := 26) (i := .iconst 4) (v := gm_vi 4) (by decide +kernel) (by decide +kernel)) ?_
  refine gm_sz (gm_p_bin (pc := 27) (i := .iushr) (f := gm_ushr) (by decide +kernel) rfl) ?_
  refine gm_sz (gm_p_bin (pc := 28) (i := .iadd) (f := fun x y => x + y) (by decide +kernel) rfl) ?_
  refine gm_sz (gm_p_ldci (pc := 29) (i := .ldc_w 267) (ix := 267) (v := 252645135) (by decide +kernel) (Or.inr rfl) (by decide +kernel)) ?_
  refine gm_sz (gm_p_bin (pc := 32) (i := .iand) (f := gm_and) (by decide +kernel) rfl) ?_
  refine gm_sz (gm_p_stor (pc := 33) (i := .istore_n 0) (sr := 0) (j := 0) (by decide +kernel) rfl (show 1 ≤ _ from Nat.le_of_ble_eq_true rfl) rfl) ?_
  refine gm_sz (gm_p_load (pc := 34) (i := .iload_n 0) (sr := 0) (j := 0) (by decide +kernel) rfl rfl rfl) ?_
  refine gm_sz (gm_p_load (pc := 35) (i := .iload_n 0) (sr := 0) (j := 0) (by decide +kernel) rfl rfl rfl) ?_
  refine gm_sz (gm_p_const (pc := 36) (i := .bipush 8) (v := gm_vi 8) (by decide +kernel) (by decide +kernel)) ?_
  refine gm_sz (gm_p_bin (pc := 38) (i := .iushr) (f := gm_ushr) (by decide +kernel) rfl) ?_
  refine gm_sz (gm_p_bin (pc := 39) (i := .iadd) (f := fun x y => x + y) (by decide +kernel) rfl) ?_
  refine gm_sz (gm_p_stor (pc := 40) (i := .istore_n 0) (sr := 0) (j := 0) (by decide +kernel) rfl (show 1 ≤ _ from Nat.le_of_ble_eq_true rfl) rfl) ?_
  refine gm_sz (gm_p_load (pc := 41) (i := .iload_n 0) (sr := 0) (j := 0) (by decide +kernel) rfl rfl rfl) ?_
  refine gm_sz (gm_p_load (pc := 42) (i := .iload_n 0) (sr := 0) (j := 0) (by decide +kernel) rfl rfl rfl) ?_
  refine gm_sz (gm_p_const (pc := 43) (i := .bipush 16) (v := gm_vi 16) (by decide +kernel) (by decide +kernel)) ?_
  refine gm_sz (gm_p_bin (pc := 45) (i := .iushr) (f := gm_ushr) (by decide +kernel) rfl) ?_
  refine gm_sz (gm_p_bin (pc := 46) (i := .iadd) (f := fun x y => x + y) (by decide +kernel) rfl) ?_
  refine gm_sz (gm_p_stor (pc := 47) (i := .istore_n 0) (sr := 0) (j := 0) (by decide +kernel) rfl (show 1 ≤ _ from Nat.le_of_ble_eq_true rfl) rfl) ?_
  refine gm_sz (gm_p_load (pc := 48) (i := .iload_n 0) (sr := 0) (j := 0) (by decide +kernel) rfl rfl rfl) ?_
  refine gm_sz (gm_p_const (pc := 49) (i := .bipush 63) (v := gm_vi 63) (by decide +kernel) (by decide +kernel)) ?_
  refine gm_sz (gm_p_bin (pc := 51) (i := .iand) (f := gm_and) (by decide +kernel) rfl) ?_
  exact gm_r_int (pc := 52) (by decide +kernel) (Or.inl (by decide +kernel)) hq
theorem al_j (hd : 6 ≤ d) (hE : E0 n K R) (hT : TI N h sp M) (hN : NR N) (hir : irN N) (q1 : ALL N c → Q (.inl (some (gm_vi 1))) n K R M) (q0 : ¬ ALL N c → Q (.inl (some (gm_vi 0))) n K R M) {ii : Nat} (hii : (ii : Int) < N 6) (kn : ∀ z : gm_V, (∀ j : Int, (ii : Int) < j → j < N 6 → apt N (ii : Int) j c = 1) → gm_Wp X LX d bc bs 50 52 [some (gm_vr 1), some (gm_vi c), some (gm_vi (ii : Int)), some z] [] n K R M Q) : ∀ (u k : Nat), (k : Int) + (u : Int) = N 6 → (ii : Int) < (k : Int) → (∀ j : Int, (ii : Int) < j → j < (k : Int) → apt N (ii : Int) j c = 1) → gm_Wp X LX d bc bs 50 20 [some (gm_vr 1), some (gm_vi c), some (gm_vi (ii : Int)), some (gm_vi (k : Int))] [] n K R M Q := by
  obtain ⟨⟨⟨a0, b0⟩, ⟨a1, b1⟩, ⟨a10, b10⟩, ⟨a11, b11⟩, ⟨a12, b12⟩, a9, b9⟩, ⟨⟨a2, b2⟩, ⟨a5, b5⟩, ⟨a3, b3⟩, ⟨a4, b4⟩, ⟨a6, b6⟩, ⟨a14, b14⟩, ⟨a7, b7⟩, a13, b13⟩, rF, rP, rL⟩ := id hN
  intro u
  induction u with
  | zero =>
    intro k hk hik hp
    refine gm_sz (gm_p_load (pc := 20) (i := .iload_n 3) (sr := 0) (j := 3) (by decide +kernel) rfl rfl rfl) ?_
    refine gm_sz (gm_p_load (pc := 21) (i := .aload_n 0) (sr := 2) (j := 0) (by decide +kernel) rfl rfl rfl) ?_
    refine gm_sz (fw_gr (pc := 22) (ix := 23) (ci := 0) (j := 3) (r := 3) (by decide +kernel) (e0k hE (k := 1) (c := 0) (by decide +kernel)) (by decide +kernel) (by decide +kernel) (e0r hE (k := 1) (j := 3) (r := 3) (by decide +kernel))) ?_
    refine gm_sz (fw_gr (pc := 25) (ix := 344) (ci := 1) (j := 13) (r := 12) (by decide +kernel) (e0k hE (k := 3) (c := 1) (by decide +kernel)) (by decide +kernel) (by decide +kernel) (e0r hE (k := 3) (j := 13) (r := 12) (by decide +kernel))) ?_
    refine gm_c_virt (k := 12) (ci := 2) (mj := 9) (ix := 277) (pc := 28) (as := []) (st := [gm_vi (k : Int)]) (d' := d - 1) (bc' := 0) (bs' := 0) (by decide +kernel) (by decide +kernel) (by decide +kernel) (by decide +kernel) (e0k hE (k := 12) (c := 2) (by decide +kernel)).1 (e0k hE (k := 12) (c := 2) (by decide +kernel)).2 (by decide) (by decide +kernel) (show 0 = gm_na 9 by decide +kernel) fw_c0 (show 1 ≤ gm_ml 9 by decide +kernel) (Nat.le_of_ble_eq_true rfl) (by omega) (Nat.zero_le _) (Nat.zero_le _) ?_
    refine rw_size (s := N 6) (e0k hE (k := 12) (c := 2) (by decide +kernel)) (ti_tab hT) ?_
    show gm_Wp X LX d _ _ 50 31 _ [gm_vi (N 6), gm_vi (k : Int)] n K _ _ Q
    refine fw_ict (cc := .ge) (pc := 31) (off := 21) (by decide +kernel) (by decide) ⟨by omega, by omega⟩ ⟨by omega, by omega⟩ (show (N 6) ≤ (k : Int) by omega) ?_
    exact kn _ (fun j j0 j1 => hp j j0 (by omega))
  | succ u ih =>
    intro k hk hik hp
    refine gm_sz (gm_p_load (pc := 20) (i := .iload_n 3) (sr := 0) (j := 3) (by decide +kernel) rfl rfl rfl) ?_
    refine gm_sz (gm_p_load (pc := 21) (i := .aload_n 0) (sr := 2) (j := 0) (by decide +kernel) rfl rfl rfl) ?_
    refine gm_sz (fw_gr (pc := 22) (ix := 23) (ci := 0) (j := 3) (r := 3) (by decide +kernel) (e0k hE (k := 1) (c := 0) (by decide +kernel)) (by decide +kernel) (by decide +kernel) (e0r hE (k := 1) (j := 3) (r := 3) (by decide +kernel))) ?_
    refine gm_sz (fw_gr (pc := 25) (ix := 344) (ci := 1) (j := 13) (r := 12) (by decide +kernel) (e0k hE (k := 3) (c := 1) (by decide +kernel)) (by decide +kernel) (by decide +kernel) (e0r hE (k := 3) (j := 13) (r := 12) (by decide +kernel))) ?_
    refine gm_c_virt (k := 12) (ci := 2) (mj := 9) (ix := 277) (pc := 28) (as := []) (st := [gm_vi (k : Int)]) (d' := d - 1) (bc' := 0) (bs' := 0) (by decide +kernel) (by decide +kernel) (by decide +kernel) (by decide +kernel) (e0k hE (k := 12) (c := 2) (by decide +kernel)).1 (e0k hE (k := 12) (c := 2) (by decide +kernel)).2 (by decide) (by decide +kernel) (show 0 = gm_na 9 by decide +kernel) fw_c0 (show 1 ≤ gm_ml 9 by decide +kernel) (Nat.le_of_ble_eq_true rfl) (by omega) (Nat.zero_le _) (Nat.zero_le _) ?_
    refine rw_size (s := N 6) (e0k hE (k := 12) (c := 2) (by decide +kernel)) (ti_tab hT) ?_
    show gm_Wp X LX d _ _ 50 31 _ [gm_vi (N 6), gm_vi (k : Int)] n K _ _ Q
    refine fw_icf (cc := .ge) (pc := 31) (off := 21) (by decide +kernel) (by decide) ⟨by omega, by omega⟩ ⟨by omega, by omega⟩ (show ¬ (N 6) ≤ (k : Int) by omega) ?_
    refine gm_sz (gm_p_load (pc := 34) (i := .aload_n 0) (sr := 2) (j := 0) (by decide +kernel) rfl rfl rfl) ?_
    refine gm_sz (gm_p_load (pc := 35) (i := .iload_n 2) (sr := 0) (j := 2) (by decide +kernel) rfl rfl rfl) ?_
    refine gm_sz (gm_p_load (pc := 36) (i := .iload_n 3) (sr := 0) (j := 3) (by decide +kernel) rfl rfl rfl) ?_
    refine gm_sz (gm_p_load (pc := 37) (i := .iload_n 1) (sr := 0) (j := 1) (by decide +kernel) rfl rfl rfl) ?_
    refine gm_c_virt (k := 1) (ci := 0) (mj := 51) (ix := 347) (pc := 38) (as := [gm_vi (ii : Int), gm_vi (k : Int), gm_vi c]) (st := []) (d' := d - 1) (bc' := 0) (bs' := 0) (by decide +kernel) (by decide +kernel) (by decide +kernel) (by decide +kernel) (e0k hE (k := 1) (c := 0) (by decide +kernel)).1 (e0k hE (k := 1) (c := 0) (by decide +kernel)).2 (by decide) (by decide +kernel) (show 3 = gm_na 51 by decide +kernel) (fw_c3 fw_si fw_si fw_si) (show 4 ≤ gm_ml 51 by decide +kernel) (Nat.le_of_ble_eq_true rfl) (by omega) (Nat.zero_le _) (Nat.zero_le _) ?_
    refine ta_51 (a := (ii : Int)) (b := (k : Int)) (c := c) (by omega) hE hT hN ⟨by omega, by omega⟩ ⟨by omega, by omega⟩ hir ?_
    show gm_Wp X LX d _ _ 50 41 _ [gm_vi (apt N (ii : Int) (k : Int) c)] n K _ _ Q
    have a01 := apt_01 (N := N) (a := (ii : Int)) (b := (k : Int)) (c := c)
    refine fw_if (cc := .ne) (pc := 41) (off := 5) (by decide +kernel) (by decide) ⟨by omega, by omega⟩ (fun h41 => ?_) (fun h41 => ?_)
    · have h41 : ¬ (apt N (ii : Int) (k : Int) c) = 0 := h41
      refine gm_sz (gm_p_iinc (pc := 46) (j := 3) (z := 1) (by decide +kernel) rfl) ?_
      refine gm_sz (gm_p_goto (pc := 49) (off := (-29)) (by decide +kernel) (by decide)) ?_
      have hp2 : ∀ j : Int, (ii : Int) < j → j < ((k + 1 : Nat) : Int) → apt N (ii : Int) j c = 1 := fun j j0 j1 => by
        by_cases e : j = (k : Int)
        · subst e; omega
        · exact hp j j0 (by omega)
      have h9 := ih (k + 1) (by omega) (by omega) hp2
      rw [show ((k + 1 : Nat) : Int) = (k : Int) + 1 by omega] at h9
      exact h9
    · have h41 : (apt N (ii : Int) (k : Int) c) = 0 := Classical.not_not.mp h41
      refine gm_sz (gm_p_const (pc := 44) (i := .iconst 0) (v := gm_vi 0) (by decide +kernel) (by decide +kernel)) ?_
      exact gm_r_int (pc := 45) (by decide +kernel) (Or.inr ⟨(by decide +kernel), Or.inl rfl⟩) (q0 (fun hh => by have := hh (ii : Int) (k : Int) (by omega) hik (by omega); omega))
theorem al_i (hd : 6 ≤ d) (hE : E0 n K R) (hT : TI N h sp M) (hN : NR N) (hir : irN N) (q1 : ALL N c → Q (.inl (some (gm_vi 1))) n K R M) (q0 : ¬ ALL N c → Q (.inl (some (gm_vi 0))) n K R M) : ∀ (u k : Nat) (z : Option gm_V), (k : Int) + (u : Int) = N 6 → (∀ i j : Int, 0 ≤ i → i < (k : Int) → i < j → j < N 6 → apt N i j c = 1) → gm_Wp X LX d bc bs 50 2 [some (gm_vr 1), some (gm_vi c), some (gm_vi (k : Int)), z] [] n K R M Q := by
  obtain ⟨⟨⟨a0, b0⟩, ⟨a1, b1⟩, ⟨a10, b10⟩, ⟨a11, b11⟩, ⟨a12, b12⟩, a9, b9⟩, ⟨⟨a2, b2⟩, ⟨a5, b5⟩, ⟨a3, b3⟩, ⟨a4, b4⟩, ⟨a6, b6⟩, ⟨a14, b14⟩, ⟨a7, b7⟩, a13, b13⟩, rF, rP, rL⟩ := id hN
  intro u
  induction u with
  | zero =>
    intro k z hk hp
    refine gm_sz (gm_p_load (pc := 2) (i := .iload_n 2) (sr := 0) (j := 2) (by decide +kernel) rfl rfl rfl) ?_
    refine gm_sz (gm_p_load (pc := 3) (i := .aload_n 0) (sr := 2) (j := 0) (by decide +kernel) rfl rfl rfl) ?_
    refine gm_sz (fw_gr (pc := 4) (ix := 23) (ci := 0) (j := 3) (r := 3) (by decide +kernel) (e0k hE (k := 1) (c := 0) (by decide +kernel)) (by decide +kernel) (by decide +kernel) (e0r hE (k := 1) (j := 3) (r := 3) (by decide +kernel))) ?_
    refine gm_sz (fw_gr (pc := 7) (ix := 344) (ci := 1) (j := 13) (r := 12) (by decide +kernel) (e0k hE (k := 3) (c := 1) (by decide +kernel)) (by decide +kernel) (by decide +kernel) (e0r hE (k := 3) (j := 13) (r := 12) (by decide +kernel))) ?_
    refine gm_c_virt (k := 12) (ci := 2) (mj := 9) (ix := 277) (pc := 10) (as := []) (st := [gm_vi (k : Int)]) (d' := d - 1) (bc' := 0) (bs' := 0) (by decide +kernel) (by decide +kernel) (by decide +kernel) (by decide +kernel) (e0k hE (k := 12) (c := 2) (by decide +kernel)).1 (e0k hE (k := 12) (c := 2) (by decide +kernel)).2 (by decide) (by decide +kernel) (show 0 = gm_na 9 by decide +kernel) fw_c0 (show 1 ≤ gm_ml 9 by decide +kernel) (Nat.le_of_ble_eq_true rfl) (by omega) (Nat.zero_le _) (Nat.zero_le _) ?_
    refine rw_size (s := N 6) (e0k hE (k := 12) (c := 2) (by decide +kernel)) (ti_tab hT) ?_
    show gm_Wp X LX d _ _ 50 13 _ [gm_vi (N 6), gm_vi (k : Int)] n K _ _ Q
    refine fw_ict (cc := .ge) (pc := 13) (off := 45) (by decide +kernel) (by decide) ⟨by omega, by omega⟩ ⟨by omega, by omega⟩ (show (N 6) ≤ (k : Int) by omega) ?_
    refine gm_sz (gm_p_const (pc := 58) (i := .iconst 1) (v := gm_vi 1) (by decide +kernel) (by decide +kernel)) ?_
    exact gm_r_int (pc := 59) (by decide +kernel) (Or.inr ⟨(by decide +kernel), Or.inr rfl⟩) (q1 (fun i j i0 i1 j1 => hp i j i0 (by omega) i1 j1))
  | succ u ih =>
    intro k z hk hp
    refine gm_sz (gm_p_load (pc := 2) (i := .iload_n 2) (sr := 0) (j := 2) (by decide +kernel) rfl rfl rfl) ?_
    refine gm_sz (gm_p_load (pc := 3) (i := .aload_n 0) (sr := 2) (j := 0) (by decide +kernel) rfl rfl rfl) ?_
    refine gm_sz (fw_gr (pc := 4) (ix := 23) (ci := 0) (j := 3) (r := 3) (by decide +kernel) (e0k hE (k := 1) (c := 0) (by decide +kernel)) (by decide +kernel) (by decide +kernel) (e0r hE (k := 1) (j := 3) (r := 3) (by decide +kernel))) ?_
    refine gm_sz (fw_gr (pc := 7) (ix := 344) (ci := 1) (j := 13) (r := 12) (by decide +kernel) (e0k hE (k := 3) (c := 1) (by decide +kernel)) (by decide +kernel) (by decide +kernel) (e0r hE (k := 3) (j := 13) (r := 12) (by decide +kernel))) ?_
    refine gm_c_virt (k := 12) (ci := 2) (mj := 9) (ix := 277) (pc := 10) (as := []) (st := [gm_vi (k : Int)]) (d' := d - 1) (bc' := 0) (bs' := 0) (by decide +kernel) (by decide +kernel) (by decide +kernel) (by decide +kernel) (e0k hE (k := 12) (c := 2) (by decide +kernel)).1 (e0k hE (k := 12) (c := 2) (by decide +kernel)).2 (by decide) (by decide +kernel) (show 0 = gm_na 9 by decide +kernel) fw_c0 (show 1 ≤ gm_ml 9 by decide +kernel) (Nat.le_of_ble_eq_true rfl) (by omega) (Nat.zero_le _) (Nat.zero_le _) ?_
    refine rw_size (s := N 6) (e0k hE (k := 12) (c := 2) (by decide +kernel)) (ti_tab hT) ?_
    show gm_Wp X LX d _ _ 50 13 _ [gm_vi (N 6), gm_vi (k : Int)] n K _ _ Q
    refine fw_icf (cc := .ge) (pc := 13) (off := 45) (by decide +kernel) (by decide) ⟨by omega, by omega⟩ ⟨by omega, by omega⟩ (show ¬ (N 6) ≤ (k : Int) by omega) ?_
    refine gm_sz (gm_p_load (pc := 16) (i := .iload_n 2) (sr := 0) (j := 2) (by decide +kernel) rfl rfl rfl) ?_
    refine gm_sz (gm_p_const (pc := 17) (i := .iconst 1) (v := gm_vi 1) (by decide +kernel) (by decide +kernel)) ?_
    refine gm_sz (gm_p_bin (pc := 18) (i := .iadd) (f := fun x y => x + y) (by decide +kernel) rfl) ?_
    refine gm_sz (gm_p_stor (pc := 19) (i := .istore_n 3) (sr := 0) (j := 3) (by decide +kernel) rfl (show 4 ≤ _ from Nat.le_of_ble_eq_true rfl) rfl) ?_
    have h8 := al_j (X := X) (LX := LX) (d := d) (bc := bc) (bs := bs) (c := c) (ii := k) (Q := Q) hd hE hT hN hir q1 q0 (by omega) (fun z2 hz2 => by
      refine gm_sz (gm_p_iinc (pc := 52) (j := 2) (z := 1) (by decide +kernel) rfl) ?_
      refine gm_sz (gm_p_goto (pc := 55) (off := (-53)) (by decide +kernel) (by decide)) ?_
      have hp2 : ∀ i j : Int, 0 ≤ i → i < ((k + 1 : Nat) : Int) → i < j → j < N 6 → apt N i j c = 1 := fun i j i0 i1 j0 j1 => by
        by_cases e : i = (k : Int)
        · subst e; exact hz2 j j0 j1
        · exact hp i j i0 (by omega) j0 j1
      have h9 := ih (k + 1) (some z2) (by omega) hp2
      rw [show ((k + 1 : Nat) : Int) = (k : Int) + 1 by omega] at h9
      exact h9) (N 6 - ((k : Int) + 1)).toNat (k + 1) (by omega) (by omega) (fun j j0 j1 => by omega)
    rw [show ((k + 1 : Nat) : Int) = (k : Int) + 1 by omega] at h8
    exact h8
theorem al_50 (hd : 6 ≤ d) (hE : E0 n K R) (hT : TI N h sp M) (hN : NR N) (hir : irN N) (q1 : ALL N c → Q (.inl (some (gm_vi 1))) n K R M) (q0 : ¬ ALL N c → Q (.inl (some (gm_vi 0))) n K R M) : gm_Wp X LX d bc bs 50 0 (gm_ent 50 [gm_vr 1, gm_vi c]) [] n K R M Q := by
  obtain ⟨⟨⟨a0, b0⟩, ⟨a1, b1⟩, ⟨a10, b10⟩, ⟨a11, b11⟩, ⟨a12, b12⟩, a9, b9⟩, ⟨⟨a2, b2⟩, ⟨a5, b5⟩, ⟨a3, b3⟩, ⟨a4, b4⟩, ⟨a6, b6⟩, ⟨a14, b14⟩, ⟨a7, b7⟩, a13, b13⟩, rF, rP, rL⟩ := id hN
  refine gm_sz (gm_p_const (pc := 0) (i := .iconst 0) (v := gm_vi 0) (by decide +kernel) (by decide +kernel)) ?_
  refine gm_sz (gm_p_stor (pc := 1) (i := .istore_n 2) (sr := 0) (j := 2) (by decide +kernel) rfl (show 3 ≤ _ from Nat.le_of_ble_eq_true rfl) rfl) ?_
  exact al_i hd hE hT hN hir q1 q0 (N 6).toNat 0 _ (by omega) (fun i j i0 i1 => by omega)
theorem po_c (hd : 8 ≤ d) (hE : E0 n K R) (hT : TI N h sp M) (hN : NR N) (hir : irN N) (hl6 : 0 ≤ N 0 ∧ N 0 ≤ 6) (hq : Q (.inl (some (gm_vi (plf N (gm_shl 1 (N 0)).toNat)))) n K R M) : ∀ (u k : Nat) (z : Option gm_V), (k : Int) + (u : Int) = gm_shl 1 (N 0) → gm_Wp X LX d bc bs 48 4 [some (gm_vr 1), some (gm_vi (plf N k)), some (gm_vi (k : Int)), z] [] n K R M Q := by
  obtain ⟨⟨⟨a0, b0⟩, ⟨a1, b1⟩, ⟨a10, b10⟩, ⟨a11, b11⟩, ⟨a12, b12⟩, a9, b9⟩, ⟨⟨a2, b2⟩, ⟨a5, b5⟩, ⟨a3, b3⟩, ⟨a4, b4⟩, ⟨a6, b6⟩, ⟨a14, b14⟩, ⟨a7, b7⟩, a13, b13⟩, rF, rP, rL⟩ := id hN
  have sh9 := shl_6 hl6.1 hl6.2
  intro u
  induction u with
  | zero =>
    intro k z hk
    have ek : k = (gm_shl 1 (N 0)).toNat := by omega
    refine gm_sz (gm_p_load (pc := 4) (i := .iload_n 2) (sr := 0) (j := 2) (by decide +kernel) rfl rfl rfl) ?_
    refine gm_sz (gm_p_const (pc := 5) (i := .iconst 1) (v := gm_vi 1) (by decide +kernel) (by decide +kernel)) ?_
    refine gm_sz (gm_p_load (pc := 6) (i := .aload_n 0) (sr := 2) (j := 0) (by decide +kernel) rfl rfl rfl) ?_
    refine gm_sz (fw_gr (pc := 7) (ix := 23) (ci := 0) (j := 3) (r := 3) (by decide +kernel) (e0k hE (k := 1) (c := 0) (by decide +kernel)) (by decide +kernel) (by decide +kernel) (e0r hE (k := 1) (j := 3) (r := 3) (by decide +kernel))) ?_
    refine gm_sz (fw_gi (pc := 10) (ix := 351) (ci := 1) (j := 0) (x := N 0) (by decide +kernel) (e0k hE (k := 3) (c := 1) (by decide +kernel)) (by decide +kernel) (by decide +kernel) (ti_lan hT)) ?_
    refine gm_sz (gm_p_bin (pc := 13) (i := .ishl) (f := gm_shl) (by decide +kernel) rfl) ?_
    refine fw_ict (cc := .ge) (pc := 14) (off := 45) (by decide +kernel) (by decide) ⟨by omega, by omega⟩ ⟨by omega, by omega⟩ (show (gm_shl 1 (N 0)) ≤ (k : Int) by omega) ?_
    refine gm_sz (gm_p_load (pc := 59) (i := .iload_n 1) (sr := 0) (j := 1) (by decide +kernel) rfl rfl rfl) ?_
    rw [ek]
    exact gm_r_int (pc := 60) (by decide +kernel) (Or.inl (by decide +kernel)) hq
  | succ u ih =>
    intro k z hk
    have pb9 := plf_b (N := N) k
    refine gm_sz (gm_p_load (pc := 4) (i := .iload_n 2) (sr := 0) (j := 2) (by decide +kernel) rfl rfl rfl) ?_
    refine gm_sz (gm_p_const (pc := 5) (i := .iconst 1) (v := gm_vi 1) (by decide +kernel) (by decide +kernel)) ?_
    refine gm_sz (gm_p_load (pc := 6) (i := .aload_n 0) (sr := 2) (j := 0) (by decide +kernel) rfl rfl rfl) ?_
    refine gm_sz (fw_gr (pc := 7) (ix := 23) (ci := 0) (j := 3) (r := 3) (by decide +kernel) (e0k hE (k := 1) (c := 0) (by decide +kernel)) (by decide +kernel) (by decide +kernel) (e0r hE (k := 1) (j := 3) (r := 3) (by decide +kernel))) ?_
    refine gm_sz (fw_gi (pc := 10) (ix := 351) (ci := 1) (j := 0) (x := N 0) (by decide +kernel) (e0k hE (k := 3) (c := 1) (by decide +kernel)) (by decide +kernel) (by decide +kernel) (ti_lan hT)) ?_
    refine gm_sz (gm_p_bin (pc := 13) (i := .ishl) (f := gm_shl) (by decide +kernel) rfl) ?_
    refine fw_icf (cc := .ge) (pc := 14) (off := 45) (by decide +kernel) (by decide) ⟨by omega, by omega⟩ ⟨by omega, by omega⟩ (show ¬ (gm_shl 1 (N 0)) ≤ (k : Int) by omega) ?_
    refine gm_sz (gm_p_load (pc := 17) (i := .iload_n 1) (sr := 0) (j := 1) (by decide +kernel) rfl rfl rfl) ?_
    refine gm_sz (gm_p_const (pc := 18) (i := .iconst (-1)) (v := gm_vi (-1)) (by decide +kernel) (by decide +kernel)) ?_
    refine fw_ic (cc := .eq) (pc := 19) (off := 14) (by decide +kernel) (by decide) ⟨by omega, by omega⟩ ⟨by decide, by decide⟩ (fun h19 => ?_) (fun h19 => ?_)
    · have h19 : (plf N k) = (-1) := h19
      refine gm_sz (gm_p_const (pc := 33) (i := .iconst 1) (v := gm_vi 1) (by decide +kernel) (by decide +kernel)) ?_
      refine gm_sz (gm_p_goto (pc := 34) (off := 4) (by decide +kernel) (by decide)) ?_
      refine gm_sz (gm_p_stor (pc := 38) (i := .istore_n 3) (sr := 0) (j := 3) (by decide +kernel) rfl (show 4 ≤ _ from Nat.le_of_ble_eq_true rfl) rfl) ?_
      refine gm_sz (gm_p_load (pc := 39) (i := .iload_n 3) (sr := 0) (j := 3) (by decide +kernel) rfl rfl rfl) ?_
      refine fw_iffd (cc := .eq) (pc := 40) (off := 13) (by decide +kernel) (by decide) ⟨by decide, by decide⟩ (by decide) ?_
      refine gm_sz (gm_p_load (pc := 43) (i := .aload_n 0) (sr := 2) (j := 0) (by decide +kernel) rfl rfl rfl) ?_
      refine gm_sz (gm_p_load (pc := 44) (i := .iload_n 2) (sr := 0) (j := 2) (by decide +kernel) rfl rfl rfl) ?_
      refine gm_c_virt (k := 1) (ci := 0) (mj := 50) (ix := 359) (pc := 45) (as := [gm_vi (k : Int)]) (st := []) (d' := d - 1) (bc' := 0) (bs' := 0) (by decide +kernel) (by decide +kernel) (by decide +kernel) (by decide +kernel) (e0k hE (k := 1) (c := 0) (by decide +kernel)).1 (e0k hE (k := 1) (c := 0) (by decide +kernel)).2 (by decide) (by decide +kernel) (show 1 = gm_na 50 by decide +kernel) (fw_c1 fw_si) (show 2 ≤ gm_ml 50 by decide +kernel) (Nat.le_of_ble_eq_true rfl) (by omega) (Nat.zero_le _) (Nat.zero_le _) ?_
      refine al_50 (c := (k : Int)) (by omega) hE hT hN hir (fun w1 => ?_) (fun w1 => ?_)
      · show gm_Wp X LX d _ _ 48 48 _ [gm_vi 1] n K _ _ Q
        have w1 : ALL N (k : Int) := w1
        refine fw_iffd (cc := .eq) (pc := 48) (off := 5) (by decide +kernel) (by decide) ⟨by decide, by decide⟩ (by decide) ?_
        refine gm_sz (gm_p_load (pc := 51) (i := .iload_n 2) (sr := 0) (j := 2) (by decide +kernel) rfl rfl rfl) ?_
        refine gm_sz (gm_p_stor (pc := 52) (i := .istore_n 1) (sr := 0) (j := 1) (by decide +kernel) rfl (show 2 ≤ _ from Nat.le_of_ble_eq_true rfl) rfl) ?_
        refine gm_sz (gm_p_iinc (pc := 53) (j := 2) (z := 1) (by decide +kernel) rfl) ?_
        refine gm_sz (gm_p_goto (pc := 56) (off := (-52)) (by decide +kernel) (by decide)) ?_
        have e9 : plf N (k + 1) = (k : Int) := if_pos ⟨by omega, w1⟩
        have h9 := ih (k + 1) (some (gm_vi 1)) (by omega)
        rw [e9, show ((k + 1 : Nat) : Int) = (k : Int) + 1 by omega] at h9
        exact h9
      · show gm_Wp X LX d _ _ 48 48 _ [gm_vi 0] n K _ _ Q
        have w1 : ¬ ALL N (k : Int) := w1
        refine fw_iftd (cc := .eq) (pc := 48) (off := 5) (by decide +kernel) (by decide) ⟨by decide, by decide⟩ (by decide) ?_
        refine gm_sz (gm_p_iinc (pc := 53) (j := 2) (z := 1) (by decide +kernel) rfl) ?_
        refine gm_sz (gm_p_goto (pc := 56) (off := (-52)) (by decide +kernel) (by decide)) ?_
        have e9 : plf N (k + 1) = plf N k := if_neg (fun hh => w1 hh.2)
        have h9 := ih (k + 1) (some (gm_vi 1)) (by omega)
        rw [e9, show ((k + 1 : Nat) : Int) = (k : Int) + 1 by omega] at h9
        exact h9
    · have h19 : ¬ (plf N k) = (-1) := h19
      refine gm_sz (gm_p_load (pc := 22) (i := .iload_n 2) (sr := 0) (j := 2) (by decide +kernel) rfl rfl rfl) ?_
      refine gm_c_stat (mj := 49) (ix := 354) (pc := 23) (as := [gm_vi (k : Int)]) (st := []) (d' := d - 1) (bc' := 0) (bs' := 0) (by decide +kernel) (by decide +kernel) (by decide +kernel) (by decide +kernel) (show 1 = gm_na 49 by decide +kernel) (fw_c1 fw_si) (show 1 ≤ gm_ml 49 by decide +kernel) (Nat.le_of_ble_eq_true rfl) (by omega) (Nat.zero_le _) (Nat.zero_le _) ?_
      refine bc_49 (x := (k : Int)) ?_
      show gm_Wp X LX d _ _ 48 26 _ [gm_vi (btc (k : Int))] n K _ _ Q
      refine gm_sz (gm_p_load (pc := 26) (i := .iload_n 1) (sr := 0) (j := 1) (by decide +kernel) rfl rfl rfl) ?_
      refine gm_c_stat (mj := 49) (ix := 354) (pc := 27) (as := [gm_vi (plf N k)]) (st := [gm_vi (btc (k : Int))]) (d' := d - 1) (bc' := 0) (bs' := 0) (by decide +kernel) (by decide +kernel) (by decide +kernel) (by decide +kernel) (show 1 = gm_na 49 by decide +kernel) (fw_c1 fw_si) (show 1 ≤ gm_ml 49 by decide +kernel) (Nat.le_of_ble_eq_true rfl) (by omega) (Nat.zero_le _) (Nat.zero_le _) ?_
      refine bc_49 (x := (plf N k)) ?_
      show gm_Wp X LX d _ _ 48 30 _ [gm_vi (btc (plf N k)), gm_vi (btc (k : Int))] n K _ _ Q
      refine fw_ic (cc := .ge) (pc := 30) (off := 7) (by decide +kernel) (by decide) (show gm_ir (btc _) from and_ir9) (show gm_ir (btc _) from and_ir9) (fun h30 => ?_) (fun h30 => ?_)
      · have h30 : (btc (plf N k)) ≤ (btc (k : Int)) := h30
        refine gm_sz (gm_p_const (pc := 37) (i := .iconst 0) (v := gm_vi 0) (by decide +kernel) (by decide +kernel)) ?_
        refine gm_sz (gm_p_stor (pc := 38) (i := .istore_n 3) (sr := 0) (j := 3) (by decide +kernel) rfl (show 4 ≤ _ from Nat.le_of_ble_eq_true rfl) rfl) ?_
        refine gm_sz (gm_p_load (pc := 39) (i := .iload_n 3) (sr := 0) (j := 3) (by decide +kernel) rfl rfl rfl) ?_
        refine fw_iftd (cc := .eq) (pc := 40) (off := 13) (by decide +kernel) (by decide) ⟨by decide, by decide⟩ (by decide) ?_
        refine gm_sz (gm_p_iinc (pc := 53) (j := 2) (z := 1) (by decide +kernel) rfl) ?_
        refine gm_sz (gm_p_goto (pc := 56) (off := (-52)) (by decide +kernel) (by decide)) ?_
        have e9 : plf N (k + 1) = plf N k := if_neg (fun hh => by have := hh.1; omega)
        have h9 := ih (k + 1) (some (gm_vi 0)) (by omega)
        rw [e9, show ((k + 1 : Nat) : Int) = (k : Int) + 1 by omega] at h9
        exact h9
      · have h30 : ¬ (btc (plf N k)) ≤ (btc (k : Int)) := h30
        refine gm_sz (gm_p_const (pc := 33) (i := .iconst 1) (v := gm_vi 1) (by decide +kernel) (by decide +kernel)) ?_
        refine gm_sz (gm_p_goto (pc := 34) (off := 4) (by decide +kernel) (by decide)) ?_
        refine gm_sz (gm_p_stor (pc := 38) (i := .istore_n 3) (sr := 0) (j := 3) (by decide +kernel) rfl (show 4 ≤ _ from Nat.le_of_ble_eq_true rfl) rfl) ?_
        refine gm_sz (gm_p_load (pc := 39) (i := .iload_n 3) (sr := 0) (j := 3) (by decide +kernel) rfl rfl rfl) ?_
        refine fw_iffd (cc := .eq) (pc := 40) (off := 13) (by decide +kernel) (by decide) ⟨by decide, by decide⟩ (by decide) ?_
        refine gm_sz (gm_p_load (pc := 43) (i := .aload_n 0) (sr := 2) (j := 0) (by decide +kernel) rfl rfl rfl) ?_
        refine gm_sz (gm_p_load (pc := 44) (i := .iload_n 2) (sr := 0) (j := 2) (by decide +kernel) rfl rfl rfl) ?_
        refine gm_c_virt (k := 1) (ci := 0) (mj := 50) (ix := 359) (pc := 45) (as := [gm_vi (k : Int)]) (st := []) (d' := d - 1) (bc' := 0) (bs' := 0) (by decide +kernel) (by decide +kernel) (by decide +kernel) (by decide +kernel) (e0k hE (k := 1) (c := 0) (by decide +kernel)).1 (e0k hE (k := 1) (c := 0) (by decide +kernel)).2 (by decide) (by decide +kernel) (show 1 = gm_na 50 by decide +kernel) (fw_c1 fw_si) (show 2 ≤ gm_ml 50 by decide +kernel) (Nat.le_of_ble_eq_true rfl) (by omega) (Nat.zero_le _) (Nat.zero_le _) ?_
        refine al_50 (c := (k : Int)) (by omega) hE hT hN hir (fun w1 => ?_) (fun w1 => ?_)
        · show gm_Wp X LX d _ _ 48 48 _ [gm_vi 1] n K _ _ Q
          have w1 : ALL N (k : Int) := w1
          refine fw_iffd (cc := .eq) (pc := 48) (off := 5) (by decide +kernel) (by decide) ⟨by decide, by decide⟩ (by decide) ?_
          refine gm_sz (gm_p_load (pc := 51) (i := .iload_n 2) (sr := 0) (j := 2) (by decide +kernel) rfl rfl rfl) ?_
          refine gm_sz (gm_p_stor (pc := 52) (i := .istore_n 1) (sr := 0) (j := 1) (by decide +kernel) rfl (show 2 ≤ _ from Nat.le_of_ble_eq_true rfl) rfl) ?_
          refine gm_sz (gm_p_iinc (pc := 53) (j := 2) (z := 1) (by decide +kernel) rfl) ?_
          refine gm_sz (gm_p_goto (pc := 56) (off := (-52)) (by decide +kernel) (by decide)) ?_
          have e9 : plf N (k + 1) = (k : Int) := if_pos ⟨by omega, w1⟩
          have h9 := ih (k + 1) (some (gm_vi 1)) (by omega)
          rw [e9, show ((k + 1 : Nat) : Int) = (k : Int) + 1 by omega] at h9
          exact h9
        · show gm_Wp X LX d _ _ 48 48 _ [gm_vi 0] n K _ _ Q
          have w1 : ¬ ALL N (k : Int) := w1
          refine fw_iftd (cc := .eq) (pc := 48) (off := 5) (by decide +kernel) (by decide) ⟨by decide, by decide⟩ (by decide) ?_
          refine gm_sz (gm_p_iinc (pc := 53) (j := 2) (z := 1) (by decide +kernel) rfl) ?_
          refine gm_sz (gm_p_goto (pc := 56) (off := (-52)) (by decide +kernel) (by decide)) ?_
          have e9 : plf N (k + 1) = plf N k := if_neg (fun hh => w1 hh.2)
          have h9 := ih (k + 1) (some (gm_vi 1)) (by omega)
          rw [e9, show ((k + 1 : Nat) : Int) = (k : Int) + 1 by omega] at h9
          exact h9
theorem cl_poles (hd : 14 ≤ d) (hbc : 4 ≤ bc) (hbs : 24 ≤ bs) (hE : E0 n K R) (hT : TI N h sp M) (hN : NR N) (hir : irN N) (hl6 : 0 ≤ N 0 ∧ N 0 ≤ 6) (hq : Q (.inl (some (gm_vi (plf N (gm_shl 1 (N 0)).toNat)))) n K R M) : gm_Wp X LX d bc bs 48 0 (gm_ent 48 [gm_vr 1]) [] n K R M Q := by
  obtain ⟨⟨⟨a0, b0⟩, ⟨a1, b1⟩, ⟨a10, b10⟩, ⟨a11, b11⟩, ⟨a12, b12⟩, a9, b9⟩, ⟨⟨a2, b2⟩, ⟨a5, b5⟩, ⟨a3, b3⟩, ⟨a4, b4⟩, ⟨a6, b6⟩, ⟨a14, b14⟩, ⟨a7, b7⟩, a13, b13⟩, rF, rP, rL⟩ := id hN
  refine gm_sz (gm_p_const (pc := 0) (i := .iconst (-1)) (v := gm_vi (-1)) (by decide +kernel) (by decide +kernel)) ?_
  refine gm_sz (gm_p_stor (pc := 1) (i := .istore_n 1) (sr := 0) (j := 1) (by decide +kernel) rfl (show 2 ≤ _ from Nat.le_of_ble_eq_true rfl) rfl) ?_
  refine gm_sz (gm_p_const (pc := 2) (i := .iconst 0) (v := gm_vi 0) (by decide +kernel) (by decide +kernel)) ?_
  refine gm_sz (gm_p_stor (pc := 3) (i := .istore_n 2) (sr := 0) (j := 2) (by decide +kernel) rfl (show 3 ≤ _ from Nat.le_of_ble_eq_true rfl) rfl) ?_
  have sh9 := shl_6 hl6.1 hl6.2
  exact po_c (by omega) hE hT hN hir hl6 hq (gm_shl 1 (N 0)).toNat 0 _ (by omega)
theorem pr_j (hd : 6 ≤ d) (hE : E0 n K R) (hT : TR N h M) (hN : NR N) (hir : irN N) {ii : Nat} (hii : (ii : Int) < N 6) (hb : b = 0 ∨ b = 1) (kn : ∀ (x : Int) (z : gm_V), ((x = 1 ∧ b = 1 ∧ ((∀ a2 b2 : Int, 0 ≤ a2 → a2 < b2 → b2 < (ii : Int) → apt N a2 b2 c = 1) ∧ ∀ a2 : Int, 0 ≤ a2 → a2 < (ii : Int) → apt N a2 (ii : Int) c = 1)) ∨ (x = 0 ∧ ¬ (b = 1 ∧ ((∀ a2 b2 : Int, 0 ≤ a2 → a2 < b2 → b2 < (ii : Int) → apt N a2 b2 c = 1) ∧ ∀ a2 : Int, 0 ≤ a2 → a2 < (ii : Int) → apt N a2 (ii : Int) c = 1)))) → gm_Wp X LX d bc bs 347 93 [some (gm_vr 226), some (gm_vi y), some (gm_vi c), some (gm_vi x), some (gm_vi (ii : Int)), some z] [] n K R M Q) : ∀ (u k : Nat) (x : Int), k + u = ii → ((x = 1 ∧ b = 1 ∧ ((∀ a2 b2 : Int, 0 ≤ a2 → a2 < b2 → b2 < (ii : Int) → apt N a2 b2 c = 1) ∧ ∀ a2 : Int, 0 ≤ a2 → a2 < (k : Int) → apt N a2 (ii : Int) c = 1)) ∨ (x = 0 ∧ ¬ (b = 1 ∧ ((∀ a2 b2 : Int, 0 ≤ a2 → a2 < b2 → b2 < (ii : Int) → apt N a2 b2 c = 1) ∧ ∀ a2 : Int, 0 ≤ a2 → a2 < (k : Int) → apt N a2 (ii : Int) c = 1)))) → gm_Wp X LX d bc bs 347 58 [some (gm_vr 226), some (gm_vi y), some (gm_vi c), some (gm_vi x), some (gm_vi (ii : Int)), some (gm_vi (k : Int))] [] n K R M Q := by
  obtain ⟨⟨⟨a0, b0⟩, ⟨a1, b1⟩, ⟨a10, b10⟩, ⟨a11, b11⟩, ⟨a12, b12⟩, a9, b9⟩, ⟨⟨a2, b2⟩, ⟨a5, b5⟩, ⟨a3, b3⟩, ⟨a4, b4⟩, ⟨a6, b6⟩, ⟨a14, b14⟩, ⟨a7, b7⟩, a13, b13⟩, rF, rP, rL⟩ := id hN
  intro u
  induction u with
  | zero =>
    intro k x hk hp
    have ek : k = ii := by omega
    subst ek
    refine gm_sz (gm_p_load (pc := 58) (i := .iload 5) (sr := 0) (j := 5) (by decide +kernel) rfl rfl rfl) ?_
    refine gm_sz (gm_p_load (pc := 60) (i := .iload 4) (sr := 0) (j := 4) (by decide +kernel) rfl rfl rfl) ?_
    refine fw_ict (cc := .ge) (pc := 62) (off := 31) (by decide +kernel) (by decide) ⟨by omega, by omega⟩ ⟨by omega, by omega⟩ (show (k : Int) ≤ (k : Int) by omega) ?_
    exact kn _ _ hp
  | succ u ih =>
    intro k x hk hp
    have x01 : x = 0 ∨ x = 1 := by rcases hp with ⟨h, -⟩ | ⟨h, -⟩ <;> omega
    refine gm_sz (gm_p_load (pc := 58) (i := .iload 5) (sr := 0) (j := 5) (by decide +kernel) rfl rfl rfl) ?_
    refine gm_sz (gm_p_load (pc := 60) (i := .iload 4) (sr := 0) (j := 4) (by decide +kernel) rfl rfl rfl) ?_
    refine fw_icf (cc := .ge) (pc := 62) (off := 31) (by decide +kernel) (by decide) ⟨by omega, by omega⟩ ⟨by omega, by omega⟩ (show ¬ (ii : Int) ≤ (k : Int) by omega) ?_
    refine gm_sz (gm_p_load (pc := 65) (i := .iload_n 3) (sr := 0) (j := 3) (by decide +kernel) rfl rfl rfl) ?_
    refine fw_if (cc := .eq) (pc := 66) (off := 19) (by decide +kernel) (by decide) ⟨by omega, by omega⟩ (fun h66 => ?_) (fun h66 => ?_)
    · have h66 : x = 0 := h66
      refine gm_sz (gm_p_const (pc := 85) (i := .iconst 0) (v := gm_vi 0) (by decide +kernel) (by decide +kernel)) ?_
      refine gm_sz (gm_p_stor (pc := 86) (i := .istore_n 3) (sr := 0) (j := 3) (by decide +kernel) rfl (show 4 ≤ _ from Nat.le_of_ble_eq_true rfl) rfl) ?_
      refine gm_sz (gm_p_iinc (pc := 87) (j := 5) (z := 1) (by decide +kernel) rfl) ?_
      refine gm_sz (gm_p_goto (pc := 90) (off := (-32)) (by decide +kernel) (by decide)) ?_
      have hp2 : (((0 : Int) = 1 ∧ b = 1 ∧ ((∀ a2 b2 : Int, 0 ≤ a2 → a2 < b2 → b2 < (ii : Int) → apt N a2 b2 c = 1) ∧ ∀ a2 : Int, 0 ≤ a2 → a2 < ((k + 1 : Nat) : Int) → apt N a2 (ii : Int) c = 1)) ∨ ((0 : Int) = 0 ∧ ¬ (b = 1 ∧ ((∀ a2 b2 : Int, 0 ≤ a2 → a2 < b2 → b2 < (ii : Int) → apt N a2 b2 c = 1) ∧ ∀ a2 : Int, 0 ≤ a2 → a2 < ((k + 1 : Nat) : Int) → apt N a2 (ii : Int) c = 1)))) := by
        rcases hp with ⟨h1, h2, h3, h4⟩ | ⟨h1, h2⟩
        · refine Or.inr ⟨rfl, fun hh => ?_⟩
          have h5 := hh.2.2 (k : Int) (by omega) (by omega)
          rw [apt_sym] at h5
          omega
        · exact Or.inr ⟨rfl, fun hh => h2 ⟨hh.1, hh.2.1, fun a2 a0 a1 => hh.2.2 a2 a0 (by omega)⟩⟩
      have h9 := ih (k + 1) (0 : Int) (by omega) hp2
      rw [show ((k + 1 : Nat) : Int) = (k : Int) + 1 by omega] at h9
      exact h9
    · have h66 : ¬ x = 0 := h66
      refine gm_sz (gm_p_load (pc := 69) (i := .aload_n 0) (sr := 2) (j := 0) (by decide +kernel) rfl rfl rfl) ?_
      refine gm_sz (gm_p_load (pc := 70) (i := .iload 4) (sr := 0) (j := 4) (by decide +kernel) rfl rfl rfl) ?_
      refine gm_sz (gm_p_load (pc := 72) (i := .iload 5) (sr := 0) (j := 5) (by decide +kernel) rfl rfl rfl) ?_
      refine gm_sz (gm_p_load (pc := 74) (i := .iload_n 2) (sr := 0) (j := 2) (by decide +kernel) rfl rfl rfl) ?_
      refine gm_c_virt (k := 226) (ci := 11) (mj := 345) (ix := 457) (pc := 75) (as := [gm_vi (ii : Int), gm_vi (k : Int), gm_vi c]) (st := []) (d' := d - 1) (bc' := 0) (bs' := 0) (by decide +kernel) (by decide +kernel) (by decide +kernel) (by decide +kernel) (e0k hE (k := 226) (c := 11) (by decide +kernel)).1 (e0k hE (k := 226) (c := 11) (by decide +kernel)).2 (by decide) (by decide +kernel) (show 3 = gm_na 345 by decide +kernel) (fw_c3 fw_si fw_si fw_si) (show 4 ≤ gm_ml 345 by decide +kernel) (Nat.le_of_ble_eq_true rfl) (by omega) (Nat.zero_le _) (Nat.zero_le _) ?_
      refine aa_345 (a := (ii : Int)) (b := (k : Int)) (c := c) (by omega) hE hT hN ⟨by omega, by omega⟩ ⟨by omega, by omega⟩ hir ?_
      show gm_Wp X LX d _ _ 347 78 _ [gm_vi (apt N (ii : Int) (k : Int) c)] n K _ _ Q
      have a01 := apt_01 (N := N) (a := (ii : Int)) (b := (k : Int)) (c := c)
      refine fw_if (cc := .eq) (pc := 78) (off := 7) (by decide +kernel) (by decide) ⟨by omega, by omega⟩ (fun h78 => ?_) (fun h78 => ?_)
      · have h78 : (apt N (ii : Int) (k : Int) c) = 0 := h78
        refine gm_sz (gm_p_const (pc := 85) (i := .iconst 0) (v := gm_vi 0) (by decide +kernel) (by decide +kernel)) ?_
        refine gm_sz (gm_p_stor (pc := 86) (i := .istore_n 3) (sr := 0) (j := 3) (by decide +kernel) rfl (show 4 ≤ _ from Nat.le_of_ble_eq_true rfl) rfl) ?_
        refine gm_sz (gm_p_iinc (pc := 87) (j := 5) (z := 1) (by decide +kernel) rfl) ?_
        refine gm_sz (gm_p_goto (pc := 90) (off := (-32)) (by decide +kernel) (by decide)) ?_
        have hp2 : (((0 : Int) = 1 ∧ b = 1 ∧ ((∀ a2 b2 : Int, 0 ≤ a2 → a2 < b2 → b2 < (ii : Int) → apt N a2 b2 c = 1) ∧ ∀ a2 : Int, 0 ≤ a2 → a2 < ((k + 1 : Nat) : Int) → apt N a2 (ii : Int) c = 1)) ∨ ((0 : Int) = 0 ∧ ¬ (b = 1 ∧ ((∀ a2 b2 : Int, 0 ≤ a2 → a2 < b2 → b2 < (ii : Int) → apt N a2 b2 c = 1) ∧ ∀ a2 : Int, 0 ≤ a2 → a2 < ((k + 1 : Nat) : Int) → apt N a2 (ii : Int) c = 1)))) := by
          rcases hp with ⟨h1, h2, h3, h4⟩ | ⟨h1, h2⟩
          · refine Or.inr ⟨rfl, fun hh => ?_⟩
            have h5 := hh.2.2 (k : Int) (by omega) (by omega)
            rw [apt_sym] at h5
            omega
          · exact Or.inr ⟨rfl, fun hh => h2 ⟨hh.1, hh.2.1, fun a2 a0 a1 => hh.2.2 a2 a0 (by omega)⟩⟩
        have h9 := ih (k + 1) (0 : Int) (by omega) hp2
        rw [show ((k + 1 : Nat) : Int) = (k : Int) + 1 by omega] at h9
        exact h9
      · have h78 : ¬ (apt N (ii : Int) (k : Int) c) = 0 := h78
        refine gm_sz (gm_p_const (pc := 81) (i := .iconst 1) (v := gm_vi 1) (by decide +kernel) (by decide +kernel)) ?_
        refine gm_sz (gm_p_goto (pc := 82) (off := 4) (by decide +kernel) (by decide)) ?_
        refine gm_sz (gm_p_stor (pc := 86) (i := .istore_n 3) (sr := 0) (j := 3) (by decide +kernel) rfl (show 4 ≤ _ from Nat.le_of_ble_eq_true rfl) rfl) ?_
        refine gm_sz (gm_p_iinc (pc := 87) (j := 5) (z := 1) (by decide +kernel) rfl) ?_
        refine gm_sz (gm_p_goto (pc := 90) (off := (-32)) (by decide +kernel) (by decide)) ?_
        have hp2 : (((1 : Int) = 1 ∧ b = 1 ∧ ((∀ a2 b2 : Int, 0 ≤ a2 → a2 < b2 → b2 < (ii : Int) → apt N a2 b2 c = 1) ∧ ∀ a2 : Int, 0 ≤ a2 → a2 < ((k + 1 : Nat) : Int) → apt N a2 (ii : Int) c = 1)) ∨ ((1 : Int) = 0 ∧ ¬ (b = 1 ∧ ((∀ a2 b2 : Int, 0 ≤ a2 → a2 < b2 → b2 < (ii : Int) → apt N a2 b2 c = 1) ∧ ∀ a2 : Int, 0 ≤ a2 → a2 < ((k + 1 : Nat) : Int) → apt N a2 (ii : Int) c = 1)))) := by
          rcases hp with ⟨h1, h2, h3, h4⟩ | ⟨h1, h2⟩
          · refine Or.inl ⟨rfl, h2, h3, fun a2 a0 a1 => ?_⟩
            by_cases e : a2 = (k : Int)
            · subst e; rw [apt_sym]; omega
            · exact h4 a2 a0 (by omega)
          · omega
        have h9 := ih (k + 1) (1 : Int) (by omega) hp2
        rw [show ((k + 1 : Nat) : Int) = (k : Int) + 1 by omega] at h9
        exact h9
theorem pr_i (hd : 6 ≤ d) (hE : E0 n K R) (hT : TR N h M) (hN : NR N) (hir : irN N) (hb : b = 0 ∨ b = 1) (kn : ∀ (x : Int) (z4 z5 : Option gm_V), ((x = 1 ∧ b = 1 ∧ (∀ a2 b2 : Int, 0 ≤ a2 → a2 < b2 → b2 < (N 6) → apt N a2 b2 c = 1)) ∨ (x = 0 ∧ ¬ (b = 1 ∧ (∀ a2 b2 : Int, 0 ≤ a2 → a2 < b2 → b2 < (N 6) → apt N a2 b2 c = 1)))) → gm_Wp X LX d bc bs 347 99 [some (gm_vr 226), some (gm_vi y), some (gm_vi c), some (gm_vi x), z4, z5] [] n K R M Q) : ∀ (u k : Nat) (x : Int) (z : Option gm_V), (k : Int) + (u : Int) = N 6 → ((x = 1 ∧ b = 1 ∧ (∀ a2 b2 : Int, 0 ≤ a2 → a2 < b2 → b2 < (k : Int) → apt N a2 b2 c = 1)) ∨ (x = 0 ∧ ¬ (b = 1 ∧ (∀ a2 b2 : Int, 0 ≤ a2 → a2 < b2 → b2 < (k : Int) → apt N a2 b2 c = 1)))) → gm_Wp X LX d bc bs 347 43 [some (gm_vr 226), some (gm_vi y), some (gm_vi c), some (gm_vi x), some (gm_vi (k : Int)), z] [] n K R M Q := by
  obtain ⟨⟨⟨a0, b0⟩, ⟨a1, b1⟩, ⟨a10, b10⟩, ⟨a11, b11⟩, ⟨a12, b12⟩, a9, b9⟩, ⟨⟨a2, b2⟩, ⟨a5, b5⟩, ⟨a3, b3⟩, ⟨a4, b4⟩, ⟨a6, b6⟩, ⟨a14, b14⟩, ⟨a7, b7⟩, a13, b13⟩, rF, rP, rL⟩ := id hN
  intro u
  induction u with
  | zero =>
    intro k x z hk hp
    have ek : (k : Int) = N 6 := by omega
    refine gm_sz (gm_p_load (pc := 43) (i := .iload 4) (sr := 0) (j := 4) (by decide +kernel) rfl rfl rfl) ?_
    refine gm_sz (gm_p_load (pc := 45) (i := .aload_n 0) (sr := 2) (j := 0) (by decide +kernel) rfl rfl rfl) ?_
    refine gm_sz (fw_gr (pc := 46) (ix := 13) (ci := 11) (j := 1) (r := 227) (by decide +kernel) (e0k hE (k := 226) (c := 11) (by decide +kernel)) (by decide +kernel) (by decide +kernel) (e0r hE (k := 226) (j := 1) (r := 227) (by decide +kernel))) ?_
    refine gm_sz (gm_p_const (pc := 49) (i := .bipush 6) (v := gm_vi 6) (by decide +kernel) (by decide +kernel)) ?_
    refine gm_sz (fw_ia (pc := 51) (k := 227) (len := 2093) (e0 := 6) (x := N 6) (by decide +kernel) (e0a hE (k := 227) (q := (0, 2093)) (by decide +kernel)).1 (e0a hE (k := 227) (q := (0, 2093)) (by decide +kernel)).2 (by decide) ⟨by omega, by omega⟩ (tr_w hT (by decide) (by decide) (by decide))) ?_
    refine fw_ict (cc := .ge) (pc := 52) (off := 47) (by decide +kernel) (by decide) ⟨by omega, by omega⟩ ⟨by omega, by omega⟩ (show (N 6) ≤ (k : Int) by omega) ?_
    refine kn _ _ _ ?_
    rw [← ek]
    exact hp
  | succ u ih =>
    intro k x z hk hp
    refine gm_sz (gm_p_load (pc := 43) (i := .iload 4) (sr := 0) (j := 4) (by decide +kernel) rfl rfl rfl) ?_
    refine gm_sz (gm_p_load (pc := 45) (i := .aload_n 0) (sr := 2) (j := 0) (by decide +kernel) rfl rfl rfl) ?_
    refine gm_sz (fw_gr (pc := 46) (ix := 13) (ci := 11) (j := 1) (r := 227) (by decide +kernel) (e0k hE (k := 226) (c := 11) (by decide +kernel)) (by decide +kernel) (by decide +kernel) (e0r hE (k := 226) (j := 1) (r := 227) (by decide +kernel))) ?_
    refine gm_sz (gm_p_const (pc := 49) (i := .bipush 6) (v := gm_vi 6) (by decide +kernel) (by decide +kernel)) ?_
    refine gm_sz (fw_ia (pc := 51) (k := 227) (len := 2093) (e0 := 6) (x := N 6) (by decide +kernel) (e0a hE (k := 227) (q := (0, 2093)) (by decide +kernel)).1 (e0a hE (k := 227) (q := (0, 2093)) (by decide +kernel)).2 (by decide) ⟨by omega, by omega⟩ (tr_w hT (by decide) (by decide) (by decide))) ?_
    refine fw_icf (cc := .ge) (pc := 52) (off := 47) (by decide +kernel) (by decide) ⟨by omega, by omega⟩ ⟨by omega, by omega⟩ (show ¬ (N 6) ≤ (k : Int) by omega) ?_
    refine gm_sz (gm_p_const (pc := 55) (i := .iconst 0) (v := gm_vi 0) (by decide +kernel) (by decide +kernel)) ?_
    refine gm_sz (gm_p_stor (pc := 56) (i := .istore 5) (sr := 0) (j := 5) (by decide +kernel) rfl (show 6 ≤ _ from Nat.le_of_ble_eq_true rfl) rfl) ?_
    refine pr_j (b := b) (ii := k) hd hE hT hN hir (by omega) hb (fun x2 z2 hz2 => ?_) k 0 x (by omega) ?_
    · have hp2 : ((x2 = 1 ∧ b = 1 ∧ (∀ a2 b2 : Int, 0 ≤ a2 → a2 < b2 → b2 < ((k + 1 : Nat) : Int) → apt N a2 b2 c = 1)) ∨ (x2 = 0 ∧ ¬ (b = 1 ∧ (∀ a2 b2 : Int, 0 ≤ a2 → a2 < b2 → b2 < ((k + 1 : Nat) : Int) → apt N a2 b2 c = 1)))) := by
        have eq9 : ((∀ a2 b2 : Int, 0 ≤ a2 → a2 < b2 → b2 < (k : Int) → apt N a2 b2 c = 1) ∧ ∀ a2 : Int, 0 ≤ a2 → a2 < (k : Int) → apt N a2 (k : Int) c = 1) ↔ (∀ a2 b2 : Int, 0 ≤ a2 → a2 < b2 → b2 < ((k + 1 : Nat) : Int) → apt N a2 b2 c = 1) := ⟨fun hh a2 b2 a0 a1 b1 => by
          by_cases e : b2 = (k : Int)
          · subst e; exact hh.2 a2 a0 a1
          · exact hh.1 a2 b2 a0 a1 (by omega), fun hh => ⟨fun a2 b2 a0 a1 b1 => hh a2 b2 a0 a1 (by omega), fun a2 a0 a1 => hh a2 (k : Int) a0 a1 (by omega)⟩⟩
        rcases hz2 with ⟨h1, h2, h3⟩ | ⟨h1, h2⟩
        · exact Or.inl ⟨h1, h2, eq9.mp h3⟩
        · exact Or.inr ⟨h1, fun hh => h2 ⟨hh.1, eq9.mpr hh.2⟩⟩
      refine gm_sz (gm_p_iinc (pc := 93) (j := 4) (z := 1) (by decide +kernel) rfl) ?_
      refine gm_sz (gm_p_goto (pc := 96) (off := (-53)) (by decide +kernel) (by decide)) ?_
      have h9 := ih (k + 1) x2 (some z2) (by omega) hp2
      rw [show ((k + 1 : Nat) : Int) = (k : Int) + 1 by omega] at h9
      exact h9
    · rcases hp with ⟨h1, h2, h3⟩ | ⟨h1, h2⟩
      · exact Or.inl ⟨h1, h2, h3, fun a2 a0 a1 => by omega⟩
      · exact Or.inr ⟨h1, fun hh => h2 ⟨hh.1, hh.2.1⟩⟩
theorem po_r (hd : 8 ≤ d) (hE : E0 n K R) (hT : TR N h M) (hN : NR N) (hir : irN N) (hl6 : 0 ≤ N 0 ∧ N 0 ≤ 6) (hq : Q (.inl (some (gm_vi (plf N (gm_shl 1 (N 0)).toNat)))) n K R M) : ∀ (u k : Nat) (z3 z4 z5 : Option gm_V), (k : Int) + (u : Int) = gm_shl 1 (N 0) → gm_Wp X LX d bc bs 347 9 [some (gm_vr 226), some (gm_vi (plf N k)), some (gm_vi (k : Int)), z3, z4, z5] [] n K R M Q := by
  obtain ⟨⟨⟨a0, b0⟩, ⟨a1, b1⟩, ⟨a10, b10⟩, ⟨a11, b11⟩, ⟨a12, b12⟩, a9, b9⟩, ⟨⟨a2, b2⟩, ⟨a5, b5⟩, ⟨a3, b3⟩, ⟨a4, b4⟩, ⟨a6, b6⟩, ⟨a14, b14⟩, ⟨a7, b7⟩, a13, b13⟩, rF, rP, rL⟩ := id hN
  have hd9 : 6 ≤ d := by omega
  have sh9 := shl_6 hl6.1 hl6.2
  intro u
  induction u with
  | zero =>
    intro k z3 z4 z5 hk
    have ek : k = (gm_shl 1 (N 0)).toNat := by omega
    refine gm_sz (gm_p_load (pc := 9) (i := .iload_n 2) (sr := 0) (j := 2) (by decide +kernel) rfl rfl rfl) ?_
    refine gm_sz (gm_p_const (pc := 10) (i := .iconst 1) (v := gm_vi 1) (by decide +kernel) (by decide +kernel)) ?_
    refine gm_sz (gm_p_load (pc := 11) (i := .aload_n 0) (sr := 2) (j := 0) (by decide +kernel) rfl rfl rfl) ?_
    refine gm_c_virt (k := 226) (ci := 11) (mj := 261) (ix := 86) (pc := 12) (as := []) (st := [gm_vi 1, gm_vi (k : Int)]) (d' := d - 1) (bc' := 0) (bs' := 0) (by decide +kernel) (by decide +kernel) (by decide +kernel) (by decide +kernel) (e0k hE (k := 226) (c := 11) (by decide +kernel)).1 (e0k hE (k := 226) (c := 11) (by decide +kernel)).2 (by decide) (by decide +kernel) (show 0 = gm_na 261 by decide +kernel) fw_c0 (show 1 ≤ gm_ml 261 by decide +kernel) (Nat.le_of_ble_eq_true rfl) (by omega) (Nat.zero_le _) (Nat.zero_le _) ?_
    refine re_lan hE hT hN ?_
    show gm_Wp X LX d _ _ 347 15 _ [gm_vi (N 0), gm_vi 1, gm_vi (k : Int)] n K _ _ Q
    refine gm_sz (gm_p_bin (pc := 15) (i := .ishl) (f := gm_shl) (by decide +kernel) rfl) ?_
    refine fw_ict (cc := .ge) (pc := 16) (off := 99) (by decide +kernel) (by decide) ⟨by omega, by omega⟩ ⟨by omega, by omega⟩ (show (gm_shl 1 (N 0)) ≤ (k : Int) by omega) ?_
    refine gm_sz (gm_p_load (pc := 115) (i := .iload_n 1) (sr := 0) (j := 1) (by decide +kernel) rfl rfl rfl) ?_
    rw [ek]
    exact gm_r_int (pc := 116) (by decide +kernel) (Or.inl (by decide +kernel)) hq
  | succ u ih =>
    intro k z3 z4 z5 hk
    have pb9 := plf_b (N := N) k
    refine gm_sz (gm_p_load (pc := 9) (i := .iload_n 2) (sr := 0) (j := 2) (by decide +kernel) rfl rfl rfl) ?_
    refine gm_sz (gm_p_const (pc := 10) (i := .iconst 1) (v := gm_vi 1) (by decide +kernel) (by decide +kernel)) ?_
    refine gm_sz (gm_p_load (pc := 11) (i := .aload_n 0) (sr := 2) (j := 0) (by decide +kernel) rfl rfl rfl) ?_
    refine gm_c_virt (k := 226) (ci := 11) (mj := 261) (ix := 86) (pc := 12) (as := []) (st := [gm_vi 1, gm_vi (k : Int)]) (d' := d - 1) (bc' := 0) (bs' := 0) (by decide +kernel) (by decide +kernel) (by decide +kernel) (by decide +kernel) (e0k hE (k := 226) (c := 11) (by decide +kernel)).1 (e0k hE (k := 226) (c := 11) (by decide +kernel)).2 (by decide) (by decide +kernel) (show 0 = gm_na 261 by decide +kernel) fw_c0 (show 1 ≤ gm_ml 261 by decide +kernel) (Nat.le_of_ble_eq_true rfl) (by omega) (Nat.zero_le _) (Nat.zero_le _) ?_
    refine re_lan hE hT hN ?_
    show gm_Wp X LX d _ _ 347 15 _ [gm_vi (N 0), gm_vi 1, gm_vi (k : Int)] n K _ _ Q
    refine gm_sz (gm_p_bin (pc := 15) (i := .ishl) (f := gm_shl) (by decide +kernel) rfl) ?_
    refine fw_icf (cc := .ge) (pc := 16) (off := 99) (by decide +kernel) (by decide) ⟨by omega, by omega⟩ ⟨by omega, by omega⟩ (show ¬ (gm_shl 1 (N 0)) ≤ (k : Int) by omega) ?_
    refine gm_sz (gm_p_load (pc := 19) (i := .iload_n 1) (sr := 0) (j := 1) (by decide +kernel) rfl rfl rfl) ?_
    refine fw_if (cc := .lt) (pc := 20) (off := 14) (by decide +kernel) (by decide) ⟨by omega, by omega⟩ (fun h20 => ?_) (fun h20 => ?_)
    · have h20 : (plf N k) < 0 := h20
      refine gm_sz (gm_p_const (pc := 34) (i := .iconst 1) (v := gm_vi 1) (by decide +kernel) (by decide +kernel)) ?_
      refine gm_sz (gm_p_goto (pc := 35) (off := 4) (by decide +kernel) (by decide)) ?_
      refine gm_sz (gm_p_stor (pc := 39) (i := .istore_n 3) (sr := 0) (j := 3) (by decide +kernel) rfl (show 4 ≤ _ from Nat.le_of_ble_eq_true rfl) rfl) ?_
      refine gm_sz (gm_p_const (pc := 40) (i := .iconst 0) (v := gm_vi 0) (by decide +kernel) (by decide +kernel)) ?_
      refine gm_sz (gm_p_stor (pc := 41) (i := .istore 4) (sr := 0) (j := 4) (by decide +kernel) rfl (show 5 ≤ _ from Nat.le_of_ble_eq_true rfl) rfl) ?_
      refine pr_i (b := 1) (c := (k : Int)) hd9 hE hT hN hir (Or.inr rfl) (fun x2 z6 z7 hz2 => ?_) (N 6).toNat 0 1 _ (by omega) ?_
      · have hx01 : x2 = 0 ∨ x2 = 1 := by rcases hz2 with ⟨h, -⟩ | ⟨h, -⟩ <;> omega
        refine gm_sz (gm_p_load (pc := 99) (i := .iload_n 3) (sr := 0) (j := 3) (by decide +kernel) rfl rfl rfl) ?_
        refine fw_if (cc := .eq) (pc := 100) (off := 7) (by decide +kernel) (by decide) ⟨by omega, by omega⟩ (fun h100 => ?_) (fun h100 => ?_)
        · have h100 : x2 = 0 := h100
          refine gm_sz (gm_p_load (pc := 107) (i := .iload_n 1) (sr := 0) (j := 1) (by decide +kernel) rfl rfl rfl) ?_
          refine gm_sz (gm_p_stor (pc := 108) (i := .istore_n 1) (sr := 0) (j := 1) (by decide +kernel) rfl (show 2 ≤ _ from Nat.le_of_ble_eq_true rfl) rfl) ?_
          refine gm_sz (gm_p_iinc (pc := 109) (j := 2) (z := 1) (by decide +kernel) rfl) ?_
          refine gm_sz (gm_p_goto (pc := 112) (off := (-103)) (by decide +kernel) (by decide)) ?_
          have e9 : plf N (k + 1) = plf N k := if_neg (by rcases hz2 with ⟨h1, h2, h3⟩ | ⟨h1, h2⟩; omega; exact fun hh => h2 ⟨rfl, fun i j i0 i1 j1 => hh.2 i j i0 i1 j1⟩)
          have h9 := ih (k + 1) (some (gm_vi x2)) z6 z7 (by omega)
          rw [e9, show ((k + 1 : Nat) : Int) = (k : Int) + 1 by omega] at h9
          exact h9
        · have h100 : ¬ x2 = 0 := h100
          refine gm_sz (gm_p_load (pc := 103) (i := .iload_n 2) (sr := 0) (j := 2) (by decide +kernel) rfl rfl rfl) ?_
          refine gm_sz (gm_p_goto (pc := 104) (off := 4) (by decide +kernel) (by decide)) ?_
          refine gm_sz (gm_p_stor (pc := 108) (i := .istore_n 1) (sr := 0) (j := 1) (by decide +kernel) rfl (show 2 ≤ _ from Nat.le_of_ble_eq_true rfl) rfl) ?_
          refine gm_sz (gm_p_iinc (pc := 109) (j := 2) (z := 1) (by decide +kernel) rfl) ?_
          refine gm_sz (gm_p_goto (pc := 112) (off := (-103)) (by decide +kernel) (by decide)) ?_
          have e9 : plf N (k + 1) = (k : Int) := if_pos (by rcases hz2 with ⟨h1, h2, h3⟩ | ⟨h1, h2⟩; exact ⟨by omega, fun i j i0 i1 j1 => h3 i j i0 i1 j1⟩; omega)
          have h9 := ih (k + 1) (some (gm_vi x2)) z6 z7 (by omega)
          rw [e9, show ((k + 1 : Nat) : Int) = (k : Int) + 1 by omega] at h9
          exact h9
      · exact Or.inl ⟨rfl, rfl, fun a2 b2 a0 a1 b1 => by omega⟩
    · have h20 : ¬ (plf N k) < 0 := h20
      refine gm_sz (gm_p_load (pc := 23) (i := .iload_n 2) (sr := 0) (j := 2) (by decide +kernel) rfl rfl rfl) ?_
      refine gm_c_stat (mj := 49) (ix := 460) (pc := 24) (as := [gm_vi (k : Int)]) (st := []) (d' := d - 1) (bc' := 0) (bs' := 0) (by decide +kernel) (by decide +kernel) (by decide +kernel) (by decide +kernel) (show 1 = gm_na 49 by decide +kernel) (fw_c1 fw_si) (show 1 ≤ gm_ml 49 by decide +kernel) (Nat.le_of_ble_eq_true rfl) (by omega) (Nat.zero_le _) (Nat.zero_le _) ?_
      refine bc_49 (x := (k : Int)) ?_
      show gm_Wp X LX d _ _ 347 27 _ [gm_vi (btc (k : Int))] n K _ _ Q
      refine gm_sz (gm_p_load (pc := 27) (i := .iload_n 1) (sr := 0) (j := 1) (by decide +kernel) rfl rfl rfl) ?_
      refine gm_c_stat (mj := 49) (ix := 460) (pc := 28) (as := [gm_vi (plf N k)]) (st := [gm_vi (btc (k : Int))]) (d' := d - 1) (bc' := 0) (bs' := 0) (by decide +kernel) (by decide +kernel) (by decide +kernel) (by decide +kernel) (show 1 = gm_na 49 by decide +kernel) (fw_c1 fw_si) (show 1 ≤ gm_ml 49 by decide +kernel) (Nat.le_of_ble_eq_true rfl) (by omega) (Nat.zero_le _) (Nat.zero_le _) ?_
      refine bc_49 (x := (plf N k)) ?_
      show gm_Wp X LX d _ _ 347 31 _ [gm_vi (btc (plf N k)), gm_vi (btc (k : Int))] n K _ _ Q
      refine fw_ic (cc := .ge) (pc := 31) (off := 7) (by decide +kernel) (by decide) (show gm_ir (btc _) from and_ir9) (show gm_ir (btc _) from and_ir9) (fun h31 => ?_) (fun h31 => ?_)
      · have h31 : (btc (plf N k)) ≤ (btc (k : Int)) := h31
        refine gm_sz (gm_p_const (pc := 38) (i := .iconst 0) (v := gm_vi 0) (by decide +kernel) (by decide +kernel)) ?_
        refine gm_sz (gm_p_stor (pc := 39) (i := .istore_n 3) (sr := 0) (j := 3) (by decide +kernel) rfl (show 4 ≤ _ from Nat.le_of_ble_eq_true rfl) rfl) ?_
        refine gm_sz (gm_p_const (pc := 40) (i := .iconst 0) (v := gm_vi 0) (by decide +kernel) (by decide +kernel)) ?_
        refine gm_sz (gm_p_stor (pc := 41) (i := .istore 4) (sr := 0) (j := 4) (by decide +kernel) rfl (show 5 ≤ _ from Nat.le_of_ble_eq_true rfl) rfl) ?_
        refine pr_i (b := 0) (c := (k : Int)) hd9 hE hT hN hir (Or.inl rfl) (fun x2 z6 z7 hz2 => ?_) (N 6).toNat 0 0 _ (by omega) ?_
        · have hx01 : x2 = 0 ∨ x2 = 1 := by rcases hz2 with ⟨h, -⟩ | ⟨h, -⟩ <;> omega
          refine gm_sz (gm_p_load (pc := 99) (i := .iload_n 3) (sr := 0) (j := 3) (by decide +kernel) rfl rfl rfl) ?_
          refine fw_if (cc := .eq) (pc := 100) (off := 7) (by decide +kernel) (by decide) ⟨by omega, by omega⟩ (fun h100 => ?_) (fun h100 => ?_)
          · have h100 : x2 = 0 := h100
            refine gm_sz (gm_p_load (pc := 107) (i := .iload_n 1) (sr := 0) (j := 1) (by decide +kernel) rfl rfl rfl) ?_
            refine gm_sz (gm_p_stor (pc := 108) (i := .istore_n 1) (sr := 0) (j := 1) (by decide +kernel) rfl (show 2 ≤ _ from Nat.le_of_ble_eq_true rfl) rfl) ?_
            refine gm_sz (gm_p_iinc (pc := 109) (j := 2) (z := 1) (by decide +kernel) rfl) ?_
            refine gm_sz (gm_p_goto (pc := 112) (off := (-103)) (by decide +kernel) (by decide)) ?_
            have e9 : plf N (k + 1) = plf N k := if_neg (by exact fun hh => by have := hh.1; omega)
            have h9 := ih (k + 1) (some (gm_vi x2)) z6 z7 (by omega)
            rw [e9, show ((k + 1 : Nat) : Int) = (k : Int) + 1 by omega] at h9
            exact h9
          · have h100 : ¬ x2 = 0 := h100
            refine gm_sz (gm_p_load (pc := 103) (i := .iload_n 2) (sr := 0) (j := 2) (by decide +kernel) rfl rfl rfl) ?_
            refine gm_sz (gm_p_goto (pc := 104) (off := 4) (by decide +kernel) (by decide)) ?_
            refine gm_sz (gm_p_stor (pc := 108) (i := .istore_n 1) (sr := 0) (j := 1) (by decide +kernel) rfl (show 2 ≤ _ from Nat.le_of_ble_eq_true rfl) rfl) ?_
            refine gm_sz (gm_p_iinc (pc := 109) (j := 2) (z := 1) (by decide +kernel) rfl) ?_
            refine gm_sz (gm_p_goto (pc := 112) (off := (-103)) (by decide +kernel) (by decide)) ?_
            have e9 : plf N (k + 1) = (k : Int) := if_pos (by rcases hz2 with ⟨h1, h2, h3⟩ | ⟨h1, h2⟩ <;> omega)
            have h9 := ih (k + 1) (some (gm_vi x2)) z6 z7 (by omega)
            rw [e9, show ((k + 1 : Nat) : Int) = (k : Int) + 1 by omega] at h9
            exact h9
        · exact Or.inr ⟨rfl, fun hh => absurd hh.1 (by decide)⟩
      · have h31 : ¬ (btc (plf N k)) ≤ (btc (k : Int)) := h31
        refine gm_sz (gm_p_const (pc := 34) (i := .iconst 1) (v := gm_vi 1) (by decide +kernel) (by decide +kernel)) ?_
        refine gm_sz (gm_p_goto (pc := 35) (off := 4) (by decide +kernel) (by decide)) ?_
        refine gm_sz (gm_p_stor (pc := 39) (i := .istore_n 3) (sr := 0) (j := 3) (by decide +kernel) rfl (show 4 ≤ _ from Nat.le_of_ble_eq_true rfl) rfl) ?_
        refine gm_sz (gm_p_const (pc := 40) (i := .iconst 0) (v := gm_vi 0) (by decide +kernel) (by decide +kernel)) ?_
        refine gm_sz (gm_p_stor (pc := 41) (i := .istore 4) (sr := 0) (j := 4) (by decide +kernel) rfl (show 5 ≤ _ from Nat.le_of_ble_eq_true rfl) rfl) ?_
        refine pr_i (b := 1) (c := (k : Int)) hd9 hE hT hN hir (Or.inr rfl) (fun x2 z6 z7 hz2 => ?_) (N 6).toNat 0 1 _ (by omega) ?_
        · have hx01 : x2 = 0 ∨ x2 = 1 := by rcases hz2 with ⟨h, -⟩ | ⟨h, -⟩ <;> omega
          refine gm_sz (gm_p_load (pc := 99) (i := .iload_n 3) (sr := 0) (j := 3) (by decide +kernel) rfl rfl rfl) ?_
          refine fw_if (cc := .eq) (pc := 100) (off := 7) (by decide +kernel) (by decide) ⟨by omega, by omega⟩ (fun h100 => ?_) (fun h100 => ?_)
          · have h100 : x2 = 0 := h100
            refine gm_sz (gm_p_load (pc := 107) (i := .iload_n 1) (sr := 0) (j := 1) (by decide +kernel) rfl rfl rfl) ?_
            refine gm_sz (gm_p_stor (pc := 108) (i := .istore_n 1) (sr := 0) (j := 1) (by decide +kernel) rfl (show 2 ≤ _ from Nat.le_of_ble_eq_true rfl) rfl) ?_
            refine gm_sz (gm_p_iinc (pc := 109) (j := 2) (z := 1) (by decide +kernel) rfl) ?_
            refine gm_sz (gm_p_goto (pc := 112) (off := (-103)) (by decide +kernel) (by decide)) ?_
            have e9 : plf N (k + 1) = plf N k := if_neg (by rcases hz2 with ⟨h1, h2, h3⟩ | ⟨h1, h2⟩; omega; exact fun hh => h2 ⟨rfl, fun i j i0 i1 j1 => hh.2 i j i0 i1 j1⟩)
            have h9 := ih (k + 1) (some (gm_vi x2)) z6 z7 (by omega)
            rw [e9, show ((k + 1 : Nat) : Int) = (k : Int) + 1 by omega] at h9
            exact h9
          · have h100 : ¬ x2 = 0 := h100
            refine gm_sz (gm_p_load (pc := 103) (i := .iload_n 2) (sr := 0) (j := 2) (by decide +kernel) rfl rfl rfl) ?_
            refine gm_sz (gm_p_goto (pc := 104) (off := 4) (by decide +kernel) (by decide)) ?_
            refine gm_sz (gm_p_stor (pc := 108) (i := .istore_n 1) (sr := 0) (j := 1) (by decide +kernel) rfl (show 2 ≤ _ from Nat.le_of_ble_eq_true rfl) rfl) ?_
            refine gm_sz (gm_p_iinc (pc := 109) (j := 2) (z := 1) (by decide +kernel) rfl) ?_
            refine gm_sz (gm_p_goto (pc := 112) (off := (-103)) (by decide +kernel) (by decide)) ?_
            have e9 : plf N (k + 1) = (k : Int) := if_pos (by rcases hz2 with ⟨h1, h2, h3⟩ | ⟨h1, h2⟩; exact ⟨by omega, fun i j i0 i1 j1 => h3 i j i0 i1 j1⟩; omega)
            have h9 := ih (k + 1) (some (gm_vi x2)) z6 z7 (by omega)
            rw [e9, show ((k + 1 : Nat) : Int) = (k : Int) + 1 by omega] at h9
            exact h9
        · exact Or.inl ⟨rfl, rfl, fun a2 b2 a0 a1 b1 => by omega⟩
theorem re_poles (hd : 14 ≤ d) (hE : E0 n K R) (hT : TR N h M) (hN : NR N) (hir : irN N) (hl6 : 0 ≤ N 0 ∧ N 0 ≤ 6) (hq : ∀ M2, M2 226 0 = 0 → Q (.inl (some (gm_vi (plf N (gm_shl 1 (N 0)).toNat)))) n K R M2) : gm_Wp X LX d bc bs 347 0 (gm_ent 347 [gm_vr 226]) [] n K R M Q := by
  obtain ⟨⟨⟨a0, b0⟩, ⟨a1, b1⟩, ⟨a10, b10⟩, ⟨a11, b11⟩, ⟨a12, b12⟩, a9, b9⟩, ⟨⟨a2, b2⟩, ⟨a5, b5⟩, ⟨a3, b3⟩, ⟨a4, b4⟩, ⟨a6, b6⟩, ⟨a14, b14⟩, ⟨a7, b7⟩, a13, b13⟩, rF, rP, rL⟩ := id hN
  refine gm_sz (gm_p_load (pc := 0) (i := .aload_n 0) (sr := 2) (j := 0) (by decide +kernel) rfl rfl rfl) ?_
  refine gm_sz (gm_p_const (pc := 1) (i := .iconst 0) (v := gm_vi 0) (by decide +kernel) (by decide +kernel)) ?_
  refine gm_sz (fw_pi (pc := 2) (ix := 3) (ci := 11) (j := 0) (M' := gm_uM M 226 0 0) (by decide +kernel) (e0k hE (k := 226) (c := 11) (by decide +kernel)) (by decide +kernel) (by decide +kernel) (by decide +kernel) rfl) ?_
  refine gm_sz (gm_p_const (pc := 5) (i := .iconst (-1)) (v := gm_vi (-1)) (by decide +kernel) (by decide +kernel)) ?_
  refine gm_sz (gm_p_stor (pc := 6) (i := .istore_n 1) (sr := 0) (j := 1) (by decide +kernel) rfl (show 2 ≤ _ from Nat.le_of_ble_eq_true rfl) rfl) ?_
  refine gm_sz (gm_p_const (pc := 7) (i := .iconst 0) (v := gm_vi 0) (by decide +kernel) (by decide +kernel)) ?_
  refine gm_sz (gm_p_stor (pc := 8) (i := .istore_n 2) (sr := 0) (j := 2) (by decide +kernel) rfl (show 3 ≤ _ from Nat.le_of_ble_eq_true rfl) rfl) ?_
  have sh9 := shl_6 hl6.1 hl6.2
  exact po_r (by omega) hE (tr_fr (W := [(226, some 0)]) hT (fr_p fr_0 (Or.inr (by decide))) (by decide)) hN hir hl6 (hq _ uM_at) (gm_shl 1 (N 0)).toNat 0 _ _ _ (by omega)
end PO62
section PO62B
variable {X : Int → Int} {LX d bc bs n g z g1 : Nat} {la : Nat → Nat} {K : gm_K} {R : gm_R} {M : gm_M} {N : Int → Int} {lw : Option (List lln)} {A : List (Int → Int)} {im : Option ((Int → Int) × Option (List lln))} {t w : Int} {f : Int → Int} {a b c e : Int} {NC : Nat} {C Ln G : Int → Int}
noncomputable def q_poles (N : Int → Int) : Int × Int := (0, plf N (gm_shl 1 (N 0)).toNat)
theorem iq_poles : gm_ir (q_poles N).1 := by
  unfold q_poles
  exact (show (-2147483648 : Int) ≤ 0 ∧ (0 : Int) < 2147483648 from by decide)
theorem z_poles : (q_poles N).1 = 0 := by
  unfold q_poles
  exact rfl
theorem cq_poles (hd : 24 ≤ d) (hbc : 4 ≤ bc) (hbs : 24 ≤ bs) (hE : E0 n K R) (hK : K 245 = (2, 1)) (hG : GJ N) (hV : CLV N lw A im t w f M) : gm_Wp X LX d bc bs 48 0 (gm_ent 48 [gm_vr 1]) [] n K R M (CF (q_poles N).2 none) := by
  exact cl_poles (Nat.le_trans (by decide) hd) hbc hbs hE hV.1.1 hG.1.1 hG.2 ⟨by have := hG.1.1.1.1.1; omega, by have := hG.1.1.1.1.2; omega⟩ ⟨hK, rfl, fun v e => nomatch e⟩
theorem rq_poles (hd : 24 ≤ d) (hE : E0 n K R) (hS6 : NSb 6 N) (hG : GJ N) (hV : RFV N lw A im t w f M) : gm_Wp X LX d bc bs 347 0 (gm_ent 347 [gm_vr 226]) [] n K R M (RF (q_poles N).1 (q_poles N).2) := by
  have k226 := k226 hE
  exact re_poles (Nat.le_trans (by decide) hd) hE hV.1.1 hG.1.1 hG.2 ⟨by have := hG.1.1.1.1.1; omega, by have := hG.1.1.1.1.2; omega⟩ (fun M2 h0 => rf_e k226 (rfl) (fun _ => rfl) h0)
theorem fw_poles (hb : bg g la K R M) (hR : REL la K M N lw A im t w f) : ∀ z g1, bs_ok la z g1 → ¬ z = 100003 → gm_Wp X LX 279 6 600 48 0 (gm_ent 48 (gm_vr 1 :: ([] : List Int).map gm_vi)) [] (245 + 4 * g1) (bs_K la K) (bs_R z g1) (bs_M la M) (CF (q_poles N).2 none) := by
  intro z g1 hz hz3
  have hE := e0_w hb hz
  exact cq_poles (by decide) (by decide) (by decide) hE (k245 hE).2 hR.1.1 (clv_w hb hR.2.2.1)
theorem fm_poles (hb : bg g la K R M) (hR : REL la K M N lw A im t w f) : gm_Wp X LX 279 6 600 347 0 (gm_ent 347 (gm_vr 226 :: ([] : List Int).map gm_vi)) [] 245 (bs_K la K) (bs_R 100003 0) (bs_M la M) (RF (q_poles N).1 (q_poles N).2) := rq_poles (by decide) (e0_w hb (Or.inr (Or.inl ⟨rfl, rfl⟩))) (ns6 (bs_F0 (z := 100003) hb) (rfv_w (la := la) hR.2.2.2).1.1.1 hR.1.1.1.1) hR.1.1 (rfv_w hR.2.2.2)
end PO62B
end
