/-! A LAW, as both keep it. -/
/-- a line: kind, how much, on what -/
abbrev lln := Int × Int × Option (List lst)
def LW (ls : List lln) : Prop := ls.length ≤ 12 ∧ ∀ (k : Nat) (x : lln), ls[k]? = some x → (0 ≤ x.1 ∧ x.1 ≤ 2) ∧ (0 ≤ x.2.1 ∧ x.2.1 ≤ 20) ∧ ∀ t, x.2.2 = some t → shg 32 t 0 1
/-- the class's law -/
def LC (ls : List lln) (C Ln : Int → Int) : Prop := ∀ (k : Nat) (x : lln), ls[k]? = some x → Ln ((k : Int) * 4 + 0) = x.1 ∧ (¬ x.1 = 2 → Ln ((k : Int) * 4 + 1) = x.2.1) ∧ (x.2.2 = none → Ln ((k : Int) * 4 + 2) = Ln ((k : Int) * 4 + 3)) ∧ ∀ t, x.2.2 = some t → Ln ((k : Int) * 4 + 3) = Ln ((k : Int) * 4 + 2) + ((scds t).length : Int) ∧ ∀ (j : Nat) (v : Int), (scds t)[j]? = some v → C (Ln ((k : Int) * 4 + 2) + (j : Int)) = v
/-- the reference's -/
def LR (ls : List lln) (G : Int → Int) : Prop := ∀ (k : Nat) (x : lln), ls[k]? = some x → G (396 + 4 * (k : Int)) = x.1 ∧ G (396 + 4 * (k : Int) + 1) = (if x.1 = 2 then 1 else x.2.1) ∧ (x.2.2 = none → G (396 + 4 * (k : Int) + 3) = G (396 + 4 * (k : Int) + 2)) ∧ ∀ t, x.2.2 = some t → G (396 + 4 * (k : Int) + 3) = G (396 + 4 * (k : Int) + 2) + ((srds t).length : Int) ∧ ∀ (j : Nat) (v : Int × Int), (srds t)[j]? = some v → G (444 + 2 * (G (396 + 4 * (k : Int) + 2) + (j : Int))) = v.1 ∧ G (444 + 2 * (G (396 + 4 * (k : Int) + 2) + (j : Int)) + 1) = v.2
/-- whether a line holds -/
def lv (F : Int → Int) (x : lln) : Prop := ∀ t, x.2.2 = some t → lvl F t = true
def HH (ls : List lln) (F : Int → Int) (k : Int) : Prop := ∃ x, ls[k.toNat]? = some x ∧ lv F x
section LQ1
variable {ls : List lln} {F C Ln G N h : Int → Int} {sp : Int → Int → Int}
theorem lq_at {k : Nat} (hk : k < ls.length) : ∃ x, ls[k]? = some x := ⟨ls[k], List.getElem?_eq_getElem hk⟩
theorem evh_x (hW : LW ls) (hC : LC ls C Ln) (hF : FB F) {k : Nat} {x : lln} (hx : ls[k]? = some x) : evh F C (Ln ((k : Int) * 4 + 2)) (Ln ((k : Int) * 4 + 3)) ↔ lv F x := by
  obtain ⟨-, -, c3, c4⟩ := hC k x hx
  obtain ⟨-, -, w3⟩ := hW.2 k x hx
  unfold lv
  cases ht : x.2.2 with
  | none =>
    rw [← c3 ht]
    exact ⟨fun _ t h => by simp at h, fun _ => evh_0⟩
  | some t =>
    obtain ⟨e1, e2⟩ := c4 t ht
    have w1 := w3 t ht
    have n1 := scds_n w1
    rw [evh_t hF w1 e1 (by omega) e2]
    exact ⟨fun h t2 h2 => by cases h2; exact h, fun h => h t rfl⟩
theorem rhl_x (hW : LW ls) (hR : LR ls G) (hF : FB F) {k : Nat} {x : lln} {V : Int → Int} (hx : ls[k]? = some x) : rhl F G (k : Int) V ↔ lv F x := by
  obtain ⟨-, -, c3, c4⟩ := hR k x hx
  obtain ⟨-, -, w3⟩ := hW.2 k x hx
  unfold lv
  cases ht : x.2.2 with
  | none => exact ⟨fun _ t h => by simp at h, fun _ => rhl_0 (c3 ht)⟩
  | some t =>
    obtain ⟨e1, e2⟩ := c4 t ht
    have w1 := w3 t ht
    rw [rhl_t hF w1 e1 e2]
    exact ⟨fun h t2 h2 => by cases h2; exact h, fun h => h t rfl⟩
theorem HH_x {k : Nat} {x : lln} (hx : ls[k]? = some x) : HH ls F (k : Int) ↔ lv F x := by
  unfold HH
  rw [show ((k : Int)).toNat = k from Int.toNat_natCast k]
  exact ⟨fun ⟨y, h1, h2⟩ => by rw [hx] at h1; cases h1; exact h2, fun h => ⟨x, hx, h⟩⟩
theorem hhl_x (hW : LW ls) (hR : LR ls G) : HHL (HH ls) G (ls.length : Int) := by
  intro F k V hF h0 h1
  obtain ⟨u, rfl⟩ : ∃ u : Nat, k = (u : Int) := ⟨k.toNat, by omega⟩
  obtain ⟨x, hx⟩ := lq_at (ls := ls) (k := u) (by omega)
  rw [rhl_x hW hR hF hx, HH_x hx]
theorem lsum_x (hW : LW ls) (hC : LC ls C Ln) (hR : LR ls G) (hF : FB F) : ∀ k : Nat, k ≤ ls.length → lfas F C Ln k = rsum (HH ls) F G 0 k - rsum (HH ls) F G 1 k := by
  intro k
  induction k with
  | zero => intro _; rfl
  | succ k ih =>
    intro hk
    obtain ⟨x, hx⟩ := lq_at (ls := ls) (k := k) (by omega)
    have i1 := ih (by omega)
    obtain ⟨c1, c2, -, -⟩ := hC k x hx
    obtain ⟨r1, r2, -, -⟩ := hR k x hx
    obtain ⟨⟨w1, w2⟩, -, -⟩ := hW.2 k x hx
    have e1 := evh_x hW hC hF hx
    have e2 := HH_x (F := F) hx
    have s0 : rsum (HH ls) F G 0 (k + 1) = rsum (HH ls) F G 0 k + @ite Int (G (396 + 4 * (k : Int)) = 0 ∧ HH ls F (k : Int)) (Classical.propDecidable _) (G (396 + 4 * (k : Int) + 1)) 0 := rfl
    have s1 : rsum (HH ls) F G 1 (k + 1) = rsum (HH ls) F G 1 k + @ite Int (G (396 + 4 * (k : Int)) = 1 ∧ HH ls F (k : Int)) (Classical.propDecidable _) (G (396 + 4 * (k : Int) + 1)) 0 := rfl
    have s2 : lfas F C Ln (k + 1) = lfas F C Ln k + (if ¬ Ln ((k : Int) * 4 + 0) = 2 then (@ite Int (evh F C (Ln ((k : Int) * 4 + 2)) (Ln ((k : Int) * 4 + 3))) (Classical.propDecidable _) (if Ln ((k : Int) * 4 + 0) = 0 then Ln ((k : Int) * 4 + 1) else -Ln ((k : Int) * 4 + 1)) 0) else 0) := rfl
    rw [s0, s1, s2, r1, r2, c1]
    have h3 : x.1 = 0 ∨ x.1 = 1 ∨ x.1 = 2 := by omega
    by_cases hv : lv F x
    · have a1 := e1.mpr hv
      have a2 := e2.mpr hv
      rcases h3 with h3 | h3 | h3
      · rw [if_pos (show ¬ x.1 = 2 by omega), if_pos a1, if_pos h3, if_pos (show x.1 = 0 ∧ HH ls F (k : Int) from ⟨h3, a2⟩), if_neg (show ¬ (x.1 = 1 ∧ HH ls F (k : Int)) from fun hh => by have := hh.1; omega), if_neg (show ¬ x.1 = 2 by omega), c2 (by omega)]
        omega
      · rw [if_pos (show ¬ x.1 = 2 by omega), if_pos a1, if_neg (show ¬ x.1 = 0 by omega), if_neg (show ¬ (x.1 = 0 ∧ HH ls F (k : Int)) from fun hh => by have := hh.1; omega), if_pos (show x.1 = 1 ∧ HH ls F (k : Int) from ⟨h3, a2⟩), if_neg (show ¬ x.1 = 2 by omega), c2 (by omega)]
        omega
      · rw [if_neg (show ¬ ¬ x.1 = 2 from fun hh => hh h3), if_neg (show ¬ (x.1 = 0 ∧ HH ls F (k : Int)) from fun hh => by have := hh.1; omega), if_neg (show ¬ (x.1 = 1 ∧ HH ls F (k : Int)) from fun hh => by have := hh.1; omega)]
        omega
    · have a1 : ¬ evh F C (Ln ((k : Int) * 4 + 2)) (Ln ((k : Int) * 4 + 3)) := fun hh => hv (e1.mp hh)
      have a2 : ¬ HH ls F (k : Int) := fun hh => hv (e2.mp hh)
      rw [if_neg (show ¬ (x.1 = 0 ∧ HH ls F (k : Int)) from fun hh => a2 hh.2), if_neg (show ¬ (x.1 = 1 ∧ HH ls F (k : Int)) from fun hh => a2 hh.2)]
      by_cases h2 : x.1 = 2
      · rw [if_neg (show ¬ ¬ x.1 = 2 from fun hh => hh h2)]
        omega
      · rw [if_pos h2, if_neg a1]
        omega
theorem rsum_2 (hW : LW ls) (hR : LR ls G) : ∀ k : Nat, k ≤ ls.length → 0 ≤ rsum (HH ls) F G 2 k ∧ (0 < rsum (HH ls) F G 2 k ↔ ∃ (u : Nat) (x : lln), u < k ∧ ls[u]? = some x ∧ x.1 = 2 ∧ lv F x) := by
  intro k
  induction k with
  | zero => intro _; exact ⟨Int.le_refl _, fun h => absurd h (by show ¬ (0 : Int) < 0; decide), fun ⟨u, x, h, _⟩ => absurd h (Nat.not_lt_zero _)⟩
  | succ k ih =>
    intro hk
    obtain ⟨x, hx⟩ := lq_at (ls := ls) (k := k) (by omega)
    obtain ⟨i1, i2⟩ := ih (by omega)
    obtain ⟨r1, r2, -, -⟩ := hR k x hx
    have e2 := HH_x (F := F) hx
    have s2 : rsum (HH ls) F G 2 (k + 1) = rsum (HH ls) F G 2 k + @ite Int (G (396 + 4 * (k : Int)) = 2 ∧ HH ls F (k : Int)) (Classical.propDecidable _) (G (396 + 4 * (k : Int) + 1)) 0 := rfl
    rw [s2, r1, r2]
    by_cases hv : x.1 = 2 ∧ HH ls F (k : Int)
    · rw [if_pos hv, if_pos hv.1]
      exact ⟨by omega, fun _ => ⟨k, x, Nat.lt_succ_self k, hx, hv.1, e2.mp hv.2⟩, fun _ => by omega⟩
    · rw [if_neg hv]
      refine ⟨by omega, fun h => ?_, fun ⟨u, y, h1, h2, h3, h4⟩ => ?_⟩
      · obtain ⟨u, y, h1, h2⟩ := i2.mp (by omega)
        exact ⟨u, y, by omega, h2⟩
      · by_cases e : u = k
        · subst e
          rw [hx] at h2
          cases h2
          exact absurd ⟨h3, e2.mpr h4⟩ hv
        · have := i2.mpr ⟨u, y, by omega, h2, h3, h4⟩
          omega
theorem lopn_x (hW : LW ls) (hC : LC ls C Ln) (hR : LR ls G) (hF : FB F) : lopn F C Ln (ls.length : Int) ↔ 0 < rsum (HH ls) F G 2 ls.length := by
  rw [(rsum_2 hW hR ls.length (Nat.le_refl _)).2]
  unfold lopn
  constructor
  · rintro ⟨k, ⟨k0, k1⟩, h2, h3⟩
    obtain ⟨u, rfl⟩ : ∃ u : Nat, k = (u : Int) := ⟨k.toNat, by omega⟩
    obtain ⟨x, hx⟩ := lq_at (ls := ls) (k := u) (by omega)
    exact ⟨u, x, by omega, hx, (hC u x hx).1.symm.trans h2, (evh_x hW hC hF hx).mp h3⟩
  · rintro ⟨u, x, h1, hx, h2, h3⟩
    exact ⟨(u : Int), ⟨by omega, by omega⟩, (hC u x hx).1.trans h2, (evh_x hW hC hF hx).mpr h3⟩
/-- FLOW is the same -/
theorem lphi_x (hW : LW ls) (hC : LC ls C Ln) (hR : LR ls G) {l r y : Int} (hs : sp l r = nsp N l r) : lphi N h sp C Ln (ls.length : Int) l r y = rphi N h (HH ls) G (ls.length : Int) l r y := by
  unfold lphi rphi
  rw [hs, show ((ls.length : Int)).toNat = ls.length from Int.toNat_natCast _, lsum_x hW hC hR fb_fcts _ (Nat.le_refl _)]
  congr 2
  omega
theorem nphi_x {l r y : Int} (hs : sp l r = nsp N l r) : nphi sp l r y = rphi0 N l r y := by
  unfold nphi rphi0
  rw [hs]
  congr 2
  omega
end LQ1
