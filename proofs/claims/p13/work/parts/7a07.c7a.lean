/-! 7a07.c7a -/
section
/-! PLACES OF A STATE: what is written there changes one number of the world. -/
noncomputable def pl (i : Int) : Nat × Int := if i < 15 then (if i = 0 then (0, 0) else if i = 1 then (0, 1) else if i = 2 then (1, 3) else if i = 3 then (5, 3) else if i = 4 then (7, 3) else if i = 5 then (3, 3) else if i = 6 then (9, 3) else if i = 7 then (0, 7) else if i = 9 then (0, 6) else if i = 10 then (0, 2) else if i = 11 then (0, 3) else if i = 12 then (0, 4) else if i = 13 then (0, 5) else if i = 14 then (11, 3) else (0, 9)) else if i < 71 then (2, i - 15) else if i < 95 then (4, i - 71) else if i < 119 then (6, i - 95) else if i < 287 then (8, i - 119) else if i < 323 then (10, i - 287) else (12, i - 323)
noncomputable def ip (q : Nat × Int) : Int := if q.1 = 0 ∧ q.2 = 0 then 0 else if q.1 = 0 ∧ q.2 = 1 then 1 else if q.1 = 1 ∧ q.2 = 3 then 2 else if q.1 = 5 ∧ q.2 = 3 then 3 else if q.1 = 7 ∧ q.2 = 3 then 4 else if q.1 = 3 ∧ q.2 = 3 then 5 else if q.1 = 9 ∧ q.2 = 3 then 6 else if q.1 = 0 ∧ q.2 = 7 then 7 else if q.1 = 0 ∧ q.2 = 6 then 9 else if q.1 = 0 ∧ q.2 = 2 then 10 else if q.1 = 0 ∧ q.2 = 3 then 11 else if q.1 = 0 ∧ q.2 = 4 then 12 else if q.1 = 0 ∧ q.2 = 5 then 13 else if q.1 = 11 ∧ q.2 = 3 then 14 else if q.1 = 2 then q.2 + 15 else if q.1 = 4 then q.2 + 71 else if q.1 = 6 then q.2 + 95 else if q.1 = 8 then q.2 + 119 else if q.1 = 10 then q.2 + 287 else q.2 + 323
theorem pl_cases {i : Int} (h : 0 ≤ i ∧ i < 395 ∧ ¬ i = 8) : i = 0 ∨ i = 1 ∨ i = 2 ∨ i = 3 ∨ i = 4 ∨ i = 5 ∨ i = 6 ∨ i = 7 ∨ i = 9 ∨ i = 10 ∨ i = 11 ∨ i = 12 ∨ i = 13 ∨ i = 14 ∨ (15 ≤ i ∧ i < 71) ∨ (71 ≤ i ∧ i < 95) ∨ (95 ≤ i ∧ i < 119) ∨ (119 ≤ i ∧ i < 287) ∨ (287 ≤ i ∧ i < 323) ∨ (323 ≤ i ∧ i < 395) := by omega
section PL
variable {M : gm_M} {b : Nat} {i j k v : Int}
theorem cs_pl (h : 0 ≤ i ∧ i < 395 ∧ ¬ i = 8) : cs M b i = M (b + (pl i).1) (pl i).2 := by
  rcases pl_cases h with rfl | rfl | rfl | rfl | rfl | rfl | rfl | rfl | rfl | rfl | rfl | rfl | rfl | rfl | h | h | h | h | h | h
  · rfl
  · rfl
  · rfl
  · rfl
  · rfl
  · rfl
  · rfl
  · rfl
  · rfl
  · rfl
  · rfl
  · rfl
  · rfl
  · rfl
  · unfold cs pl
    rw [if_neg (show ¬ i < 0 by omega), if_neg (show ¬ i < 15 by omega), if_neg (show ¬ i < 15 by omega), if_pos (show i < 71 by omega), if_pos (show i < 71 by omega)]
  · unfold cs pl
    rw [if_neg (show ¬ i < 0 by omega), if_neg (show ¬ i < 15 by omega), if_neg (show ¬ i < 15 by omega), if_neg (show ¬ i < 71 by omega), if_neg (show ¬ i < 71 by omega), if_pos (show i < 95 by omega), if_pos (show i < 95 by omega)]
  · unfold cs pl
    rw [if_neg (show ¬ i < 0 by omega), if_neg (show ¬ i < 15 by omega), if_neg (show ¬ i < 15 by omega), if_neg (show ¬ i < 71 by omega), if_neg (show ¬ i < 71 by omega), if_neg (show ¬ i < 95 by omega), if_neg (show ¬ i < 95 by omega), if_pos (show i < 119 by omega), if_pos (show i < 119 by omega)]
  · unfold cs pl
    rw [if_neg (show ¬ i < 0 by omega), if_neg (show ¬ i < 15 by omega), if_neg (show ¬ i < 15 by omega), if_neg (show ¬ i < 71 by omega), if_neg (show ¬ i < 71 by omega), if_neg (show ¬ i < 95 by omega), if_neg (show ¬ i < 95 by omega), if_neg (show ¬ i < 119 by omega), if_neg (show ¬ i < 119 by omega), if_pos (show i < 287 by omega), if_pos (show i < 287 by omega)]
  · unfold cs pl
    rw [if_neg (show ¬ i < 0 by omega), if_neg (show ¬ i < 15 by omega), if_neg (show ¬ i < 15 by omega), if_neg (show ¬ i < 71 by omega), if_neg (show ¬ i < 71 by omega), if_neg (show ¬ i < 95 by omega), if_neg (show ¬ i < 95 by omega), if_neg (show ¬ i < 119 by omega), if_neg (show ¬ i < 119 by omega), if_neg (show ¬ i < 287 by omega), if_neg (show ¬ i < 287 by omega), if_pos (show i < 323 by omega), if_pos (show i < 323 by omega)]
  · unfold cs pl
    rw [if_neg (show ¬ i < 0 by omega), if_neg (show ¬ i < 15 by omega), if_neg (show ¬ i < 15 by omega), if_neg (show ¬ i < 71 by omega), if_neg (show ¬ i < 71 by omega), if_neg (show ¬ i < 95 by omega), if_neg (show ¬ i < 95 by omega), if_neg (show ¬ i < 119 by omega), if_neg (show ¬ i < 119 by omega), if_neg (show ¬ i < 287 by omega), if_neg (show ¬ i < 287 by omega), if_neg (show ¬ i < 323 by omega), if_neg (show ¬ i < 323 by omega), if_pos (show i < 395 by omega)]
theorem cs_no (h : ¬ (0 ≤ i ∧ i < 395 ∧ ¬ i = 8)) : cs M b i = 0 := by
  unfold cs
  by_cases h0 : i < 0
  · rw [if_pos h0]
  · rw [if_neg h0]
    by_cases h8 : i = 8
    · subst h8
      rfl
    · rw [if_neg (show ¬ i < 15 by omega), if_neg (show ¬ i < 71 by omega), if_neg (show ¬ i < 95 by omega), if_neg (show ¬ i < 119 by omega), if_neg (show ¬ i < 287 by omega), if_neg (show ¬ i < 323 by omega), if_neg (show ¬ i < 395 by omega)]
theorem ip_pl (h : 0 ≤ i ∧ i < 395 ∧ ¬ i = 8) : ip (pl i) = i := by
  rcases pl_cases h with rfl | rfl | rfl | rfl | rfl | rfl | rfl | rfl | rfl | rfl | rfl | rfl | rfl | rfl | h | h | h | h | h | h
  · rfl
  · rfl
  · rfl
  · rfl
  · rfl
  · rfl
  · rfl
  · rfl
  · rfl
  · rfl
  · rfl
  · rfl
  · rfl
  · rfl
  · have e : pl i = (2, i - 15) := by
      unfold pl
      rw [if_neg (show ¬ i < 15 by omega), if_pos (show i < 71 by omega)]
    rw [e]
    unfold ip
    dsimp only
    rw [if_neg (by omega), if_neg (by omega), if_neg (by omega), if_neg (by omega), if_neg (by omega), if_neg (by omega), if_neg (by omega), if_neg (by omega), if_neg (by omega), if_neg (by omega), if_neg (by omega), if_neg (by omega), if_neg (by omega), if_neg (by omega), if_pos rfl]
    omega
  · have e : pl i = (4, i - 71) := by
      unfold pl
      rw [if_neg (show ¬ i < 15 by omega), if_neg (show ¬ i < 71 by omega), if_pos (show i < 95 by omega)]
    rw [e]
    unfold ip
    dsimp only
    rw [if_neg (by omega), if_neg (by omega), if_neg (by omega), if_neg (by omega), if_neg (by omega), if_neg (by omega), if_neg (by omega), if_neg (by omega), if_neg (by omega), if_neg (by omega), if_neg (by omega), if_neg (by omega), if_neg (by omega), if_neg (by omega), if_neg (by omega), if_pos rfl]
    omega
  · have e : pl i = (6, i - 95) := by
      unfold pl
      rw [if_neg (show ¬ i < 15 by omega), if_neg (show ¬ i < 71 by omega), if_neg (show ¬ i < 95 by omega), if_pos (show i < 119 by omega)]
    rw [e]
    unfold ip
    dsimp only
    rw [if_neg (by omega), if_neg (by omega), if_neg (by omega), if_neg (by omega), if_neg (by omega), if_neg (by omega), if_neg (by omega), if_neg (by omega), if_neg (by omega), if_neg (by omega), if_neg (by omega), if_neg (by omega), if_neg (by omega), if_neg (by omega), if_neg (by omega), if_neg (by omega), if_pos rfl]
    omega
  · have e : pl i = (8, i - 119) := by
      unfold pl
      rw [if_neg (show ¬ i < 15 by omega), if_neg (show ¬ i < 71 by omega), if_neg (show ¬ i < 95 by omega), if_neg (show ¬ i < 119 by omega), if_pos (show i < 287 by omega)]
    rw [e]
    unfold ip
    dsimp only
    rw [if_neg (by omega), if_neg (by omega), if_neg (by omega), if_neg (by omega), if_neg (by omega), if_neg (by omega), if_neg (by omega), if_neg (by omega), if_neg (by omega), if_neg (by omega), if_neg (by omega), if_neg (by omega), if_neg (by omega), if_neg (by omega), if_neg (by omega), if_neg (by omega), if_neg (by omega), if_pos rfl]
    omega
  · have e : pl i = (10, i - 287) := by
      unfold pl
      rw [if_neg (show ¬ i < 15 by omega), if_neg (show ¬ i < 71 by omega), if_neg (show ¬ i < 95 by omega), if_neg (show ¬ i < 119 by omega), if_neg (show ¬ i < 287 by omega), if_pos (show i < 323 by omega)]
    rw [e]
    unfold ip
    dsimp only
    rw [if_neg (by omega), if_neg (by omega), if_neg (by omega), if_neg (by omega), if_neg (by omega), if_neg (by omega), if_neg (by omega), if_neg (by omega), if_neg (by omega), if_neg (by omega), if_neg (by omega), if_neg (by omega), if_neg (by omega), if_neg (by omega), if_neg (by omega), if_neg (by omega), if_neg (by omega), if_neg (by omega), if_pos rfl]
    omega
  · have e : pl i = (12, i - 323) := by
      unfold pl
      rw [if_neg (show ¬ i < 15 by omega), if_neg (show ¬ i < 71 by omega), if_neg (show ¬ i < 95 by omega), if_neg (show ¬ i < 119 by omega), if_neg (show ¬ i < 287 by omega), if_neg (show ¬ i < 323 by omega)]
    rw [e]
    unfold ip
    dsimp only
    rw [if_neg (by omega), if_neg (by omega), if_neg (by omega), if_neg (by omega), if_neg (by omega), if_neg (by omega), if_neg (by omega), if_neg (by omega), if_neg (by omega), if_neg (by omega), if_neg (by omega), if_neg (by omega), if_neg (by omega), if_neg (by omega), if_neg (by omega), if_neg (by omega), if_neg (by omega), if_neg (by omega), if_neg (by omega)]
    omega
theorem cs_put (hk : 0 ≤ k ∧ k < 395 ∧ ¬ k = 8) : cs (gm_uM M (b + (pl k).1) (pl k).2 v) b = nup (cs M b) k v := by
  funext i
  by_cases hi : 0 ≤ i ∧ i < 395 ∧ ¬ i = 8
  · by_cases e : i = k
    · subst e
      rw [cs_pl hi, nup_at]
      exact uM_at
    · rw [cs_pl hi, nup_ne e, cs_pl hi]
      refine uM_ne (fun hh => e ?_)
      have e1 : pl i = pl k := Prod.ext (by omega) hh.2
      rw [← ip_pl hi, ← ip_pl hk, e1]
  · rw [cs_no hi, nup_ne (fun e => hi (by rw [e]; exact hk)), cs_no hi]
theorem cs_f0 : cs (gm_uM M (b + 0) 0 v) b = nup (cs M b) 0 v := cs_put (k := 0) (by decide)
theorem cs_f1 : cs (gm_uM M (b + 0) 1 v) b = nup (cs M b) 1 v := cs_put (k := 1) (by decide)
theorem cs_f2 : cs (gm_uM M (b + 1) 3 v) b = nup (cs M b) 2 v := cs_put (k := 2) (by decide)
theorem cs_f3 : cs (gm_uM M (b + 5) 3 v) b = nup (cs M b) 3 v := cs_put (k := 3) (by decide)
theorem cs_f4 : cs (gm_uM M (b + 7) 3 v) b = nup (cs M b) 4 v := cs_put (k := 4) (by decide)
theorem cs_f5 : cs (gm_uM M (b + 3) 3 v) b = nup (cs M b) 5 v := cs_put (k := 5) (by decide)
theorem cs_f6 : cs (gm_uM M (b + 9) 3 v) b = nup (cs M b) 6 v := cs_put (k := 6) (by decide)
theorem cs_f7 : cs (gm_uM M (b + 0) 7 v) b = nup (cs M b) 7 v := cs_put (k := 7) (by decide)
theorem cs_f9 : cs (gm_uM M (b + 0) 6 v) b = nup (cs M b) 9 v := cs_put (k := 9) (by decide)
theorem cs_f10 : cs (gm_uM M (b + 0) 2 v) b = nup (cs M b) 10 v := cs_put (k := 10) (by decide)
theorem cs_f11 : cs (gm_uM M (b + 0) 3 v) b = nup (cs M b) 11 v := cs_put (k := 11) (by decide)
theorem cs_f12 : cs (gm_uM M (b + 0) 4 v) b = nup (cs M b) 12 v := cs_put (k := 12) (by decide)
theorem cs_f13 : cs (gm_uM M (b + 0) 5 v) b = nup (cs M b) 13 v := cs_put (k := 13) (by decide)
theorem cs_f14 : cs (gm_uM M (b + 11) 3 v) b = nup (cs M b) 14 v := cs_put (k := 14) (by decide)
theorem cs_pS (h0 : 0 ≤ j) (h1 : j < 56) : cs (gm_uM M (b + 2) j v) b = nup (cs M b) (15 + j) v := by
  have e : pl (15 + j) = (2, j) := by
    unfold pl
    rw [if_neg (show ¬ 15 + j < 15 by omega), if_pos (show 15 + j < 71 by omega), show 15 + j - 15 = j by omega]
  have := cs_put (M := M) (b := b) (k := 15 + j) (v := v) ⟨by omega, by omega, by omega⟩
  rw [e] at this
  exact this
theorem cs_pF (h0 : 0 ≤ j) (h1 : j < 24) : cs (gm_uM M (b + 4) j v) b = nup (cs M b) (71 + j) v := by
  have e : pl (71 + j) = (4, j) := by
    unfold pl
    rw [if_neg (show ¬ 71 + j < 15 by omega), if_neg (show ¬ 71 + j < 71 by omega), if_pos (show 71 + j < 95 by omega), show 71 + j - 71 = j by omega]
  have := cs_put (M := M) (b := b) (k := 71 + j) (v := v) ⟨by omega, by omega, by omega⟩
  rw [e] at this
  exact this
theorem cs_pP (h0 : 0 ≤ j) (h1 : j < 24) : cs (gm_uM M (b + 6) j v) b = nup (cs M b) (95 + j) v := by
  have e : pl (95 + j) = (6, j) := by
    unfold pl
    rw [if_neg (show ¬ 95 + j < 15 by omega), if_neg (show ¬ 95 + j < 71 by omega), if_neg (show ¬ 95 + j < 95 by omega), if_pos (show 95 + j < 119 by omega), show 95 + j - 95 = j by omega]
  have := cs_put (M := M) (b := b) (k := 95 + j) (v := v) ⟨by omega, by omega, by omega⟩
  rw [e] at this
  exact this
theorem cs_pL (h0 : 0 ≤ j) (h1 : j < 168) : cs (gm_uM M (b + 8) j v) b = nup (cs M b) (119 + j) v := by
  have e : pl (119 + j) = (8, j) := by
    unfold pl
    rw [if_neg (show ¬ 119 + j < 15 by omega), if_neg (show ¬ 119 + j < 71 by omega), if_neg (show ¬ 119 + j < 95 by omega), if_neg (show ¬ 119 + j < 119 by omega), if_pos (show 119 + j < 287 by omega), show 119 + j - 119 = j by omega]
  have := cs_put (M := M) (b := b) (k := 119 + j) (v := v) ⟨by omega, by omega, by omega⟩
  rw [e] at this
  exact this
theorem cs_pT (h0 : 0 ≤ j) (h1 : j < 36) : cs (gm_uM M (b + 10) j v) b = nup (cs M b) (287 + j) v := by
  have e : pl (287 + j) = (10, j) := by
    unfold pl
    rw [if_neg (show ¬ 287 + j < 15 by omega), if_neg (show ¬ 287 + j < 71 by omega), if_neg (show ¬ 287 + j < 95 by omega), if_neg (show ¬ 287 + j < 119 by omega), if_neg (show ¬ 287 + j < 287 by omega), if_pos (show 287 + j < 323 by omega), show 287 + j - 287 = j by omega]
  have := cs_put (M := M) (b := b) (k := 287 + j) (v := v) ⟨by omega, by omega, by omega⟩
  rw [e] at this
  exact this
theorem cs_pO (h0 : 0 ≤ j) (h1 : j < 72) : cs (gm_uM M (b + 12) j v) b = nup (cs M b) (323 + j) v := by
  have e : pl (323 + j) = (12, j) := by
    unfold pl
    rw [if_neg (show ¬ 323 + j < 15 by omega), if_neg (show ¬ 323 + j < 71 by omega), if_neg (show ¬ 323 + j < 95 by omega), if_neg (show ¬ 323 + j < 119 by omega), if_neg (show ¬ 323 + j < 287 by omega), if_neg (show ¬ 323 + j < 323 by omega), show 323 + j - 323 = j by omega]
  have := cs_put (M := M) (b := b) (k := 323 + j) (v := v) ⟨by omega, by omega, by omega⟩
  rw [e] at this
  exact this
/-- what is written elsewhere doesn't change the state at b -/
theorem cs_el {c : Nat} (h : c < b ∨ b + 12 < c) : cs (gm_uM M c j v) b = cs M b := by
  funext i
  by_cases hi : 0 ≤ i ∧ i < 395 ∧ ¬ i = 8
  · rw [cs_pl hi, cs_pl hi]
    refine uM_ne (fun hh => ?_)
    have hb : (pl i).1 ≤ 12 := by
      rcases pl_cases hi with rfl | rfl | rfl | rfl | rfl | rfl | rfl | rfl | rfl | rfl | rfl | rfl | rfl | rfl | h | h | h | h | h | h
      · decide
      · decide
      · decide
      · decide
      · decide
      · decide
      · decide
      · decide
      · decide
      · decide
      · decide
      · decide
      · decide
      · decide
      · unfold pl
        rw [if_neg (show ¬ i < 15 by omega), if_pos (show i < 71 by omega)]
        exact Nat.le_of_ble_eq_true rfl
      · unfold pl
        rw [if_neg (show ¬ i < 15 by omega), if_neg (show ¬ i < 71 by omega), if_pos (show i < 95 by omega)]
        exact Nat.le_of_ble_eq_true rfl
      · unfold pl
        rw [if_neg (show ¬ i < 15 by omega), if_neg (show ¬ i < 71 by omega), if_neg (show ¬ i < 95 by omega), if_pos (show i < 119 by omega)]
        exact Nat.le_of_ble_eq_true rfl
      · unfold pl
        rw [if_neg (show ¬ i < 15 by omega), if_neg (show ¬ i < 71 by omega), if_neg (show ¬ i < 95 by omega), if_neg (show ¬ i < 119 by omega), if_pos (show i < 287 by omega)]
        exact Nat.le_of_ble_eq_true rfl
      · unfold pl
        rw [if_neg (show ¬ i < 15 by omega), if_neg (show ¬ i < 71 by omega), if_neg (show ¬ i < 95 by omega), if_neg (show ¬ i < 119 by omega), if_neg (show ¬ i < 287 by omega), if_pos (show i < 323 by omega)]
        exact Nat.le_of_ble_eq_true rfl
      · unfold pl
        rw [if_neg (show ¬ i < 15 by omega), if_neg (show ¬ i < 71 by omega), if_neg (show ¬ i < 95 by omega), if_neg (show ¬ i < 119 by omega), if_neg (show ¬ i < 287 by omega), if_neg (show ¬ i < 323 by omega)]
        exact Nat.le_refl _
    omega
  · rw [cs_no hi, cs_no hi]
end PL
/-- a letter opened by p -/
noncomputable def nopn (N : Int → Int) (l p : Int) : Int → Int := nup (nup (nup (nup (nup (nup N (119 + (l * 7 + 5)) p) (119 + (l * 7 + 6)) (N 9)) 14 (N 14 + 1)) (323 + (N 14 * 3 + 0)) (N 9)) (323 + (N 14 * 3 + 1)) l) (323 + (N 14 * 3 + 2)) p
/-- a year more -/
noncomputable def nyr (N : Int → Int) : Int → Int := nup N 9 (N 9 + 1)
/-- a letter thrown in -/
noncomputable def nthr (N : Int → Int) (f t l r : Int) : Int → Int := nup (nup (nup (nup (nup (nup (nup (nup N 4 (N 4 + 1)) (119 + (N 4 * 7 + 0)) f) (119 + (N 4 * 7 + 1)) t) (119 + (N 4 * 7 + 2)) l) (119 + (N 4 * 7 + 3)) (N 9)) (119 + (N 4 * 7 + 4)) r) (119 + (N 4 * 7 + 5)) (-1)) (119 + (N 4 * 7 + 6)) (-1)
/-- one who watches another lane -/
noncomputable def nwat (N : Int → Int) (p w : Int) : Int → Int := nup N (95 + (p * 3 + 2)) w
theorem cs_op_n {M : gm_M} {N : Int → Int} {l p : Int} (hT : cs M 3 = N) (hl : 0 ≤ l ∧ l < 24) (ho : 0 ≤ N 14 ∧ N 14 < 24) : cs (cs_op M l p) 3 = nopn N l p := by
  have e14 : M 14 3 = N 14 := congrFun hT 14
  have e9 : M 3 6 = N 9 := congrFun hT 9
  unfold cs_op nopn
  rw [e14, e9]
  refine (cs_pO (b := 3) (by omega) (by omega)).trans ?_
  refine congrArg (fun z => nup z _ _) ((cs_pO (b := 3) (by omega) (by omega)).trans ?_)
  refine congrArg (fun z => nup z _ _) ((cs_pO (b := 3) (by omega) (by omega)).trans ?_)
  refine congrArg (fun z => nup z _ _) ((cs_f14 (b := 3)).trans ?_)
  refine congrArg (fun z => nup z _ _) ((cs_pL (b := 3) (by omega) (by omega)).trans ?_)
  refine congrArg (fun z => nup z _ _) ((cs_pL (b := 3) (by omega) (by omega)).trans ?_)
  rw [hT]
theorem cs_th_n {M : gm_M} {N : Int → Int} {f t l r : Int} (hT : cs M 3 = N) (ho : 0 ≤ N 4 ∧ N 4 < 24) : cs (cs_th3 M f t l r) 3 = nthr N f t l r := by
  have e4 : M 10 3 = N 4 := congrFun hT 4
  have e9 : M 3 6 = N 9 := congrFun hT 9
  unfold cs_th3 nthr
  rw [e4, e9]
  refine (cs_pL (b := 3) (by omega) (by omega)).trans ?_
  refine congrArg (fun z => nup z _ _) ((cs_pL (b := 3) (by omega) (by omega)).trans ?_)
  refine congrArg (fun z => nup z _ _) ((cs_pL (b := 3) (by omega) (by omega)).trans ?_)
  refine congrArg (fun z => nup z _ _) ((cs_pL (b := 3) (by omega) (by omega)).trans ?_)
  refine congrArg (fun z => nup z _ _) ((cs_pL (b := 3) (by omega) (by omega)).trans ?_)
  refine congrArg (fun z => nup z _ _) ((cs_pL (b := 3) (by omega) (by omega)).trans ?_)
  refine congrArg (fun z => nup z _ _) ((cs_pL (b := 3) (by omega) (by omega)).trans ?_)
  refine congrArg (fun z => nup z _ _) ((cs_f4 (b := 3)).trans ?_)
  rw [hT]
/-- the reference's world, one number of it written -/
theorem ws_put {W : Int → Int} {k v : Int} (h : 0 ≤ k ∧ k < 395 ∧ ¬ k = 8) : ws (nup W k v) = nup (ws W) k v := by
  funext i
  by_cases e : i = k
  · subst e
    unfold ws
    rw [if_pos h, nup_at, nup_at]
  · unfold ws
    rw [nup_ne e, nup_ne e]
end
/-! 7a08.c9cp -/
section
/-! THE CLASS: a State copied upon another one (laid by wip/core/c9.py). -/
/-- a Rows of a State -/
noncomputable def KR1 (n : Nat) (K : gm_K) (R : gm_R) (b i f len : Nat) : Prop := (((1 ≤ b + i ∧ b + i ≤ n) ∧ (K (b + i)).1 = 2 + 4) ∧ ((1 ≤ b + (i + 1) ∧ b + (i + 1) ≤ n) ∧ K (b + (i + 1)) = (0, len))) ∧ R b (f : Int) = b + i ∧ R (b + i) ((2 : Nat) : Int) = b + (i + 1)
/-- a State at b -/
noncomputable def KS (n : Nat) (K : gm_K) (R : gm_R) (b : Nat) : Prop := ((1 ≤ b ∧ b ≤ n) ∧ (K b).1 = 1 + 4) ∧ KR1 n K R b 1 9 56 ∧ KR1 n K R b 3 10 24 ∧ KR1 n K R b 5 11 24 ∧ KR1 n K R b 7 12 168 ∧ KR1 n K R b 9 13 36 ∧ KR1 n K R b 11 14 72
/-- most of its Rows -/
noncomputable def MX (M : gm_M) (b : Nat) : Prop := M (b + 1) 0 = 8 ∧ M (b + 3) 0 = 8 ∧ M (b + 5) 0 = 8 ∧ M (b + 7) 0 = 24 ∧ M (b + 9) 0 = 6 ∧ M (b + 11) 0 = 24
/-- how many there are -/
noncomputable def SZ (M : gm_M) (b : Nat) : Prop := (0 ≤ M (b + 1) 3 ∧ M (b + 1) 3 ≤ 8) ∧ (0 ≤ M (b + 3) 3 ∧ M (b + 3) 3 ≤ 8) ∧ (0 ≤ M (b + 5) 3 ∧ M (b + 5) 3 ≤ 8) ∧ (0 ≤ M (b + 7) 3 ∧ M (b + 7) 3 ≤ 24) ∧ (0 ≤ M (b + 9) 3 ∧ M (b + 9) 3 ≤ 6) ∧ (0 ≤ M (b + 11) 3 ∧ M (b + 11) 3 ≤ 24)
section CP9
variable {X : Int → Int} {LX d bc bs n : Nat} {K : gm_K} {R : gm_R} {M M2 : gm_M} {Q : gm_Q} {b s c a t r len : Nat} {m z : Int}
theorem cpM_ne {k1 k2 : Nat} {sp dp m j : Int} {x : Nat} (h : ¬ x = k2) : gm_cpM M k1 k2 sp dp m x j = M x j := if_neg (fun hh => h hh.1)
theorem cpM_at {k1 k2 : Nat} {m j : Int} (h0 : 0 ≤ j) (h1 : j < m) : gm_cpM M k1 k2 0 0 m k2 j = M k1 j := by
  unfold gm_cpM
  rw [if_pos ⟨rfl, h0, by omega⟩, show (0 : Int) + (j - 0) = j by omega]
theorem cs_ext (f : ∀ i, 0 ≤ i ∧ i < 395 ∧ ¬ i = 8 → M2 (b + (pl i).1) (pl i).2 = M (s + (pl i).1) (pl i).2) : cs M2 b = cs M s := by
  funext i
  by_cases hi : 0 ≤ i ∧ i < 395 ∧ ¬ i = 8
  · rw [cs_pl hi, cs_pl hi, f i hi]
  · rw [cs_no hi, cs_no hi]
theorem rw_copy (hd : 2 ≤ d) (hk : (1 ≤ c ∧ c ≤ n) ∧ (K c).1 = 2 + 4) (hs : (1 ≤ r ∧ r ≤ n) ∧ (K r).1 = 2 + 4) (ha : (1 ≤ a ∧ a ≤ n) ∧ K a = (0, len)) (ht : (1 ≤ t ∧ t ≤ n) ∧ K t = (0, len)) (hra : R c ((2 : Nat) : Int) = a) (hrt : R r ((2 : Nat) : Int) = t) (hl : len < 2147483648) (hm : M c 0 = m) (hz : M r 3 = z) (hb : 0 ≤ z ∧ z ≤ m ∧ m ≤ 100000) (hq : Q (.inl none) n K R (gm_cpM (gm_uM M c 3 z) t a 0 0 (len : Int))) : gm_Wp X LX d bc bs 58 0 (gm_ent 58 [gm_vr c, gm_vr r]) [] n K R M Q := by
  refine gm_sz (gm_p_load (pc := 0) (i := .aload_n 0) (sr := 2) (j := 0) (by decide +kernel) rfl rfl rfl) ?_
  refine gm_sz (gm_p_load (pc := 1) (i := .aload_n 1) (sr := 2) (j := 1) (by decide +kernel) rfl rfl rfl) ?_
  refine gm_sz (fw_gi (pc := 2) (ix := 9) (ci := 2) (j := 3) (x := z) (by decide +kernel) hs (by decide +kernel) (by decide +kernel) hz) ?_
  refine gm_sz (gm_p_load (pc := 5) (i := .aload_n 0) (sr := 2) (j := 0) (by decide +kernel) rfl rfl rfl) ?_
  refine gm_sz (fw_gi (pc := 6) (ix := 15) (ci := 2) (j := 0) (x := m) (by decide +kernel) hk (by decide +kernel) (by decide +kernel) hm) ?_
  refine gm_sz (gm_p_min (pc := 9) (ix := 25) (x := z) (y := m) (by decide +kernel) (by decide +kernel) (gm_w_id (by omega) (by omega)) (gm_w_id (by omega) (by omega)) (Nat.le_of_ble_eq_true rfl) (by omega)) ?_
  rw [show min z m = z by omega]
  refine gm_sz (fw_pi (pc := 12) (ix := 9) (ci := 2) (j := 3) (M' := gm_uM M c 3 z) (by decide +kernel) hk (by decide +kernel) (by decide +kernel) (by decide +kernel) rfl) ?_
  refine gm_sz (gm_p_load (pc := 15) (i := .aload_n 1) (sr := 2) (j := 1) (by decide +kernel) rfl rfl rfl) ?_
  refine gm_sz (fw_gr (pc := 16) (ix := 21) (ci := 2) (j := 2) (r := t) (by decide +kernel) hs (by decide +kernel) (by decide +kernel) hrt) ?_
  refine gm_sz (gm_p_const (pc := 19) (i := .iconst 0) (v := gm_vi 0) (by decide +kernel) (by decide +kernel)) ?_
  refine gm_sz (gm_p_load (pc := 20) (i := .aload_n 0) (sr := 2) (j := 0) (by decide +kernel) rfl rfl rfl) ?_
  refine gm_sz (fw_gr (pc := 21) (ix := 21) (ci := 2) (j := 2) (r := a) (by decide +kernel) hk (by decide +kernel) (by decide +kernel) hra) ?_
  refine gm_sz (gm_p_const (pc := 24) (i := .iconst 0) (v := gm_vi 0) (by decide +kernel) (by decide +kernel)) ?_
  refine gm_sz (gm_p_load (pc := 25) (i := .aload_n 1) (sr := 2) (j := 1) (by decide +kernel) rfl rfl rfl) ?_
  refine gm_sz (fw_gr (pc := 26) (ix := 21) (ci := 2) (j := 2) (r := t) (by decide +kernel) hs (by decide +kernel) (by decide +kernel) hrt) ?_
  refine gm_sz (fw_al (pc := 29) (k := t) (len := len) (by decide +kernel) ht.1 ht.2 (by decide)) ?_
  refine gm_sz (gm_p_load (pc := 30) (i := .aload_n 0) (sr := 2) (j := 0) (by decide +kernel) rfl rfl rfl) ?_
  refine gm_sz (fw_gr (pc := 31) (ix := 21) (ci := 2) (j := 2) (r := a) (by decide +kernel) hk (by decide +kernel) (by decide +kernel) hra) ?_
  refine gm_sz (fw_al (pc := 34) (k := a) (len := len) (by decide +kernel) ha.1 ha.2 (by decide)) ?_
  refine gm_sz (gm_p_min (pc := 35) (ix := 25) (x := (len : Int)) (y := (len : Int)) (by decide +kernel) (by decide +kernel) (gm_w_id (by omega) (by omega)) (gm_w_id (by omega) (by omega)) (Nat.le_of_ble_eq_true rfl) (by omega)) ?_
  rw [show min (len : Int) (len : Int) = (len : Int) by omega]
  refine gm_sz (gm_p_acopy (pc := 38) (ix := 40) (k1 := t) (k2 := a) (sp := 0) (dp := 0) (m := (len : Int)) (by decide +kernel) (by decide +kernel) ht.1 (by rw [ht.2]) ha.1 (by rw [ha.2]) (by decide) (by decide) (gm_w_id (by omega) (by omega)) (by decide) (by decide) (by omega) (by rw [ht.2]; show 0 + (len : Int) ≤ (len : Int); omega) (by rw [ha.2]; show 0 + (len : Int) ≤ (len : Int); omega) (Nat.le_of_ble_eq_true rfl) (by omega)) ?_
  exact gm_r_void (pc := 41) (by decide +kernel) (by decide +kernel) hq
theorem uR_ne {k x : Nat} {j i : Int} {v : Nat} (h : ¬ (x = k ∧ i = j)) : gm_uR R k j v x i = R x i := by
  unfold gm_uR
  rw [if_neg h]
theorem uR_at {k : Nat} {j : Int} {v : Nat} : gm_uR R k j v k j = v := by
  unfold gm_uR
  rw [if_pos ⟨rfl, rfl⟩]
theorem pl_2 {i : Int} (h : 15 ≤ i ∧ i < 71) : pl i = (2, i - 15) := by
  unfold pl
  rw [if_neg (show ¬ i < 15 by omega), if_pos (show i < 71 by omega)]
theorem pl_4 {i : Int} (h : 71 ≤ i ∧ i < 95) : pl i = (4, i - 71) := by
  unfold pl
  rw [if_neg (show ¬ i < 15 by omega), if_neg (show ¬ i < 71 by omega), if_pos (show i < 95 by omega)]
theorem pl_6 {i : Int} (h : 95 ≤ i ∧ i < 119) : pl i = (6, i - 95) := by
  unfold pl
  rw [if_neg (show ¬ i < 15 by omega), if_neg (show ¬ i < 71 by omega), if_neg (show ¬ i < 95 by omega), if_pos (show i < 119 by omega)]
theorem pl_8 {i : Int} (h : 119 ≤ i ∧ i < 287) : pl i = (8, i - 119) := by
  unfold pl
  rw [if_neg (show ¬ i < 15 by omega), if_neg (show ¬ i < 71 by omega), if_neg (show ¬ i < 95 by omega), if_neg (show ¬ i < 119 by omega), if_pos (show i < 287 by omega)]
theorem pl_10 {i : Int} (h : 287 ≤ i ∧ i < 323) : pl i = (10, i - 287) := by
  unfold pl
  rw [if_neg (show ¬ i < 15 by omega), if_neg (show ¬ i < 71 by omega), if_neg (show ¬ i < 95 by omega), if_neg (show ¬ i < 119 by omega), if_neg (show ¬ i < 287 by omega), if_pos (show i < 323 by omega)]
theorem pl_12 {i : Int} (h : 323 ≤ i ∧ i < 395) : pl i = (12, i - 323) := by
  unfold pl
  rw [if_neg (show ¬ i < 15 by omega), if_neg (show ¬ i < 71 by omega), if_neg (show ¬ i < 95 by omega), if_neg (show ¬ i < 119 by omega), if_neg (show ¬ i < 287 by omega), if_neg (show ¬ i < 323 by omega)]
theorem st_copy (hd : 3 ≤ d) (hb : KS n K R b) (hs : KS n K R s) (hne : b + 12 < s ∨ s + 12 < b) (hmx : MX M b) (hsz : SZ M s) (hq : ∀ M2, (∀ (x : Nat) (j : Int), (x < b ∨ b + 12 < x) → M2 x j = M x j) → (∀ (x : Nat) (j : Int), 0 ≤ j → j < 3 → ((x : Int) = b + 1 ∨ (x : Int) = b + 3 ∨ (x : Int) = b + 5 ∨ (x : Int) = b + 7 ∨ (x : Int) = b + 9 ∨ (x : Int) = b + 11) → M2 x j = M x j) → cs M2 b = cs M s → Q (.inl none) n K (gm_uR R b 8 (R s 8)) M2) : gm_Wp X LX d bc bs 57 0 (gm_ent 57 [gm_vr b, gm_vr s]) [] n K R M Q := by
  obtain ⟨⟨z1, z2⟩, ⟨z3, z4⟩, ⟨z5, z6⟩, ⟨z7, z8⟩, ⟨z9, z10⟩, z11, z12⟩ := id hsz
  refine gm_sz (gm_p_load (pc := 0) (i := .aload_n 0) (sr := 2) (j := 0) (by decide +kernel) rfl rfl rfl) ?_
  refine gm_sz (gm_p_load (pc := 1) (i := .aload_n 1) (sr := 2) (j := 1) (by decide +kernel) rfl rfl rfl) ?_
  refine gm_sz (fw_gi (pc := 2) (ix := 9) (ci := 1) (j := 0) (x := M s 0) (by decide +kernel) hs.1 (by decide +kernel) (by decide +kernel) rfl) ?_
  refine gm_sz (fw_pi (pc := 5) (ix := 9) (ci := 1) (j := 0) (M' := gm_uM M b 0 (M s 0)) (by decide +kernel) hb.1 (by decide +kernel) (by decide +kernel) (by decide +kernel) rfl) ?_
  refine gm_sz (gm_p_load (pc := 8) (i := .aload_n 0) (sr := 2) (j := 0) (by decide +kernel) rfl rfl rfl) ?_
  refine gm_sz (gm_p_load (pc := 9) (i := .aload_n 1) (sr := 2) (j := 1) (by decide +kernel) rfl rfl rfl) ?_
  refine gm_sz (fw_gi (pc := 10) (ix := 15) (ci := 1) (j := 1) (x := M s 1) (by decide +kernel) hs.1 (by decide +kernel) (by decide +kernel) (uM_ne (by omega))) ?_
  refine gm_sz (fw_pi (pc := 13) (ix := 15) (ci := 1) (j := 1) (M' := gm_uM (gm_uM M b 0 (M s 0)) b 1 (M s 1)) (by decide +kernel) hb.1 (by decide +kernel) (by decide +kernel) (by decide +kernel) rfl) ?_
  refine gm_sz (gm_p_load (pc := 16) (i := .aload_n 0) (sr := 2) (j := 0) (by decide +kernel) rfl rfl rfl) ?_
  refine gm_sz (gm_p_load (pc := 17) (i := .aload_n 1) (sr := 2) (j := 1) (by decide +kernel) rfl rfl rfl) ?_
  refine gm_sz (fw_gi (pc := 18) (ix := 18) (ci := 1) (j := 2) (x := M s 2) (by decide +kernel) hs.1 (by decide +kernel) (by decide +kernel) ((uM_ne (by omega)).trans (uM_ne (by omega)))) ?_
  refine gm_sz (fw_pi (pc := 21) (ix := 18) (ci := 1) (j := 2) (M' := gm_uM (gm_uM (gm_uM M b 0 (M s 0)) b 1 (M s 1)) b 2 (M s 2)) (by decide +kernel) hb.1 (by decide +kernel) (by decide +kernel) (by decide +kernel) rfl) ?_
  refine gm_sz (gm_p_load (pc := 24) (i := .aload_n 0) (sr := 2) (j := 0) (by decide +kernel) rfl rfl rfl) ?_
  refine gm_sz (gm_p_load (pc := 25) (i := .aload_n 1) (sr := 2) (j := 1) (by decide +kernel) rfl rfl rfl) ?_
  refine gm_sz (fw_gi (pc := 26) (ix := 21) (ci := 1) (j := 3) (x := M s 3) (by decide +kernel) hs.1 (by decide +kernel) (by decide +kernel) ((uM_ne (by omega)).trans ((uM_ne (by omega)).trans (uM_ne (by omega))))) ?_
  refine gm_sz (fw_pi (pc := 29) (ix := 21) (ci := 1) (j := 3) (M' := gm_uM (gm_uM (gm_uM (gm_uM M b 0 (M s 0)) b 1 (M s 1)) b 2 (M s 2)) b 3 (M s 3)) (by decide +kernel) hb.1 (by decide +kernel) (by decide +kernel) (by decide +kernel) rfl) ?_
  refine gm_sz (gm_p_load (pc := 32) (i := .aload_n 0) (sr := 2) (j := 0) (by decide +kernel) rfl rfl rfl) ?_
  refine gm_sz (gm_p_load (pc := 33) (i := .aload_n 1) (sr := 2) (j := 1) (by decide +kernel) rfl rfl rfl) ?_
  refine gm_sz (fw_gi (pc := 34) (ix := 24) (ci := 1) (j := 4) (x := M s 4) (by decide +kernel) hs.1 (by decide +kernel) (by decide +kernel) ((uM_ne (by omega)).trans ((uM_ne (by omega)).trans ((uM_ne (by omega)).trans (uM_ne (by omega)))))) ?_
  refine gm_sz (fw_pi (pc := 37) (ix := 24) (ci := 1) (j := 4) (M' := gm_uM (gm_uM (gm_uM (gm_uM (gm_uM M b 0 (M s 0)) b 1 (M s 1)) b 2 (M s 2)) b 3 (M s 3)) b 4 (M s 4)) (by decide +kernel) hb.1 (by decide +kernel) (by decide +kernel) (by decide +kernel) rfl) ?_
  refine gm_sz (gm_p_load (pc := 40) (i := .aload_n 0) (sr := 2) (j := 0) (by decide +kernel) rfl rfl rfl) ?_
  refine gm_sz (gm_p_load (pc := 41) (i := .aload_n 1) (sr := 2) (j := 1) (by decide +kernel) rfl rfl rfl) ?_
  refine gm_sz (fw_gi (pc := 42) (ix := 27) (ci := 1) (j := 5) (x := M s 5) (by decide +kernel) hs.1 (by decide +kernel) (by decide +kernel) ((uM_ne (by omega)).trans ((uM_ne (by omega)).trans ((uM_ne (by omega)).trans ((uM_ne (by omega)).trans (uM_ne (by omega))))))) ?_
  refine gm_sz (fw_pi (pc := 45) (ix := 27) (ci := 1) (j := 5) (M' := gm_uM (gm_uM (gm_uM (gm_uM (gm_uM (gm_uM M b 0 (M s 0)) b 1 (M s 1)) b 2 (M s 2)) b 3 (M s 3)) b 4 (M s 4)) b 5 (M s 5)) (by decide +kernel) hb.1 (by decide +kernel) (by decide +kernel) (by decide +kernel) rfl) ?_
  refine gm_sz (gm_p_load (pc := 48) (i := .aload_n 0) (sr := 2) (j := 0) (by decide +kernel) rfl rfl rfl) ?_
  refine gm_sz (gm_p_load (pc := 49) (i := .aload_n 1) (sr := 2) (j := 1) (by decide +kernel) rfl rfl rfl) ?_
  refine gm_sz (fw_gi (pc := 50) (ix := 30) (ci := 1) (j := 6) (x := M s 6) (by decide +kernel) hs.1 (by decide +kernel) (by decide +kernel) ((uM_ne (by omega)).trans ((uM_ne (by omega)).trans ((uM_ne (by omega)).trans ((uM_ne (by omega)).trans ((uM_ne (by omega)).trans (uM_ne (by omega)))))))) ?_
  refine gm_sz (fw_pi (pc := 53) (ix := 30) (ci := 1) (j := 6) (M' := gm_uM (gm_uM (gm_uM (gm_uM (gm_uM (gm_uM (gm_uM M b 0 (M s 0)) b 1 (M s 1)) b 2 (M s 2)) b 3 (M s 3)) b 4 (M s 4)) b 5 (M s 5)) b 6 (M s 6)) (by decide +kernel) hb.1 (by decide +kernel) (by decide +kernel) (by decide +kernel) rfl) ?_
  refine gm_sz (gm_p_load (pc := 56) (i := .aload_n 0) (sr := 2) (j := 0) (by decide +kernel) rfl rfl rfl) ?_
  refine gm_sz (gm_p_load (pc := 57) (i := .aload_n 1) (sr := 2) (j := 1) (by decide +kernel) rfl rfl rfl) ?_
  refine gm_sz (fw_gi (pc := 58) (ix := 33) (ci := 1) (j := 7) (x := M s 7) (by decide +kernel) hs.1 (by decide +kernel) (by decide +kernel) ((uM_ne (by omega)).trans ((uM_ne (by omega)).trans ((uM_ne (by omega)).trans ((uM_ne (by omega)).trans ((uM_ne (by omega)).trans ((uM_ne (by omega)).trans (uM_ne (by omega))))))))) ?_
  refine gm_sz (fw_pi (pc := 61) (ix := 33) (ci := 1) (j := 7) (M' := gm_uM (gm_uM (gm_uM (gm_uM (gm_uM (gm_uM (gm_uM (gm_uM M b 0 (M s 0)) b 1 (M s 1)) b 2 (M s 2)) b 3 (M s 3)) b 4 (M s 4)) b 5 (M s 5)) b 6 (M s 6)) b 7 (M s 7)) (by decide +kernel) hb.1 (by decide +kernel) (by decide +kernel) (by decide +kernel) rfl) ?_
  refine gm_sz (gm_p_load (pc := 64) (i := .aload_n 0) (sr := 2) (j := 0) (by decide +kernel) rfl rfl rfl) ?_
  refine gm_sz (gm_p_load (pc := 65) (i := .aload_n 1) (sr := 2) (j := 1) (by decide +kernel) rfl rfl rfl) ?_
  refine gm_sz (fw_gr (pc := 66) (ix := 36) (ci := 1) (j := 8) (r := (R s 8)) (by decide +kernel) hs.1 (by decide +kernel) (by decide +kernel) rfl) ?_
  refine gm_sz (gm_p_putr (pc := 69) (ix := 36) (ci := 1) (j := 8) (by decide +kernel) hb.1.1 hb.1.2 (by decide +kernel) (by decide +kernel) (by decide +kernel)) ?_
  refine gm_sz (gm_p_load (pc := 72) (i := .aload_n 0) (sr := 2) (j := 0) (by decide +kernel) rfl rfl rfl) ?_
  refine gm_sz (fw_gr (pc := 73) (ix := 45) (ci := 1) (j := 9) (r := b + 1) (by decide +kernel) hb.1 (by decide +kernel) (by decide +kernel) ((uR_ne (by omega)).trans hb.2.1.2.1)) ?_
  refine gm_sz (gm_p_load (pc := 76) (i := .aload_n 1) (sr := 2) (j := 1) (by decide +kernel) rfl rfl rfl) ?_
  refine gm_sz (fw_gr (pc := 77) (ix := 45) (ci := 1) (j := 9) (r := s + 1) (by decide +kernel) hs.1 (by decide +kernel) (by decide +kernel) ((uR_ne (by omega)).trans hs.2.1.2.1)) ?_
  refine gm_c_virt (k := b + 1) (ci := 2) (mj := 58) (ix := 64) (pc := 80) (as := [gm_vr (s + 1)]) (st := []) (d' := d - 1) (bc' := 0) (bs' := 0) (by decide +kernel) (by decide +kernel) (by decide +kernel) (by decide +kernel) hb.2.1.1.1.1 hb.2.1.1.1.2 (by decide) (by decide +kernel) (show 1 = gm_na 58 by decide +kernel) (fw_c1 fw_sr) (show 2 ≤ gm_ml 58 by decide +kernel) (Nat.le_of_ble_eq_true rfl) (by omega) (Nat.zero_le _) (Nat.zero_le _) ?_
  refine rw_copy (m := 8) (z := M (s + 1) 3) (by omega) hb.2.1.1.1 hs.2.1.1.1 hb.2.1.1.2 hs.2.1.1.2 ((uR_ne (by omega)).trans hb.2.1.2.2) ((uR_ne (by omega)).trans hs.2.1.2.2) (by decide) ((uM_ne (by omega)).trans ((uM_ne (by omega)).trans ((uM_ne (by omega)).trans ((uM_ne (by omega)).trans ((uM_ne (by omega)).trans ((uM_ne (by omega)).trans ((uM_ne (by omega)).trans ((uM_ne (by omega)).trans hmx.1)))))))) ((uM_ne (by omega)).trans ((uM_ne (by omega)).trans ((uM_ne (by omega)).trans ((uM_ne (by omega)).trans ((uM_ne (by omega)).trans ((uM_ne (by omega)).trans ((uM_ne (by omega)).trans (uM_ne (by omega))))))))) ⟨by omega, by omega, by omega⟩ ?_
  show gm_Wp X LX d _ _ 57 83 _ [] n K _ _ Q
  refine gm_sz (gm_p_load (pc := 83) (i := .aload_n 0) (sr := 2) (j := 0) (by decide +kernel) rfl rfl rfl) ?_
  refine gm_sz (fw_gr (pc := 84) (ix := 49) (ci := 1) (j := 10) (r := b + 3) (by decide +kernel) hb.1 (by decide +kernel) (by decide +kernel) ((uR_ne (by omega)).trans hb.2.2.1.2.1)) ?_
  refine gm_sz (gm_p_load (pc := 87) (i := .aload_n 1) (sr := 2) (j := 1) (by decide +kernel) rfl rfl rfl) ?_
  refine gm_sz (fw_gr (pc := 88) (ix := 49) (ci := 1) (j := 10) (r := s + 3) (by decide +kernel) hs.1 (by decide +kernel) (by decide +kernel) ((uR_ne (by omega)).trans hs.2.2.1.2.1)) ?_
  refine gm_c_virt (k := b + 3) (ci := 2) (mj := 58) (ix := 64) (pc := 91) (as := [gm_vr (s + 3)]) (st := []) (d' := d - 1) (bc' := 0) (bs' := 0) (by decide +kernel) (by decide +kernel) (by decide +kernel) (by decide +kernel) hb.2.2.1.1.1.1 hb.2.2.1.1.1.2 (by decide) (by decide +kernel) (show 1 = gm_na 58 by decide +kernel) (fw_c1 fw_sr) (show 2 ≤ gm_ml 58 by decide +kernel) (Nat.le_of_ble_eq_true rfl) (by omega) (Nat.zero_le _) (Nat.zero_le _) ?_
  refine rw_copy (m := 8) (z := M (s + 3) 3) (by omega) hb.2.2.1.1.1 hs.2.2.1.1.1 hb.2.2.1.1.2 hs.2.2.1.1.2 ((uR_ne (by omega)).trans hb.2.2.1.2.2) ((uR_ne (by omega)).trans hs.2.2.1.2.2) (by decide) ((((cpM_ne (by omega)).trans (uM_ne (by omega)))).trans ((uM_ne (by omega)).trans ((uM_ne (by omega)).trans ((uM_ne (by omega)).trans ((uM_ne (by omega)).trans ((uM_ne (by omega)).trans ((uM_ne (by omega)).trans ((uM_ne (by omega)).trans ((uM_ne (by omega)).trans hmx.2.1))))))))) ((((cpM_ne (by omega)).trans (uM_ne (by omega)))).trans ((uM_ne (by omega)).trans ((uM_ne (by omega)).trans ((uM_ne (by omega)).trans ((uM_ne (by omega)).trans ((uM_ne (by omega)).trans ((uM_ne (by omega)).trans ((uM_ne (by omega)).trans (uM_ne (by omega)))))))))) ⟨by omega, by omega, by omega⟩ ?_
  show gm_Wp X LX d _ _ 57 94 _ [] n K _ _ Q
  refine gm_sz (gm_p_load (pc := 94) (i := .aload_n 0) (sr := 2) (j := 0) (by decide +kernel) rfl rfl rfl) ?_
  refine gm_sz (fw_gr (pc := 95) (ix := 52) (ci := 1) (j := 11) (r := b + 5) (by decide +kernel) hb.1 (by decide +kernel) (by decide +kernel) ((uR_ne (by omega)).trans hb.2.2.2.1.2.1)) ?_
  refine gm_sz (gm_p_load (pc := 98) (i := .aload_n 1) (sr := 2) (j := 1) (by decide +kernel) rfl rfl rfl) ?_
  refine gm_sz (fw_gr (pc := 99) (ix := 52) (ci := 1) (j := 11) (r := s + 5) (by decide +kernel) hs.1 (by decide +kernel) (by decide +kernel) ((uR_ne (by omega)).trans hs.2.2.2.1.2.1)) ?_
  refine gm_c_virt (k := b + 5) (ci := 2) (mj := 58) (ix := 64) (pc := 102) (as := [gm_vr (s + 5)]) (st := []) (d' := d - 1) (bc' := 0) (bs' := 0) (by decide +kernel) (by decide +kernel) (by decide +kernel) (by decide +kernel) hb.2.2.2.1.1.1.1 hb.2.2.2.1.1.1.2 (by decide) (by decide +kernel) (show 1 = gm_na 58 by decide +kernel) (fw_c1 fw_sr) (show 2 ≤ gm_ml 58 by decide +kernel) (Nat.le_of_ble_eq_true rfl) (by omega) (Nat.zero_le _) (Nat.zero_le _) ?_
  refine rw_copy (m := 8) (z := M (s + 5) 3) (by omega) hb.2.2.2.1.1.1 hs.2.2.2.1.1.1 hb.2.2.2.1.1.2 hs.2.2.2.1.1.2 ((uR_ne (by omega)).trans hb.2.2.2.1.2.2) ((uR_ne (by omega)).trans hs.2.2.2.1.2.2) (by decide) ((((cpM_ne (by omega)).trans (uM_ne (by omega)))).trans ((((cpM_ne (by omega)).trans (uM_ne (by omega)))).trans ((uM_ne (by omega)).trans ((uM_ne (by omega)).trans ((uM_ne (by omega)).trans ((uM_ne (by omega)).trans ((uM_ne (by omega)).trans ((uM_ne (by omega)).trans ((uM_ne (by omega)).trans ((uM_ne (by omega)).trans hmx.2.2.1)))))))))) ((((cpM_ne (by omega)).trans (uM_ne (by omega)))).trans ((((cpM_ne (by omega)).trans (uM_ne (by omega)))).trans ((uM_ne (by omega)).trans ((uM_ne (by omega)).trans ((uM_ne (by omega)).trans ((uM_ne (by omega)).trans ((uM_ne (by omega)).trans ((uM_ne (by omega)).trans ((uM_ne (by omega)).trans (uM_ne (by omega))))))))))) ⟨by omega, by omega, by omega⟩ ?_
  show gm_Wp X LX d _ _ 57 105 _ [] n K _ _ Q
  refine gm_sz (gm_p_load (pc := 105) (i := .aload_n 0) (sr := 2) (j := 0) (by decide +kernel) rfl rfl rfl) ?_
  refine gm_sz (fw_gr (pc := 106) (ix := 55) (ci := 1) (j := 12) (r := b + 7) (by decide +kernel) hb.1 (by decide +kernel) (by decide +kernel) ((uR_ne (by omega)).trans hb.2.2.2.2.1.2.1)) ?_
  refine gm_sz (gm_p_load (pc := 109) (i := .aload_n 1) (sr := 2) (j := 1) (by decide +kernel) rfl rfl rfl) ?_
  refine gm_sz (fw_gr (pc := 110) (ix := 55) (ci := 1) (j := 12) (r := s + 7) (by decide +kernel) hs.1 (by decide +kernel) (by decide +kernel) ((uR_ne (by omega)).trans hs.2.2.2.2.1.2.1)) ?_
  refine gm_c_virt (k := b + 7) (ci := 2) (mj := 58) (ix := 64) (pc := 113) (as := [gm_vr (s + 7)]) (st := []) (d' := d - 1) (bc' := 0) (bs' := 0) (by decide +kernel) (by decide +kernel) (by decide +kernel) (by decide +kernel) hb.2.2.2.2.1.1.1.1 hb.2.2.2.2.1.1.1.2 (by decide) (by decide +kernel) (show 1 = gm_na 58 by decide +kernel) (fw_c1 fw_sr) (show 2 ≤ gm_ml 58 by decide +kernel) (Nat.le_of_ble_eq_true rfl) (by omega) (Nat.zero_le _) (Nat.zero_le _) ?_
  refine rw_copy (m := 24) (z := M (s + 7) 3) (by omega) hb.2.2.2.2.1.1.1 hs.2.2.2.2.1.1.1 hb.2.2.2.2.1.1.2 hs.2.2.2.2.1.1.2 ((uR_ne (by omega)).trans hb.2.2.2.2.1.2.2) ((uR_ne (by omega)).trans hs.2.2.2.2.1.2.2) (by decide) ((((cpM_ne (by omega)).trans (uM_ne (by omega)))).trans ((((cpM_ne (by omega)).trans (uM_ne (by omega)))).trans ((((cpM_ne (by omega)).trans (uM_ne (by omega)))).trans ((uM_ne (by omega)).trans ((uM_ne (by omega)).trans ((uM_ne (by omega)).trans ((uM_ne (by omega)).trans ((uM_ne (by omega)).trans ((uM_ne (by omega)).trans ((uM_ne (by omega)).trans ((uM_ne (by omega)).trans hmx.2.2.2.1))))))))))) ((((cpM_ne (by omega)).trans (uM_ne (by omega)))).trans ((((cpM_ne (by omega)).trans (uM_ne (by omega)))).trans ((((cpM_ne (by omega)).trans (uM_ne (by omega)))).trans ((uM_ne (by omega)).trans ((uM_ne (by omega)).trans ((uM_ne (by omega)).trans ((uM_ne (by omega)).trans ((uM_ne (by omega)).trans ((uM_ne (by omega)).trans ((uM_ne (by omega)).trans (uM_ne (by omega)))))))))))) ⟨by omega, by omega, by omega⟩ ?_
  show gm_Wp X LX d _ _ 57 116 _ [] n K _ _ Q
  refine gm_sz (gm_p_load (pc := 116) (i := .aload_n 0) (sr := 2) (j := 0) (by decide +kernel) rfl rfl rfl) ?_
  refine gm_sz (fw_gr (pc := 117) (ix := 58) (ci := 1) (j := 13) (r := b + 9) (by decide +kernel) hb.1 (by decide +kernel) (by decide +kernel) ((uR_ne (by omega)).trans hb.2.2.2.2.2.1.2.1)) ?_
  refine gm_sz (gm_p_load (pc := 120) (i := .aload_n 1) (sr := 2) (j := 1) (by decide +kernel) rfl rfl rfl) ?_
  refine gm_sz (fw_gr (pc := 121) (ix := 58) (ci := 1) (j := 13) (r := s + 9) (by decide +kernel) hs.1 (by decide +kernel) (by decide +kernel) ((uR_ne (by omega)).trans hs.2.2.2.2.2.1.2.1)) ?_
  refine gm_c_virt (k := b + 9) (ci := 2) (mj := 58) (ix := 64) (pc := 124) (as := [gm_vr (s + 9)]) (st := []) (d' := d - 1) (bc' := 0) (bs' := 0) (by decide +kernel) (by decide +kernel) (by decide +kernel) (by decide +kernel) hb.2.2.2.2.2.1.1.1.1 hb.2.2.2.2.2.1.1.1.2 (by decide) (by decide +kernel) (show 1 = gm_na 58 by decide +kernel) (fw_c1 fw_sr) (show 2 ≤ gm_ml 58 by decide +kernel) (Nat.le_of_ble_eq_true rfl) (by omega) (Nat.zero_le _) (Nat.zero_le _) ?_
  refine rw_copy (m := 6) (z := M (s + 9) 3) (by omega) hb.2.2.2.2.2.1.1.1 hs.2.2.2.2.2.1.1.1 hb.2.2.2.2.2.1.1.2 hs.2.2.2.2.2.1.1.2 ((uR_ne (by omega)).trans hb.2.2.2.2.2.1.2.2) ((uR_ne (by omega)).trans hs.2.2.2.2.2.1.2.2) (by decide) ((((cpM_ne (by omega)).trans (uM_ne (by omega)))).trans ((((cpM_ne (by omega)).trans (uM_ne (by omega)))).trans ((((cpM_ne (by omega)).trans (uM_ne (by omega)))).trans ((((cpM_ne (by omega)).trans (uM_ne (by omega)))).trans ((uM_ne (by omega)).trans ((uM_ne (by omega)).trans ((uM_ne (by omega)).trans ((uM_ne (by omega)).trans ((uM_ne (by omega)).trans ((uM_ne (by omega)).trans ((uM_ne (by omega)).trans ((uM_ne (by omega)).trans hmx.2.2.2.2.1)))))))))))) ((((cpM_ne (by omega)).trans (uM_ne (by omega)))).trans ((((cpM_ne (by omega)).trans (uM_ne (by omega)))).trans ((((cpM_ne (by omega)).trans (uM_ne (by omega)))).trans ((((cpM_ne (by omega)).trans (uM_ne (by omega)))).trans ((uM_ne (by omega)).trans ((uM_ne (by omega)).trans ((uM_ne (by omega)).trans ((uM_ne (by omega)).trans ((uM_ne (by omega)).trans ((uM_ne (by omega)).trans ((uM_ne (by omega)).trans (uM_ne (by omega))))))))))))) ⟨by omega, by omega, by omega⟩ ?_
  show gm_Wp X LX d _ _ 57 127 _ [] n K _ _ Q
  refine gm_sz (gm_p_load (pc := 127) (i := .aload_n 0) (sr := 2) (j := 0) (by decide +kernel) rfl rfl rfl) ?_
  refine gm_sz (fw_gr (pc := 128) (ix := 61) (ci := 1) (j := 14) (r := b + 11) (by decide +kernel) hb.1 (by decide +kernel) (by decide +kernel) ((uR_ne (by omega)).trans hb.2.2.2.2.2.2.2.1)) ?_
  refine gm_sz (gm_p_load (pc := 131) (i := .aload_n 1) (sr := 2) (j := 1) (by decide +kernel) rfl rfl rfl) ?_
  refine gm_sz (fw_gr (pc := 132) (ix := 61) (ci := 1) (j := 14) (r := s + 11) (by decide +kernel) hs.1 (by decide +kernel) (by decide +kernel) ((uR_ne (by omega)).trans hs.2.2.2.2.2.2.2.1)) ?_
  refine gm_c_virt (k := b + 11) (ci := 2) (mj := 58) (ix := 64) (pc := 135) (as := [gm_vr (s + 11)]) (st := []) (d' := d - 1) (bc' := 0) (bs' := 0) (by decide +kernel) (by decide +kernel) (by decide +kernel) (by decide +kernel) hb.2.2.2.2.2.2.1.1.1 hb.2.2.2.2.2.2.1.1.2 (by decide) (by decide +kernel) (show 1 = gm_na 58 by decide +kernel) (fw_c1 fw_sr) (show 2 ≤ gm_ml 58 by decide +kernel) (Nat.le_of_ble_eq_true rfl) (by omega) (Nat.zero_le _) (Nat.zero_le _) ?_
  refine rw_copy (m := 24) (z := M (s + 11) 3) (by omega) hb.2.2.2.2.2.2.1.1 hs.2.2.2.2.2.2.1.1 hb.2.2.2.2.2.2.1.2 hs.2.2.2.2.2.2.1.2 ((uR_ne (by omega)).trans hb.2.2.2.2.2.2.2.2) ((uR_ne (by omega)).trans hs.2.2.2.2.2.2.2.2) (by decide) ((((cpM_ne (by omega)).trans (uM_ne (by omega)))).trans ((((cpM_ne (by omega)).trans (uM_ne (by omega)))).trans ((((cpM_ne (by omega)).trans (uM_ne (by omega)))).trans ((((cpM_ne (by omega)).trans (uM_ne (by omega)))).trans ((((cpM_ne (by omega)).trans (uM_ne (by omega)))).trans ((uM_ne (by omega)).trans ((uM_ne (by omega)).trans ((uM_ne (by omega)).trans ((uM_ne (by omega)).trans ((uM_ne (by omega)).trans ((uM_ne (by omega)).trans ((uM_ne (by omega)).trans ((uM_ne (by omega)).trans hmx.2.2.2.2.2))))))))))))) ((((cpM_ne (by omega)).trans (uM_ne (by omega)))).trans ((((cpM_ne (by omega)).trans (uM_ne (by omega)))).trans ((((cpM_ne (by omega)).trans (uM_ne (by omega)))).trans ((((cpM_ne (by omega)).trans (uM_ne (by omega)))).trans ((((cpM_ne (by omega)).trans (uM_ne (by omega)))).trans ((uM_ne (by omega)).trans ((uM_ne (by omega)).trans ((uM_ne (by omega)).trans ((uM_ne (by omega)).trans ((uM_ne (by omega)).trans ((uM_ne (by omega)).trans ((uM_ne (by omega)).trans (uM_ne (by omega)))))))))))))) ⟨by omega, by omega, by omega⟩ ?_
  show gm_Wp X LX d _ _ 57 138 _ [] n K _ _ Q
  refine gm_r_void (pc := 138) (by decide +kernel) (by decide +kernel) (hq (gm_cpM (gm_uM (gm_cpM (gm_uM (gm_cpM (gm_uM (gm_cpM (gm_uM (gm_cpM (gm_uM (gm_cpM (gm_uM (gm_uM (gm_uM (gm_uM (gm_uM (gm_uM (gm_uM (gm_uM (gm_uM M b 0 (M s 0)) b 1 (M s 1)) b 2 (M s 2)) b 3 (M s 3)) b 4 (M s 4)) b 5 (M s 5)) b 6 (M s 6)) b 7 (M s 7)) (b + 1) 3 (M (s + 1) 3)) (s + 2) (b + 2) 0 0 ((56 : Nat) : Int)) (b + 3) 3 (M (s + 3) 3)) (s + 4) (b + 4) 0 0 ((24 : Nat) : Int)) (b + 5) 3 (M (s + 5) 3)) (s + 6) (b + 6) 0 0 ((24 : Nat) : Int)) (b + 7) 3 (M (s + 7) 3)) (s + 8) (b + 8) 0 0 ((168 : Nat) : Int)) (b + 9) 3 (M (s + 9) 3)) (s + 10) (b + 10) 0 0 ((36 : Nat) : Int)) (b + 11) 3 (M (s + 11) 3)) (s + 12) (b + 12) 0 0 ((72 : Nat) : Int)) (fun x j hx => ?_) (fun x j j0 j1 hx => ?_) (cs_ext (fun i hi => ?_)))
  · exact ((((cpM_ne (by omega)).trans (uM_ne (by omega)))).trans ((((cpM_ne (by omega)).trans (uM_ne (by omega)))).trans ((((cpM_ne (by omega)).trans (uM_ne (by omega)))).trans ((((cpM_ne (by omega)).trans (uM_ne (by omega)))).trans ((((cpM_ne (by omega)).trans (uM_ne (by omega)))).trans ((((cpM_ne (by omega)).trans (uM_ne (by omega)))).trans ((uM_ne (by omega)).trans ((uM_ne (by omega)).trans ((uM_ne (by omega)).trans ((uM_ne (by omega)).trans ((uM_ne (by omega)).trans ((uM_ne (by omega)).trans ((uM_ne (by omega)).trans ((uM_ne (by omega)).trans rfl))))))))))))))
  · exact ((((cpM_ne (by omega)).trans (uM_ne (by omega)))).trans ((((cpM_ne (by omega)).trans (uM_ne (by omega)))).trans ((((cpM_ne (by omega)).trans (uM_ne (by omega)))).trans ((((cpM_ne (by omega)).trans (uM_ne (by omega)))).trans ((((cpM_ne (by omega)).trans (uM_ne (by omega)))).trans ((((cpM_ne (by omega)).trans (uM_ne (by omega)))).trans ((uM_ne (by omega)).trans ((uM_ne (by omega)).trans ((uM_ne (by omega)).trans ((uM_ne (by omega)).trans ((uM_ne (by omega)).trans ((uM_ne (by omega)).trans ((uM_ne (by omega)).trans ((uM_ne (by omega)).trans rfl))))))))))))))
  · rcases pl_cases hi with rfl | rfl | rfl | rfl | rfl | rfl | rfl | rfl | rfl | rfl | rfl | rfl | rfl | rfl | h | h | h | h | h | h
    · show (gm_cpM (gm_uM (gm_cpM (gm_uM (gm_cpM (gm_uM (gm_cpM (gm_uM (gm_cpM (gm_uM (gm_cpM (gm_uM (gm_uM (gm_uM (gm_uM (gm_uM (gm_uM (gm_uM (gm_uM (gm_uM M b 0 (M s 0)) b 1 (M s 1)) b 2 (M s 2)) b 3 (M s 3)) b 4 (M s 4)) b 5 (M s 5)) b 6 (M s 6)) b 7 (M s 7)) (b + 1) 3 (M (s + 1) 3)) (s + 2) (b + 2) 0 0 ((56 : Nat) : Int)) (b + 3) 3 (M (s + 3) 3)) (s + 4) (b + 4) 0 0 ((24 : Nat) : Int)) (b + 5) 3 (M (s + 5) 3)) (s + 6) (b + 6) 0 0 ((24 : Nat) : Int)) (b + 7) 3 (M (s + 7) 3)) (s + 8) (b + 8) 0 0 ((168 : Nat) : Int)) (b + 9) 3 (M (s + 9) 3)) (s + 10) (b + 10) 0 0 ((36 : Nat) : Int)) (b + 11) 3 (M (s + 11) 3)) (s + 12) (b + 12) 0 0 ((72 : Nat) : Int)) b 0 = M s 0
      exact ((((cpM_ne (by omega)).trans (uM_ne (by omega)))).trans ((((cpM_ne (by omega)).trans (uM_ne (by omega)))).trans ((((cpM_ne (by omega)).trans (uM_ne (by omega)))).trans ((((cpM_ne (by omega)).trans (uM_ne (by omega)))).trans ((((cpM_ne (by omega)).trans (uM_ne (by omega)))).trans ((((cpM_ne (by omega)).trans (uM_ne (by omega)))).trans ((uM_ne (by omega)).trans ((uM_ne (by omega)).trans ((uM_ne (by omega)).trans ((uM_ne (by omega)).trans ((uM_ne (by omega)).trans ((uM_ne (by omega)).trans ((uM_ne (by omega)).trans uM_at)))))))))))))
    · show (gm_cpM (gm_uM (gm_cpM (gm_uM (gm_cpM (gm_uM (gm_cpM (gm_uM (gm_cpM (gm_uM (gm_cpM (gm_uM (gm_uM (gm_uM (gm_uM (gm_uM (gm_uM (gm_uM (gm_uM (gm_uM M b 0 (M s 0)) b 1 (M s 1)) b 2 (M s 2)) b 3 (M s 3)) b 4 (M s 4)) b 5 (M s 5)) b 6 (M s 6)) b 7 (M s 7)) (b + 1) 3 (M (s + 1) 3)) (s + 2) (b + 2) 0 0 ((56 : Nat) : Int)) (b + 3) 3 (M (s + 3) 3)) (s + 4) (b + 4) 0 0 ((24 : Nat) : Int)) (b + 5) 3 (M (s + 5) 3)) (s + 6) (b + 6) 0 0 ((24 : Nat) : Int)) (b + 7) 3 (M (s + 7) 3)) (s + 8) (b + 8) 0 0 ((168 : Nat) : Int)) (b + 9) 3 (M (s + 9) 3)) (s + 10) (b + 10) 0 0 ((36 : Nat) : Int)) (b + 11) 3 (M (s + 11) 3)) (s + 12) (b + 12) 0 0 ((72 : Nat) : Int)) b 1 = M s 1
      exact ((((cpM_ne (by omega)).trans (uM_ne (by omega)))).trans ((((cpM_ne (by omega)).trans (uM_ne (by omega)))).trans ((((cpM_ne (by omega)).trans (uM_ne (by omega)))).trans ((((cpM_ne (by omega)).trans (uM_ne (by omega)))).trans ((((cpM_ne (by omega)).trans (uM_ne (by omega)))).trans ((((cpM_ne (by omega)).trans (uM_ne (by omega)))).trans ((uM_ne (by omega)).trans ((uM_ne (by omega)).trans ((uM_ne (by omega)).trans ((uM_ne (by omega)).trans ((uM_ne (by omega)).trans ((uM_ne (by omega)).trans uM_at))))))))))))
    · show (gm_cpM (gm_uM (gm_cpM (gm_uM (gm_cpM (gm_uM (gm_cpM (gm_uM (gm_cpM (gm_uM (gm_cpM (gm_uM (gm_uM (gm_uM (gm_uM (gm_uM (gm_uM (gm_uM (gm_uM (gm_uM M b 0 (M s 0)) b 1 (M s 1)) b 2 (M s 2)) b 3 (M s 3)) b 4 (M s 4)) b 5 (M s 5)) b 6 (M s 6)) b 7 (M s 7)) (b + 1) 3 (M (s + 1) 3)) (s + 2) (b + 2) 0 0 ((56 : Nat) : Int)) (b + 3) 3 (M (s + 3) 3)) (s + 4) (b + 4) 0 0 ((24 : Nat) : Int)) (b + 5) 3 (M (s + 5) 3)) (s + 6) (b + 6) 0 0 ((24 : Nat) : Int)) (b + 7) 3 (M (s + 7) 3)) (s + 8) (b + 8) 0 0 ((168 : Nat) : Int)) (b + 9) 3 (M (s + 9) 3)) (s + 10) (b + 10) 0 0 ((36 : Nat) : Int)) (b + 11) 3 (M (s + 11) 3)) (s + 12) (b + 12) 0 0 ((72 : Nat) : Int)) (b + 1) 3 = M (s + 1) 3
      exact ((((cpM_ne (by omega)).trans (uM_ne (by omega)))).trans ((((cpM_ne (by omega)).trans (uM_ne (by omega)))).trans ((((cpM_ne (by omega)).trans (uM_ne (by omega)))).trans ((((cpM_ne (by omega)).trans (uM_ne (by omega)))).trans ((((cpM_ne (by omega)).trans (uM_ne (by omega)))).trans ((cpM_ne (by omega)).trans uM_at))))))
    · show (gm_cpM (gm_uM (gm_cpM (gm_uM (gm_cpM (gm_uM (gm_cpM (gm_uM (gm_cpM (gm_uM (gm_cpM (gm_uM (gm_uM (gm_uM (gm_uM (gm_uM (gm_uM (gm_uM (gm_uM (gm_uM M b 0 (M s 0)) b 1 (M s 1)) b 2 (M s 2)) b 3 (M s 3)) b 4 (M s 4)) b 5 (M s 5)) b 6 (M s 6)) b 7 (M s 7)) (b + 1) 3 (M (s + 1) 3)) (s + 2) (b + 2) 0 0 ((56 : Nat) : Int)) (b + 3) 3 (M (s + 3) 3)) (s + 4) (b + 4) 0 0 ((24 : Nat) : Int)) (b + 5) 3 (M (s + 5) 3)) (s + 6) (b + 6) 0 0 ((24 : Nat) : Int)) (b + 7) 3 (M (s + 7) 3)) (s + 8) (b + 8) 0 0 ((168 : Nat) : Int)) (b + 9) 3 (M (s + 9) 3)) (s + 10) (b + 10) 0 0 ((36 : Nat) : Int)) (b + 11) 3 (M (s + 11) 3)) (s + 12) (b + 12) 0 0 ((72 : Nat) : Int)) (b + 5) 3 = M (s + 5) 3
      exact ((((cpM_ne (by omega)).trans (uM_ne (by omega)))).trans ((((cpM_ne (by omega)).trans (uM_ne (by omega)))).trans ((((cpM_ne (by omega)).trans (uM_ne (by omega)))).trans ((cpM_ne (by omega)).trans uM_at))))
    · show (gm_cpM (gm_uM (gm_cpM (gm_uM (gm_cpM (gm_uM (gm_cpM (gm_uM (gm_cpM (gm_uM (gm_cpM (gm_uM (gm_uM (gm_uM (gm_uM (gm_uM (gm_uM (gm_uM (gm_uM (gm_uM M b 0 (M s 0)) b 1 (M s 1)) b 2 (M s 2)) b 3 (M s 3)) b 4 (M s 4)) b 5 (M s 5)) b 6 (M s 6)) b 7 (M s 7)) (b + 1) 3 (M (s + 1) 3)) (s + 2) (b + 2) 0 0 ((56 : Nat) : Int)) (b + 3) 3 (M (s + 3) 3)) (s + 4) (b + 4) 0 0 ((24 : Nat) : Int)) (b + 5) 3 (M (s + 5) 3)) (s + 6) (b + 6) 0 0 ((24 : Nat) : Int)) (b + 7) 3 (M (s + 7) 3)) (s + 8) (b + 8) 0 0 ((168 : Nat) : Int)) (b + 9) 3 (M (s + 9) 3)) (s + 10) (b + 10) 0 0 ((36 : Nat) : Int)) (b + 11) 3 (M (s + 11) 3)) (s + 12) (b + 12) 0 0 ((72 : Nat) : Int)) (b + 7) 3 = M (s + 7) 3
      exact ((((cpM_ne (by omega)).trans (uM_ne (by omega)))).trans ((((cpM_ne (by omega)).trans (uM_ne (by omega)))).trans ((cpM_ne (by omega)).trans uM_at)))
    · show (gm_cpM (gm_uM (gm_cpM (gm_uM (gm_cpM (gm_uM (gm_cpM (gm_uM (gm_cpM (gm_uM (gm_cpM (gm_uM (gm_uM (gm_uM (gm_uM (gm_uM (gm_uM (gm_uM (gm_uM (gm_uM M b 0 (M s 0)) b 1 (M s 1)) b 2 (M s 2)) b 3 (M s 3)) b 4 (M s 4)) b 5 (M s 5)) b 6 (M s 6)) b 7 (M s 7)) (b + 1) 3 (M (s + 1) 3)) (s + 2) (b + 2) 0 0 ((56 : Nat) : Int)) (b + 3) 3 (M (s + 3) 3)) (s + 4) (b + 4) 0 0 ((24 : Nat) : Int)) (b + 5) 3 (M (s + 5) 3)) (s + 6) (b + 6) 0 0 ((24 : Nat) : Int)) (b + 7) 3 (M (s + 7) 3)) (s + 8) (b + 8) 0 0 ((168 : Nat) : Int)) (b + 9) 3 (M (s + 9) 3)) (s + 10) (b + 10) 0 0 ((36 : Nat) : Int)) (b + 11) 3 (M (s + 11) 3)) (s + 12) (b + 12) 0 0 ((72 : Nat) : Int)) (b + 3) 3 = M (s + 3) 3
      exact ((((cpM_ne (by omega)).trans (uM_ne (by omega)))).trans ((((cpM_ne (by omega)).trans (uM_ne (by omega)))).trans ((((cpM_ne (by omega)).trans (uM_ne (by omega)))).trans ((((cpM_ne (by omega)).trans (uM_ne (by omega)))).trans ((cpM_ne (by omega)).trans uM_at)))))
    · show (gm_cpM (gm_uM (gm_cpM (gm_uM (gm_cpM (gm_uM (gm_cpM (gm_uM (gm_cpM (gm_uM (gm_cpM (gm_uM (gm_uM (gm_uM (gm_uM (gm_uM (gm_uM (gm_uM (gm_uM (gm_uM M b 0 (M s 0)) b 1 (M s 1)) b 2 (M s 2)) b 3 (M s 3)) b 4 (M s 4)) b 5 (M s 5)) b 6 (M s 6)) b 7 (M s 7)) (b + 1) 3 (M (s + 1) 3)) (s + 2) (b + 2) 0 0 ((56 : Nat) : Int)) (b + 3) 3 (M (s + 3) 3)) (s + 4) (b + 4) 0 0 ((24 : Nat) : Int)) (b + 5) 3 (M (s + 5) 3)) (s + 6) (b + 6) 0 0 ((24 : Nat) : Int)) (b + 7) 3 (M (s + 7) 3)) (s + 8) (b + 8) 0 0 ((168 : Nat) : Int)) (b + 9) 3 (M (s + 9) 3)) (s + 10) (b + 10) 0 0 ((36 : Nat) : Int)) (b + 11) 3 (M (s + 11) 3)) (s + 12) (b + 12) 0 0 ((72 : Nat) : Int)) (b + 9) 3 = M (s + 9) 3
      exact ((((cpM_ne (by omega)).trans (uM_ne (by omega)))).trans ((cpM_ne (by omega)).trans uM_at))
    · show (gm_cpM (gm_uM (gm_cpM (gm_uM (gm_cpM (gm_uM (gm_cpM (gm_uM (gm_cpM (gm_uM (gm_cpM (gm_uM (gm_uM (gm_uM (gm_uM (gm_uM (gm_uM (gm_uM (gm_uM (gm_uM M b 0 (M s 0)) b 1 (M s 1)) b 2 (M s 2)) b 3 (M s 3)) b 4 (M s 4)) b 5 (M s 5)) b 6 (M s 6)) b 7 (M s 7)) (b + 1) 3 (M (s + 1) 3)) (s + 2) (b + 2) 0 0 ((56 : Nat) : Int)) (b + 3) 3 (M (s + 3) 3)) (s + 4) (b + 4) 0 0 ((24 : Nat) : Int)) (b + 5) 3 (M (s + 5) 3)) (s + 6) (b + 6) 0 0 ((24 : Nat) : Int)) (b + 7) 3 (M (s + 7) 3)) (s + 8) (b + 8) 0 0 ((168 : Nat) : Int)) (b + 9) 3 (M (s + 9) 3)) (s + 10) (b + 10) 0 0 ((36 : Nat) : Int)) (b + 11) 3 (M (s + 11) 3)) (s + 12) (b + 12) 0 0 ((72 : Nat) : Int)) b 7 = M s 7
      exact ((((cpM_ne (by omega)).trans (uM_ne (by omega)))).trans ((((cpM_ne (by omega)).trans (uM_ne (by omega)))).trans ((((cpM_ne (by omega)).trans (uM_ne (by omega)))).trans ((((cpM_ne (by omega)).trans (uM_ne (by omega)))).trans ((((cpM_ne (by omega)).trans (uM_ne (by omega)))).trans ((((cpM_ne (by omega)).trans (uM_ne (by omega)))).trans uM_at))))))
    · show (gm_cpM (gm_uM (gm_cpM (gm_uM (gm_cpM (gm_uM (gm_cpM (gm_uM (gm_cpM (gm_uM (gm_cpM (gm_uM (gm_uM (gm_uM (gm_uM (gm_uM (gm_uM (gm_uM (gm_uM (gm_uM M b 0 (M s 0)) b 1 (M s 1)) b 2 (M s 2)) b 3 (M s 3)) b 4 (M s 4)) b 5 (M s 5)) b 6 (M s 6)) b 7 (M s 7)) (b + 1) 3 (M (s + 1) 3)) (s + 2) (b + 2) 0 0 ((56 : Nat) : Int)) (b + 3) 3 (M (s + 3) 3)) (s + 4) (b + 4) 0 0 ((24 : Nat) : Int)) (b + 5) 3 (M (s + 5) 3)) (s + 6) (b + 6) 0 0 ((24 : Nat) : Int)) (b + 7) 3 (M (s + 7) 3)) (s + 8) (b + 8) 0 0 ((168 : Nat) : Int)) (b + 9) 3 (M (s + 9) 3)) (s + 10) (b + 10) 0 0 ((36 : Nat) : Int)) (b + 11) 3 (M (s + 11) 3)) (s + 12) (b + 12) 0 0 ((72 : Nat) : Int)) b 6 = M s 6
      exact ((((cpM_ne (by omega)).trans (uM_ne (by omega)))).trans ((((cpM_ne (by omega)).trans (uM_ne (by omega)))).trans ((((cpM_ne (by omega)).trans (uM_ne (by omega)))).trans ((((cpM_ne (by omega)).trans (uM_ne (by omega)))).trans ((((cpM_ne (by omega)).trans (uM_ne (by omega)))).trans ((((cpM_ne (by omega)).trans (uM_ne (by omega)))).trans ((uM_ne (by omega)).trans uM_at)))))))
    · show (gm_cpM (gm_uM (gm_cpM (gm_uM (gm_cpM (gm_uM (gm_cpM (gm_uM (gm_cpM (gm_uM (gm_cpM (gm_uM (gm_uM (gm_uM (gm_uM (gm_uM (gm_uM (gm_uM (gm_uM (gm_uM M b 0 (M s 0)) b 1 (M s 1)) b 2 (M s 2)) b 3 (M s 3)) b 4 (M s 4)) b 5 (M s 5)) b 6 (M s 6)) b 7 (M s 7)) (b + 1) 3 (M (s + 1) 3)) (s + 2) (b + 2) 0 0 ((56 : Nat) : Int)) (b + 3) 3 (M (s + 3) 3)) (s + 4) (b + 4) 0 0 ((24 : Nat) : Int)) (b + 5) 3 (M (s + 5) 3)) (s + 6) (b + 6) 0 0 ((24 : Nat) : Int)) (b + 7) 3 (M (s + 7) 3)) (s + 8) (b + 8) 0 0 ((168 : Nat) : Int)) (b + 9) 3 (M (s + 9) 3)) (s + 10) (b + 10) 0 0 ((36 : Nat) : Int)) (b + 11) 3 (M (s + 11) 3)) (s + 12) (b + 12) 0 0 ((72 : Nat) : Int)) b 2 = M s 2
      exact ((((cpM_ne (by omega)).trans (uM_ne (by omega)))).trans ((((cpM_ne (by omega)).trans (uM_ne (by omega)))).trans ((((cpM_ne (by omega)).trans (uM_ne (by omega)))).trans ((((cpM_ne (by omega)).trans (uM_ne (by omega)))).trans ((((cpM_ne (by omega)).trans (uM_ne (by omega)))).trans ((((cpM_ne (by omega)).trans (uM_ne (by omega)))).trans ((uM_ne (by omega)).trans ((uM_ne (by omega)).trans ((uM_ne (by omega)).trans ((uM_ne (by omega)).trans ((uM_ne (by omega)).trans uM_at)))))))))))
    · show (gm_cpM (gm_uM (gm_cpM (gm_uM (gm_cpM (gm_uM (gm_cpM (gm_uM (gm_cpM (gm_uM (gm_cpM (gm_uM (gm_uM (gm_uM (gm_uM (gm_uM (gm_uM (gm_uM (gm_uM (gm_uM M b 0 (M s 0)) b 1 (M s 1)) b 2 (M s 2)) b 3 (M s 3)) b 4 (M s 4)) b 5 (M s 5)) b 6 (M s 6)) b 7 (M s 7)) (b + 1) 3 (M (s + 1) 3)) (s + 2) (b + 2) 0 0 ((56 : Nat) : Int)) (b + 3) 3 (M (s + 3) 3)) (s + 4) (b + 4) 0 0 ((24 : Nat) : Int)) (b + 5) 3 (M (s + 5) 3)) (s + 6) (b + 6) 0 0 ((24 : Nat) : Int)) (b + 7) 3 (M (s + 7) 3)) (s + 8) (b + 8) 0 0 ((168 : Nat) : Int)) (b + 9) 3 (M (s + 9) 3)) (s + 10) (b + 10) 0 0 ((36 : Nat) : Int)) (b + 11) 3 (M (s + 11) 3)) (s + 12) (b + 12) 0 0 ((72 : Nat) : Int)) b 3 = M s 3
      exact ((((cpM_ne (by omega)).trans (uM_ne (by omega)))).trans ((((cpM_ne (by omega)).trans (uM_ne (by omega)))).trans ((((cpM_ne (by omega)).trans (uM_ne (by omega)))).trans ((((cpM_ne (by omega)).trans (uM_ne (by omega)))).trans ((((cpM_ne (by omega)).trans (uM_ne (by omega)))).trans ((((cpM_ne (by omega)).trans (uM_ne (by omega)))).trans ((uM_ne (by omega)).trans ((uM_ne (by omega)).trans ((uM_ne (by omega)).trans ((uM_ne (by omega)).trans uM_at))))))))))
    · show (gm_cpM (gm_uM (gm_cpM (gm_uM (gm_cpM (gm_uM (gm_cpM (gm_uM (gm_cpM (gm_uM (gm_cpM (gm_uM (gm_uM (gm_uM (gm_uM (gm_uM (gm_uM (gm_uM (gm_uM (gm_uM M b 0 (M s 0)) b 1 (M s 1)) b 2 (M s 2)) b 3 (M s 3)) b 4 (M s 4)) b 5 (M s 5)) b 6 (M s 6)) b 7 (M s 7)) (b + 1) 3 (M (s + 1) 3)) (s + 2) (b + 2) 0 0 ((56 : Nat) : Int)) (b + 3) 3 (M (s + 3) 3)) (s + 4) (b + 4) 0 0 ((24 : Nat) : Int)) (b + 5) 3 (M (s + 5) 3)) (s + 6) (b + 6) 0 0 ((24 : Nat) : Int)) (b + 7) 3 (M (s + 7) 3)) (s + 8) (b + 8) 0 0 ((168 : Nat) : Int)) (b + 9) 3 (M (s + 9) 3)) (s + 10) (b + 10) 0 0 ((36 : Nat) : Int)) (b + 11) 3 (M (s + 11) 3)) (s + 12) (b + 12) 0 0 ((72 : Nat) : Int)) b 4 = M s 4
      exact ((((cpM_ne (by omega)).trans (uM_ne (by omega)))).trans ((((cpM_ne (by omega)).trans (uM_ne (by omega)))).trans ((((cpM_ne (by omega)).trans (uM_ne (by omega)))).trans ((((cpM_ne (by omega)).trans (uM_ne (by omega)))).trans ((((cpM_ne (by omega)).trans (uM_ne (by omega)))).trans ((((cpM_ne (by omega)).trans (uM_ne (by omega)))).trans ((uM_ne (by omega)).trans ((uM_ne (by omega)).trans ((uM_ne (by omega)).trans uM_at)))))))))
    · show (gm_cpM (gm_uM (gm_cpM (gm_uM (gm_cpM (gm_uM (gm_cpM (gm_uM (gm_cpM (gm_uM (gm_cpM (gm_uM (gm_uM (gm_uM (gm_uM (gm_uM (gm_uM (gm_uM (gm_uM (gm_uM M b 0 (M s 0)) b 1 (M s 1)) b 2 (M s 2)) b 3 (M s 3)) b 4 (M s 4)) b 5 (M s 5)) b 6 (M s 6)) b 7 (M s 7)) (b + 1) 3 (M (s + 1) 3)) (s + 2) (b + 2) 0 0 ((56 : Nat) : Int)) (b + 3) 3 (M (s + 3) 3)) (s + 4) (b + 4) 0 0 ((24 : Nat) : Int)) (b + 5) 3 (M (s + 5) 3)) (s + 6) (b + 6) 0 0 ((24 : Nat) : Int)) (b + 7) 3 (M (s + 7) 3)) (s + 8) (b + 8) 0 0 ((168 : Nat) : Int)) (b + 9) 3 (M (s + 9) 3)) (s + 10) (b + 10) 0 0 ((36 : Nat) : Int)) (b + 11) 3 (M (s + 11) 3)) (s + 12) (b + 12) 0 0 ((72 : Nat) : Int)) b 5 = M s 5
      exact ((((cpM_ne (by omega)).trans (uM_ne (by omega)))).trans ((((cpM_ne (by omega)).trans (uM_ne (by omega)))).trans ((((cpM_ne (by omega)).trans (uM_ne (by omega)))).trans ((((cpM_ne (by omega)).trans (uM_ne (by omega)))).trans ((((cpM_ne (by omega)).trans (uM_ne (by omega)))).trans ((((cpM_ne (by omega)).trans (uM_ne (by omega)))).trans ((uM_ne (by omega)).trans ((uM_ne (by omega)).trans uM_at))))))))
    · show (gm_cpM (gm_uM (gm_cpM (gm_uM (gm_cpM (gm_uM (gm_cpM (gm_uM (gm_cpM (gm_uM (gm_cpM (gm_uM (gm_uM (gm_uM (gm_uM (gm_uM (gm_uM (gm_uM (gm_uM (gm_uM M b 0 (M s 0)) b 1 (M s 1)) b 2 (M s 2)) b 3 (M s 3)) b 4 (M s 4)) b 5 (M s 5)) b 6 (M s 6)) b 7 (M s 7)) (b + 1) 3 (M (s + 1) 3)) (s + 2) (b + 2) 0 0 ((56 : Nat) : Int)) (b + 3) 3 (M (s + 3) 3)) (s + 4) (b + 4) 0 0 ((24 : Nat) : Int)) (b + 5) 3 (M (s + 5) 3)) (s + 6) (b + 6) 0 0 ((24 : Nat) : Int)) (b + 7) 3 (M (s + 7) 3)) (s + 8) (b + 8) 0 0 ((168 : Nat) : Int)) (b + 9) 3 (M (s + 9) 3)) (s + 10) (b + 10) 0 0 ((36 : Nat) : Int)) (b + 11) 3 (M (s + 11) 3)) (s + 12) (b + 12) 0 0 ((72 : Nat) : Int)) (b + 11) 3 = M (s + 11) 3
      exact ((cpM_ne (by omega)).trans uM_at)
    · have e : pl i = (2, i - 15) := pl_2 h
      rw [e]
      show (gm_cpM (gm_uM (gm_cpM (gm_uM (gm_cpM (gm_uM (gm_cpM (gm_uM (gm_cpM (gm_uM (gm_cpM (gm_uM (gm_uM (gm_uM (gm_uM (gm_uM (gm_uM (gm_uM (gm_uM (gm_uM M b 0 (M s 0)) b 1 (M s 1)) b 2 (M s 2)) b 3 (M s 3)) b 4 (M s 4)) b 5 (M s 5)) b 6 (M s 6)) b 7 (M s 7)) (b + 1) 3 (M (s + 1) 3)) (s + 2) (b + 2) 0 0 ((56 : Nat) : Int)) (b + 3) 3 (M (s + 3) 3)) (s + 4) (b + 4) 0 0 ((24 : Nat) : Int)) (b + 5) 3 (M (s + 5) 3)) (s + 6) (b + 6) 0 0 ((24 : Nat) : Int)) (b + 7) 3 (M (s + 7) 3)) (s + 8) (b + 8) 0 0 ((168 : Nat) : Int)) (b + 9) 3 (M (s + 9) 3)) (s + 10) (b + 10) 0 0 ((36 : Nat) : Int)) (b + 11) 3 (M (s + 11) 3)) (s + 12) (b + 12) 0 0 ((72 : Nat) : Int)) (b + 2) (i - 15) = M (s + 2) (i - 15)
      exact ((((cpM_ne (by omega)).trans (uM_ne (by omega)))).trans ((((cpM_ne (by omega)).trans (uM_ne (by omega)))).trans ((((cpM_ne (by omega)).trans (uM_ne (by omega)))).trans ((((cpM_ne (by omega)).trans (uM_ne (by omega)))).trans ((((cpM_ne (by omega)).trans (uM_ne (by omega)))).trans ((cpM_at (by omega) (by omega)).trans ((uM_ne (by omega)).trans ((uM_ne (by omega)).trans ((uM_ne (by omega)).trans ((uM_ne (by omega)).trans ((uM_ne (by omega)).trans ((uM_ne (by omega)).trans ((uM_ne (by omega)).trans ((uM_ne (by omega)).trans (uM_ne (by omega))))))))))))))))
    · have e : pl i = (4, i - 71) := pl_4 h
      rw [e]
      show (gm_cpM (gm_uM (gm_cpM (gm_uM (gm_cpM (gm_uM (gm_cpM (gm_uM (gm_cpM (gm_uM (gm_cpM (gm_uM (gm_uM (gm_uM (gm_uM (gm_uM (gm_uM (gm_uM (gm_uM (gm_uM M b 0 (M s 0)) b 1 (M s 1)) b 2 (M s 2)) b 3 (M s 3)) b 4 (M s 4)) b 5 (M s 5)) b 6 (M s 6)) b 7 (M s 7)) (b + 1) 3 (M (s + 1) 3)) (s + 2) (b + 2) 0 0 ((56 : Nat) : Int)) (b + 3) 3 (M (s + 3) 3)) (s + 4) (b + 4) 0 0 ((24 : Nat) : Int)) (b + 5) 3 (M (s + 5) 3)) (s + 6) (b + 6) 0 0 ((24 : Nat) : Int)) (b + 7) 3 (M (s + 7) 3)) (s + 8) (b + 8) 0 0 ((168 : Nat) : Int)) (b + 9) 3 (M (s + 9) 3)) (s + 10) (b + 10) 0 0 ((36 : Nat) : Int)) (b + 11) 3 (M (s + 11) 3)) (s + 12) (b + 12) 0 0 ((72 : Nat) : Int)) (b + 4) (i - 71) = M (s + 4) (i - 71)
      exact ((((cpM_ne (by omega)).trans (uM_ne (by omega)))).trans ((((cpM_ne (by omega)).trans (uM_ne (by omega)))).trans ((((cpM_ne (by omega)).trans (uM_ne (by omega)))).trans ((((cpM_ne (by omega)).trans (uM_ne (by omega)))).trans ((cpM_at (by omega) (by omega)).trans ((uM_ne (by omega)).trans ((((cpM_ne (by omega)).trans (uM_ne (by omega)))).trans ((uM_ne (by omega)).trans ((uM_ne (by omega)).trans ((uM_ne (by omega)).trans ((uM_ne (by omega)).trans ((uM_ne (by omega)).trans ((uM_ne (by omega)).trans ((uM_ne (by omega)).trans (uM_ne (by omega))))))))))))))))
    · have e : pl i = (6, i - 95) := pl_6 h
      rw [e]
      show (gm_cpM (gm_uM (gm_cpM (gm_uM (gm_cpM (gm_uM (gm_cpM (gm_uM (gm_cpM (gm_uM (gm_cpM (gm_uM (gm_uM (gm_uM (gm_uM (gm_uM (gm_uM (gm_uM (gm_uM (gm_uM M b 0 (M s 0)) b 1 (M s 1)) b 2 (M s 2)) b 3 (M s 3)) b 4 (M s 4)) b 5 (M s 5)) b 6 (M s 6)) b 7 (M s 7)) (b + 1) 3 (M (s + 1) 3)) (s + 2) (b + 2) 0 0 ((56 : Nat) : Int)) (b + 3) 3 (M (s + 3) 3)) (s + 4) (b + 4) 0 0 ((24 : Nat) : Int)) (b + 5) 3 (M (s + 5) 3)) (s + 6) (b + 6) 0 0 ((24 : Nat) : Int)) (b + 7) 3 (M (s + 7) 3)) (s + 8) (b + 8) 0 0 ((168 : Nat) : Int)) (b + 9) 3 (M (s + 9) 3)) (s + 10) (b + 10) 0 0 ((36 : Nat) : Int)) (b + 11) 3 (M (s + 11) 3)) (s + 12) (b + 12) 0 0 ((72 : Nat) : Int)) (b + 6) (i - 95) = M (s + 6) (i - 95)
      exact ((((cpM_ne (by omega)).trans (uM_ne (by omega)))).trans ((((cpM_ne (by omega)).trans (uM_ne (by omega)))).trans ((((cpM_ne (by omega)).trans (uM_ne (by omega)))).trans ((cpM_at (by omega) (by omega)).trans ((uM_ne (by omega)).trans ((((cpM_ne (by omega)).trans (uM_ne (by omega)))).trans ((((cpM_ne (by omega)).trans (uM_ne (by omega)))).trans ((uM_ne (by omega)).trans ((uM_ne (by omega)).trans ((uM_ne (by omega)).trans ((uM_ne (by omega)).trans ((uM_ne (by omega)).trans ((uM_ne (by omega)).trans ((uM_ne (by omega)).trans (uM_ne (by omega))))))))))))))))
    · have e : pl i = (8, i - 119) := pl_8 h
      rw [e]
      show (gm_cpM (gm_uM (gm_cpM (gm_uM (gm_cpM (gm_uM (gm_cpM (gm_uM (gm_cpM (gm_uM (gm_cpM (gm_uM (gm_uM (gm_uM (gm_uM (gm_uM (gm_uM (gm_uM (gm_uM (gm_uM M b 0 (M s 0)) b 1 (M s 1)) b 2 (M s 2)) b 3 (M s 3)) b 4 (M s 4)) b 5 (M s 5)) b 6 (M s 6)) b 7 (M s 7)) (b + 1) 3 (M (s + 1) 3)) (s + 2) (b + 2) 0 0 ((56 : Nat) : Int)) (b + 3) 3 (M (s + 3) 3)) (s + 4) (b + 4) 0 0 ((24 : Nat) : Int)) (b + 5) 3 (M (s + 5) 3)) (s + 6) (b + 6) 0 0 ((24 : Nat) : Int)) (b + 7) 3 (M (s + 7) 3)) (s + 8) (b + 8) 0 0 ((168 : Nat) : Int)) (b + 9) 3 (M (s + 9) 3)) (s + 10) (b + 10) 0 0 ((36 : Nat) : Int)) (b + 11) 3 (M (s + 11) 3)) (s + 12) (b + 12) 0 0 ((72 : Nat) : Int)) (b + 8) (i - 119) = M (s + 8) (i - 119)
      exact ((((cpM_ne (by omega)).trans (uM_ne (by omega)))).trans ((((cpM_ne (by omega)).trans (uM_ne (by omega)))).trans ((cpM_at (by omega) (by omega)).trans ((uM_ne (by omega)).trans ((((cpM_ne (by omega)).trans (uM_ne (by omega)))).trans ((((cpM_ne (by omega)).trans (uM_ne (by omega)))).trans ((((cpM_ne (by omega)).trans (uM_ne (by omega)))).trans ((uM_ne (by omega)).trans ((uM_ne (by omega)).trans ((uM_ne (by omega)).trans ((uM_ne (by omega)).trans ((uM_ne (by omega)).trans ((uM_ne (by omega)).trans ((uM_ne (by omega)).trans (uM_ne (by omega))))))))))))))))
    · have e : pl i = (10, i - 287) := pl_10 h
      rw [e]
      show (gm_cpM (gm_uM (gm_cpM (gm_uM (gm_cpM (gm_uM (gm_cpM (gm_uM (gm_cpM (gm_uM (gm_cpM (gm_uM (gm_uM (gm_uM (gm_uM (gm_uM (gm_uM (gm_uM (gm_uM (gm_uM M b 0 (M s 0)) b 1 (M s 1)) b 2 (M s 2)) b 3 (M s 3)) b 4 (M s 4)) b 5 (M s 5)) b 6 (M s 6)) b 7 (M s 7)) (b + 1) 3 (M (s + 1) 3)) (s + 2) (b + 2) 0 0 ((56 : Nat) : Int)) (b + 3) 3 (M (s + 3) 3)) (s + 4) (b + 4) 0 0 ((24 : Nat) : Int)) (b + 5) 3 (M (s + 5) 3)) (s + 6) (b + 6) 0 0 ((24 : Nat) : Int)) (b + 7) 3 (M (s + 7) 3)) (s + 8) (b + 8) 0 0 ((168 : Nat) : Int)) (b + 9) 3 (M (s + 9) 3)) (s + 10) (b + 10) 0 0 ((36 : Nat) : Int)) (b + 11) 3 (M (s + 11) 3)) (s + 12) (b + 12) 0 0 ((72 : Nat) : Int)) (b + 10) (i - 287) = M (s + 10) (i - 287)
      exact ((((cpM_ne (by omega)).trans (uM_ne (by omega)))).trans ((cpM_at (by omega) (by omega)).trans ((uM_ne (by omega)).trans ((((cpM_ne (by omega)).trans (uM_ne (by omega)))).trans ((((cpM_ne (by omega)).trans (uM_ne (by omega)))).trans ((((cpM_ne (by omega)).trans (uM_ne (by omega)))).trans ((((cpM_ne (by omega)).trans (uM_ne (by omega)))).trans ((uM_ne (by omega)).trans ((uM_ne (by omega)).trans ((uM_ne (by omega)).trans ((uM_ne (by omega)).trans ((uM_ne (by omega)).trans ((uM_ne (by omega)).trans ((uM_ne (by omega)).trans (uM_ne (by omega))))))))))))))))
    · have e : pl i = (12, i - 323) := pl_12 h
      rw [e]
      show (gm_cpM (gm_uM (gm_cpM (gm_uM (gm_cpM (gm_uM (gm_cpM (gm_uM (gm_cpM (gm_uM (gm_cpM (gm_uM (gm_uM (gm_uM (gm_uM (gm_uM (gm_uM (gm_uM (gm_uM (gm_uM M b 0 (M s 0)) b 1 (M s 1)) b 2 (M s 2)) b 3 (M s 3)) b 4 (M s 4)) b 5 (M s 5)) b 6 (M s 6)) b 7 (M s 7)) (b + 1) 3 (M (s + 1) 3)) (s + 2) (b + 2) 0 0 ((56 : Nat) : Int)) (b + 3) 3 (M (s + 3) 3)) (s + 4) (b + 4) 0 0 ((24 : Nat) : Int)) (b + 5) 3 (M (s + 5) 3)) (s + 6) (b + 6) 0 0 ((24 : Nat) : Int)) (b + 7) 3 (M (s + 7) 3)) (s + 8) (b + 8) 0 0 ((168 : Nat) : Int)) (b + 9) 3 (M (s + 9) 3)) (s + 10) (b + 10) 0 0 ((36 : Nat) : Int)) (b + 11) 3 (M (s + 11) 3)) (s + 12) (b + 12) 0 0 ((72 : Nat) : Int)) (b + 12) (i - 323) = M (s + 12) (i - 323)
      exact ((cpM_at (by omega) (by omega)).trans ((uM_ne (by omega)).trans ((((cpM_ne (by omega)).trans (uM_ne (by omega)))).trans ((((cpM_ne (by omega)).trans (uM_ne (by omega)))).trans ((((cpM_ne (by omega)).trans (uM_ne (by omega)))).trans ((((cpM_ne (by omega)).trans (uM_ne (by omega)))).trans ((((cpM_ne (by omega)).trans (uM_ne (by omega)))).trans ((uM_ne (by omega)).trans ((uM_ne (by omega)).trans ((uM_ne (by omega)).trans ((uM_ne (by omega)).trans ((uM_ne (by omega)).trans ((uM_ne (by omega)).trans ((uM_ne (by omega)).trans (uM_ne (by omega))))))))))))))))
end CP9
end
/-! 7a09.c10hi -/
section
/-! THE CLASS'S HISTORY (laid by wip/core/c10.py). -/
section HI0
variable {X : Int → Int} {LX d bc bs mi pc n : Nat} {L : gm_L} {st : List gm_V} {K : gm_K} {R : gm_R} {M : gm_M} {Q : gm_Q} {p : Int}
theorem fw_aa {k len r : Nat} {e0 : Int} (h : gm_at mi pc = some .aaload) (hk : 1 ≤ k ∧ k ≤ n) (hK : K k = (3, len)) (hl : len < 2147483648) (hi : 0 ≤ e0 ∧ e0 < (len : Int)) (hx : R k e0 = r) : gm_Sp X LX d mi pc L (gm_vi e0 :: gm_vr k :: st) n K R M (pc + 1) L (gm_vr r :: st) n K R M 0 0 := by
  have hw : gm_w e0 = e0 := gm_w_id (by omega) (by omega)
  have := gm_p_aald (X := X) (LX := LX) (d := d) (L := L) (st := st) (K := K) (R := R) (M := M) h hk (by rw [hK]) (by rw [hw, hK]; exact hi)
  rwa [hw, hx] at this
theorem ks_3 (hE : E0 n K R) : KS n K R 3 := ⟨e0k hE (k := 3) (c := 1) (by decide +kernel), ⟨⟨e0k hE (k := 4) (c := 2) (by decide +kernel), e0a hE (k := 5) (q := ((0 : Nat), (56 : Nat))) (by decide +kernel)⟩, e0r hE (k := 3) (j := 9) (r := 4) (by decide +kernel), e0r hE (k := 4) (j := 2) (r := 5) (by decide +kernel)⟩, ⟨⟨e0k hE (k := 6) (c := 2) (by decide +kernel), e0a hE (k := 7) (q := ((0 : Nat), (24 : Nat))) (by decide +kernel)⟩, e0r hE (k := 3) (j := 10) (r := 6) (by decide +kernel), e0r hE (k := 6) (j := 2) (r := 7) (by decide +kernel)⟩, ⟨⟨e0k hE (k := 8) (c := 2) (by decide +kernel), e0a hE (k := 9) (q := ((0 : Nat), (24 : Nat))) (by decide +kernel)⟩, e0r hE (k := 3) (j := 11) (r := 8) (by decide +kernel), e0r hE (k := 8) (j := 2) (r := 9) (by decide +kernel)⟩, ⟨⟨e0k hE (k := 10) (c := 2) (by decide +kernel), e0a hE (k := 11) (q := ((0 : Nat), (168 : Nat))) (by decide +kernel)⟩, e0r hE (k := 3) (j := 12) (r := 10) (by decide +kernel), e0r hE (k := 10) (j := 2) (r := 11) (by decide +kernel)⟩, ⟨⟨e0k hE (k := 12) (c := 2) (by decide +kernel), e0a hE (k := 13) (q := ((0 : Nat), (36 : Nat))) (by decide +kernel)⟩, e0r hE (k := 3) (j := 13) (r := 12) (by decide +kernel), e0r hE (k := 12) (j := 2) (r := 13) (by decide +kernel)⟩, ⟨⟨e0k hE (k := 14) (c := 2) (by decide +kernel), e0a hE (k := 15) (q := ((0 : Nat), (72 : Nat))) (by decide +kernel)⟩, e0r hE (k := 3) (j := 14) (r := 14) (by decide +kernel), e0r hE (k := 14) (j := 2) (r := 15) (by decide +kernel)⟩⟩
theorem mx_3 (hC : CST M) : MX M 3 := ⟨hC (4, 0, 8) (by decide), hC (6, 0, 8) (by decide), hC (8, 0, 8) (by decide), hC (10, 0, 24) (by decide), hC (12, 0, 6) (by decide), hC (14, 0, 24) (by decide)⟩
theorem ks_29 (hE : E0 n K R) : KS n K R 29 := ⟨e0k hE (k := 29) (c := 1) (by decide +kernel), ⟨⟨e0k hE (k := 30) (c := 2) (by decide +kernel), e0a hE (k := 31) (q := ((0 : Nat), (56 : Nat))) (by decide +kernel)⟩, e0r hE (k := 29) (j := 9) (r := 30) (by decide +kernel), e0r hE (k := 30) (j := 2) (r := 31) (by decide +kernel)⟩, ⟨⟨e0k hE (k := 32) (c := 2) (by decide +kernel), e0a hE (k := 33) (q := ((0 : Nat), (24 : Nat))) (by decide +kernel)⟩, e0r hE (k := 29) (j := 10) (r := 32) (by decide +kernel), e0r hE (k := 32) (j := 2) (r := 33) (by decide +kernel)⟩, ⟨⟨e0k hE (k := 34) (c := 2) (by decide +kernel), e0a hE (k := 35) (q := ((0 : Nat), (24 : Nat))) (by decide +kernel)⟩, e0r hE (k := 29) (j := 11) (r := 34) (by decide +kernel), e0r hE (k := 34) (j := 2) (r := 35) (by decide +kernel)⟩, ⟨⟨e0k hE (k := 36) (c := 2) (by decide +kernel), e0a hE (k := 37) (q := ((0 : Nat), (168 : Nat))) (by decide +kernel)⟩, e0r hE (k := 29) (j := 12) (r := 36) (by decide +kernel), e0r hE (k := 36) (j := 2) (r := 37) (by decide +kernel)⟩, ⟨⟨e0k hE (k := 38) (c := 2) (by decide +kernel), e0a hE (k := 39) (q := ((0 : Nat), (36 : Nat))) (by decide +kernel)⟩, e0r hE (k := 29) (j := 13) (r := 38) (by decide +kernel), e0r hE (k := 38) (j := 2) (r := 39) (by decide +kernel)⟩, ⟨⟨e0k hE (k := 40) (c := 2) (by decide +kernel), e0a hE (k := 41) (q := ((0 : Nat), (72 : Nat))) (by decide +kernel)⟩, e0r hE (k := 29) (j := 14) (r := 40) (by decide +kernel), e0r hE (k := 40) (j := 2) (r := 41) (by decide +kernel)⟩⟩
theorem mx_29 (hC : CST M) : MX M 29 := ⟨hC (30, 0, 8) (by decide), hC (32, 0, 8) (by decide), hC (34, 0, 8) (by decide), hC (36, 0, 24) (by decide), hC (38, 0, 6) (by decide), hC (40, 0, 24) (by decide)⟩
theorem ks_44 (hE : E0 n K R) : KS n K R 44 := ⟨e0k hE (k := 44) (c := 1) (by decide +kernel), ⟨⟨e0k hE (k := 45) (c := 2) (by decide +kernel), e0a hE (k := 46) (q := ((0 : Nat), (56 : Nat))) (by decide +kernel)⟩, e0r hE (k := 44) (j := 9) (r := 45) (by decide +kernel), e0r hE (k := 45) (j := 2) (r := 46) (by decide +kernel)⟩, ⟨⟨e0k hE (k := 47) (c := 2) (by decide +kernel), e0a hE (k := 48) (q := ((0 : Nat), (24 : Nat))) (by decide +kernel)⟩, e0r hE (k := 44) (j := 10) (r := 47) (by decide +kernel), e0r hE (k := 47) (j := 2) (r := 48) (by decide +kernel)⟩, ⟨⟨e0k hE (k := 49) (c := 2) (by decide +kernel), e0a hE (k := 50) (q := ((0 : Nat), (24 : Nat))) (by decide +kernel)⟩, e0r hE (k := 44) (j := 11) (r := 49) (by decide +kernel), e0r hE (k := 49) (j := 2) (r := 50) (by decide +kernel)⟩, ⟨⟨e0k hE (k := 51) (c := 2) (by decide +kernel), e0a hE (k := 52) (q := ((0 : Nat), (168 : Nat))) (by decide +kernel)⟩, e0r hE (k := 44) (j := 12) (r := 51) (by decide +kernel), e0r hE (k := 51) (j := 2) (r := 52) (by decide +kernel)⟩, ⟨⟨e0k hE (k := 53) (c := 2) (by decide +kernel), e0a hE (k := 54) (q := ((0 : Nat), (36 : Nat))) (by decide +kernel)⟩, e0r hE (k := 44) (j := 13) (r := 53) (by decide +kernel), e0r hE (k := 53) (j := 2) (r := 54) (by decide +kernel)⟩, ⟨⟨e0k hE (k := 55) (c := 2) (by decide +kernel), e0a hE (k := 56) (q := ((0 : Nat), (72 : Nat))) (by decide +kernel)⟩, e0r hE (k := 44) (j := 14) (r := 55) (by decide +kernel), e0r hE (k := 55) (j := 2) (r := 56) (by decide +kernel)⟩⟩
theorem mx_44 (hC : CST M) : MX M 44 := ⟨hC (45, 0, 8) (by decide), hC (47, 0, 8) (by decide), hC (49, 0, 8) (by decide), hC (51, 0, 24) (by decide), hC (53, 0, 6) (by decide), hC (55, 0, 24) (by decide)⟩
theorem ks_57 (hE : E0 n K R) : KS n K R 57 := ⟨e0k hE (k := 57) (c := 1) (by decide +kernel), ⟨⟨e0k hE (k := 58) (c := 2) (by decide +kernel), e0a hE (k := 59) (q := ((0 : Nat), (56 : Nat))) (by decide +kernel)⟩, e0r hE (k := 57) (j := 9) (r := 58) (by decide +kernel), e0r hE (k := 58) (j := 2) (r := 59) (by decide +kernel)⟩, ⟨⟨e0k hE (k := 60) (c := 2) (by decide +kernel), e0a hE (k := 61) (q := ((0 : Nat), (24 : Nat))) (by decide +kernel)⟩, e0r hE (k := 57) (j := 10) (r := 60) (by decide +kernel), e0r hE (k := 60) (j := 2) (r := 61) (by decide +kernel)⟩, ⟨⟨e0k hE (k := 62) (c := 2) (by decide +kernel), e0a hE (k := 63) (q := ((0 : Nat), (24 : Nat))) (by decide +kernel)⟩, e0r hE (k := 57) (j := 11) (r := 62) (by decide +kernel), e0r hE (k := 62) (j := 2) (r := 63) (by decide +kernel)⟩, ⟨⟨e0k hE (k := 64) (c := 2) (by decide +kernel), e0a hE (k := 65) (q := ((0 : Nat), (168 : Nat))) (by decide +kernel)⟩, e0r hE (k := 57) (j := 12) (r := 64) (by decide +kernel), e0r hE (k := 64) (j := 2) (r := 65) (by decide +kernel)⟩, ⟨⟨e0k hE (k := 66) (c := 2) (by decide +kernel), e0a hE (k := 67) (q := ((0 : Nat), (36 : Nat))) (by decide +kernel)⟩, e0r hE (k := 57) (j := 13) (r := 66) (by decide +kernel), e0r hE (k := 66) (j := 2) (r := 67) (by decide +kernel)⟩, ⟨⟨e0k hE (k := 68) (c := 2) (by decide +kernel), e0a hE (k := 69) (q := ((0 : Nat), (72 : Nat))) (by decide +kernel)⟩, e0r hE (k := 57) (j := 14) (r := 68) (by decide +kernel), e0r hE (k := 68) (j := 2) (r := 69) (by decide +kernel)⟩⟩
theorem mx_57 (hC : CST M) : MX M 57 := ⟨hC (58, 0, 8) (by decide), hC (60, 0, 8) (by decide), hC (62, 0, 8) (by decide), hC (64, 0, 24) (by decide), hC (66, 0, 6) (by decide), hC (68, 0, 24) (by decide)⟩
theorem ks_70 (hE : E0 n K R) : KS n K R 70 := ⟨e0k hE (k := 70) (c := 1) (by decide +kernel), ⟨⟨e0k hE (k := 71) (c := 2) (by decide +kernel), e0a hE (k := 72) (q := ((0 : Nat), (56 : Nat))) (by decide +kernel)⟩, e0r hE (k := 70) (j := 9) (r := 71) (by decide +kernel), e0r hE (k := 71) (j := 2) (r := 72) (by decide +kernel)⟩, ⟨⟨e0k hE (k := 73) (c := 2) (by decide +kernel), e0a hE (k := 74) (q := ((0 : Nat), (24 : Nat))) (by decide +kernel)⟩, e0r hE (k := 70) (j := 10) (r := 73) (by decide +kernel), e0r hE (k := 73) (j := 2) (r := 74) (by decide +kernel)⟩, ⟨⟨e0k hE (k := 75) (c := 2) (by decide +kernel), e0a hE (k := 76) (q := ((0 : Nat), (24 : Nat))) (by decide +kernel)⟩, e0r hE (k := 70) (j := 11) (r := 75) (by decide +kernel), e0r hE (k := 75) (j := 2) (r := 76) (by decide +kernel)⟩, ⟨⟨e0k hE (k := 77) (c := 2) (by decide +kernel), e0a hE (k := 78) (q := ((0 : Nat), (168 : Nat))) (by decide +kernel)⟩, e0r hE (k := 70) (j := 12) (r := 77) (by decide +kernel), e0r hE (k := 77) (j := 2) (r := 78) (by decide +kernel)⟩, ⟨⟨e0k hE (k := 79) (c := 2) (by decide +kernel), e0a hE (k := 80) (q := ((0 : Nat), (36 : Nat))) (by decide +kernel)⟩, e0r hE (k := 70) (j := 13) (r := 79) (by decide +kernel), e0r hE (k := 79) (j := 2) (r := 80) (by decide +kernel)⟩, ⟨⟨e0k hE (k := 81) (c := 2) (by decide +kernel), e0a hE (k := 82) (q := ((0 : Nat), (72 : Nat))) (by decide +kernel)⟩, e0r hE (k := 70) (j := 14) (r := 81) (by decide +kernel), e0r hE (k := 81) (j := 2) (r := 82) (by decide +kernel)⟩⟩
theorem mx_70 (hC : CST M) : MX M 70 := ⟨hC (71, 0, 8) (by decide), hC (73, 0, 8) (by decide), hC (75, 0, 8) (by decide), hC (77, 0, 24) (by decide), hC (79, 0, 6) (by decide), hC (81, 0, 24) (by decide)⟩
theorem ks_83 (hE : E0 n K R) : KS n K R 83 := ⟨e0k hE (k := 83) (c := 1) (by decide +kernel), ⟨⟨e0k hE (k := 84) (c := 2) (by decide +kernel), e0a hE (k := 85) (q := ((0 : Nat), (56 : Nat))) (by decide +kernel)⟩, e0r hE (k := 83) (j := 9) (r := 84) (by decide +kernel), e0r hE (k := 84) (j := 2) (r := 85) (by decide +kernel)⟩, ⟨⟨e0k hE (k := 86) (c := 2) (by decide +kernel), e0a hE (k := 87) (q := ((0 : Nat), (24 : Nat))) (by decide +kernel)⟩, e0r hE (k := 83) (j := 10) (r := 86) (by decide +kernel), e0r hE (k := 86) (j := 2) (r := 87) (by decide +kernel)⟩, ⟨⟨e0k hE (k := 88) (c := 2) (by decide +kernel), e0a hE (k := 89) (q := ((0 : Nat), (24 : Nat))) (by decide +kernel)⟩, e0r hE (k := 83) (j := 11) (r := 88) (by decide +kernel), e0r hE (k := 88) (j := 2) (r := 89) (by decide +kernel)⟩, ⟨⟨e0k hE (k := 90) (c := 2) (by decide +kernel), e0a hE (k := 91) (q := ((0 : Nat), (168 : Nat))) (by decide +kernel)⟩, e0r hE (k := 83) (j := 12) (r := 90) (by decide +kernel), e0r hE (k := 90) (j := 2) (r := 91) (by decide +kernel)⟩, ⟨⟨e0k hE (k := 92) (c := 2) (by decide +kernel), e0a hE (k := 93) (q := ((0 : Nat), (36 : Nat))) (by decide +kernel)⟩, e0r hE (k := 83) (j := 13) (r := 92) (by decide +kernel), e0r hE (k := 92) (j := 2) (r := 93) (by decide +kernel)⟩, ⟨⟨e0k hE (k := 94) (c := 2) (by decide +kernel), e0a hE (k := 95) (q := ((0 : Nat), (72 : Nat))) (by decide +kernel)⟩, e0r hE (k := 83) (j := 14) (r := 94) (by decide +kernel), e0r hE (k := 94) (j := 2) (r := 95) (by decide +kernel)⟩⟩
theorem mx_83 (hC : CST M) : MX M 83 := ⟨hC (84, 0, 8) (by decide), hC (86, 0, 8) (by decide), hC (88, 0, 8) (by decide), hC (90, 0, 24) (by decide), hC (92, 0, 6) (by decide), hC (94, 0, 24) (by decide)⟩
theorem ks_96 (hE : E0 n K R) : KS n K R 96 := ⟨e0k hE (k := 96) (c := 1) (by decide +kernel), ⟨⟨e0k hE (k := 97) (c := 2) (by decide +kernel), e0a hE (k := 98) (q := ((0 : Nat), (56 : Nat))) (by decide +kernel)⟩, e0r hE (k := 96) (j := 9) (r := 97) (by decide +kernel), e0r hE (k := 97) (j := 2) (r := 98) (by decide +kernel)⟩, ⟨⟨e0k hE (k := 99) (c := 2) (by decide +kernel), e0a hE (k := 100) (q := ((0 : Nat), (24 : Nat))) (by decide +kernel)⟩, e0r hE (k := 96) (j := 10) (r := 99) (by decide +kernel), e0r hE (k := 99) (j := 2) (r := 100) (by decide +kernel)⟩, ⟨⟨e0k hE (k := 101) (c := 2) (by decide +kernel), e0a hE (k := 102) (q := ((0 : Nat), (24 : Nat))) (by decide +kernel)⟩, e0r hE (k := 96) (j := 11) (r := 101) (by decide +kernel), e0r hE (k := 101) (j := 2) (r := 102) (by decide +kernel)⟩, ⟨⟨e0k hE (k := 103) (c := 2) (by decide +kernel), e0a hE (k := 104) (q := ((0 : Nat), (168 : Nat))) (by decide +kernel)⟩, e0r hE (k := 96) (j := 12) (r := 103) (by decide +kernel), e0r hE (k := 103) (j := 2) (r := 104) (by decide +kernel)⟩, ⟨⟨e0k hE (k := 105) (c := 2) (by decide +kernel), e0a hE (k := 106) (q := ((0 : Nat), (36 : Nat))) (by decide +kernel)⟩, e0r hE (k := 96) (j := 13) (r := 105) (by decide +kernel), e0r hE (k := 105) (j := 2) (r := 106) (by decide +kernel)⟩, ⟨⟨e0k hE (k := 107) (c := 2) (by decide +kernel), e0a hE (k := 108) (q := ((0 : Nat), (72 : Nat))) (by decide +kernel)⟩, e0r hE (k := 96) (j := 14) (r := 107) (by decide +kernel), e0r hE (k := 107) (j := 2) (r := 108) (by decide +kernel)⟩⟩
theorem mx_96 (hC : CST M) : MX M 96 := ⟨hC (97, 0, 8) (by decide), hC (99, 0, 8) (by decide), hC (101, 0, 8) (by decide), hC (103, 0, 24) (by decide), hC (105, 0, 6) (by decide), hC (107, 0, 24) (by decide)⟩
theorem ks_109 (hE : E0 n K R) : KS n K R 109 := ⟨e0k hE (k := 109) (c := 1) (by decide +kernel), ⟨⟨e0k hE (k := 110) (c := 2) (by decide +kernel), e0a hE (k := 111) (q := ((0 : Nat), (56 : Nat))) (by decide +kernel)⟩, e0r hE (k := 109) (j := 9) (r := 110) (by decide +kernel), e0r hE (k := 110) (j := 2) (r := 111) (by decide +kernel)⟩, ⟨⟨e0k hE (k := 112) (c := 2) (by decide +kernel), e0a hE (k := 113) (q := ((0 : Nat), (24 : Nat))) (by decide +kernel)⟩, e0r hE (k := 109) (j := 10) (r := 112) (by decide +kernel), e0r hE (k := 112) (j := 2) (r := 113) (by decide +kernel)⟩, ⟨⟨e0k hE (k := 114) (c := 2) (by decide +kernel), e0a hE (k := 115) (q := ((0 : Nat), (24 : Nat))) (by decide +kernel)⟩, e0r hE (k := 109) (j := 11) (r := 114) (by decide +kernel), e0r hE (k := 114) (j := 2) (r := 115) (by decide +kernel)⟩, ⟨⟨e0k hE (k := 116) (c := 2) (by decide +kernel), e0a hE (k := 117) (q := ((0 : Nat), (168 : Nat))) (by decide +kernel)⟩, e0r hE (k := 109) (j := 12) (r := 116) (by decide +kernel), e0r hE (k := 116) (j := 2) (r := 117) (by decide +kernel)⟩, ⟨⟨e0k hE (k := 118) (c := 2) (by decide +kernel), e0a hE (k := 119) (q := ((0 : Nat), (36 : Nat))) (by decide +kernel)⟩, e0r hE (k := 109) (j := 13) (r := 118) (by decide +kernel), e0r hE (k := 118) (j := 2) (r := 119) (by decide +kernel)⟩, ⟨⟨e0k hE (k := 120) (c := 2) (by decide +kernel), e0a hE (k := 121) (q := ((0 : Nat), (72 : Nat))) (by decide +kernel)⟩, e0r hE (k := 109) (j := 14) (r := 120) (by decide +kernel), e0r hE (k := 120) (j := 2) (r := 121) (by decide +kernel)⟩⟩
theorem mx_109 (hC : CST M) : MX M 109 := ⟨hC (110, 0, 8) (by decide), hC (112, 0, 8) (by decide), hC (114, 0, 8) (by decide), hC (116, 0, 24) (by decide), hC (118, 0, 6) (by decide), hC (120, 0, 24) (by decide)⟩
theorem ks_122 (hE : E0 n K R) : KS n K R 122 := ⟨e0k hE (k := 122) (c := 1) (by decide +kernel), ⟨⟨e0k hE (k := 123) (c := 2) (by decide +kernel), e0a hE (k := 124) (q := ((0 : Nat), (56 : Nat))) (by decide +kernel)⟩, e0r hE (k := 122) (j := 9) (r := 123) (by decide +kernel), e0r hE (k := 123) (j := 2) (r := 124) (by decide +kernel)⟩, ⟨⟨e0k hE (k := 125) (c := 2) (by decide +kernel), e0a hE (k := 126) (q := ((0 : Nat), (24 : Nat))) (by decide +kernel)⟩, e0r hE (k := 122) (j := 10) (r := 125) (by decide +kernel), e0r hE (k := 125) (j := 2) (r := 126) (by decide +kernel)⟩, ⟨⟨e0k hE (k := 127) (c := 2) (by decide +kernel), e0a hE (k := 128) (q := ((0 : Nat), (24 : Nat))) (by decide +kernel)⟩, e0r hE (k := 122) (j := 11) (r := 127) (by decide +kernel), e0r hE (k := 127) (j := 2) (r := 128) (by decide +kernel)⟩, ⟨⟨e0k hE (k := 129) (c := 2) (by decide +kernel), e0a hE (k := 130) (q := ((0 : Nat), (168 : Nat))) (by decide +kernel)⟩, e0r hE (k := 122) (j := 12) (r := 129) (by decide +kernel), e0r hE (k := 129) (j := 2) (r := 130) (by decide +kernel)⟩, ⟨⟨e0k hE (k := 131) (c := 2) (by decide +kernel), e0a hE (k := 132) (q := ((0 : Nat), (36 : Nat))) (by decide +kernel)⟩, e0r hE (k := 122) (j := 13) (r := 131) (by decide +kernel), e0r hE (k := 131) (j := 2) (r := 132) (by decide +kernel)⟩, ⟨⟨e0k hE (k := 133) (c := 2) (by decide +kernel), e0a hE (k := 134) (q := ((0 : Nat), (72 : Nat))) (by decide +kernel)⟩, e0r hE (k := 122) (j := 14) (r := 133) (by decide +kernel), e0r hE (k := 133) (j := 2) (r := 134) (by decide +kernel)⟩⟩
theorem mx_122 (hC : CST M) : MX M 122 := ⟨hC (123, 0, 8) (by decide), hC (125, 0, 8) (by decide), hC (127, 0, 8) (by decide), hC (129, 0, 24) (by decide), hC (131, 0, 6) (by decide), hC (133, 0, 24) (by decide)⟩
theorem ks_135 (hE : E0 n K R) : KS n K R 135 := ⟨e0k hE (k := 135) (c := 1) (by decide +kernel), ⟨⟨e0k hE (k := 136) (c := 2) (by decide +kernel), e0a hE (k := 137) (q := ((0 : Nat), (56 : Nat))) (by decide +kernel)⟩, e0r hE (k := 135) (j := 9) (r := 136) (by decide +kernel), e0r hE (k := 136) (j := 2) (r := 137) (by decide +kernel)⟩, ⟨⟨e0k hE (k := 138) (c := 2) (by decide +kernel), e0a hE (k := 139) (q := ((0 : Nat), (24 : Nat))) (by decide +kernel)⟩, e0r hE (k := 135) (j := 10) (r := 138) (by decide +kernel), e0r hE (k := 138) (j := 2) (r := 139) (by decide +kernel)⟩, ⟨⟨e0k hE (k := 140) (c := 2) (by decide +kernel), e0a hE (k := 141) (q := ((0 : Nat), (24 : Nat))) (by decide +kernel)⟩, e0r hE (k := 135) (j := 11) (r := 140) (by decide +kernel), e0r hE (k := 140) (j := 2) (r := 141) (by decide +kernel)⟩, ⟨⟨e0k hE (k := 142) (c := 2) (by decide +kernel), e0a hE (k := 143) (q := ((0 : Nat), (168 : Nat))) (by decide +kernel)⟩, e0r hE (k := 135) (j := 12) (r := 142) (by decide +kernel), e0r hE (k := 142) (j := 2) (r := 143) (by decide +kernel)⟩, ⟨⟨e0k hE (k := 144) (c := 2) (by decide +kernel), e0a hE (k := 145) (q := ((0 : Nat), (36 : Nat))) (by decide +kernel)⟩, e0r hE (k := 135) (j := 13) (r := 144) (by decide +kernel), e0r hE (k := 144) (j := 2) (r := 145) (by decide +kernel)⟩, ⟨⟨e0k hE (k := 146) (c := 2) (by decide +kernel), e0a hE (k := 147) (q := ((0 : Nat), (72 : Nat))) (by decide +kernel)⟩, e0r hE (k := 135) (j := 14) (r := 146) (by decide +kernel), e0r hE (k := 146) (j := 2) (r := 147) (by decide +kernel)⟩⟩
theorem mx_135 (hC : CST M) : MX M 135 := ⟨hC (136, 0, 8) (by decide), hC (138, 0, 8) (by decide), hC (140, 0, 8) (by decide), hC (142, 0, 24) (by decide), hC (144, 0, 6) (by decide), hC (146, 0, 24) (by decide)⟩
theorem ks_148 (hE : E0 n K R) : KS n K R 148 := ⟨e0k hE (k := 148) (c := 1) (by decide +kernel), ⟨⟨e0k hE (k := 149) (c := 2) (by decide +kernel), e0a hE (k := 150) (q := ((0 : Nat), (56 : Nat))) (by decide +kernel)⟩, e0r hE (k := 148) (j := 9) (r := 149) (by decide +kernel), e0r hE (k := 149) (j := 2) (r := 150) (by decide +kernel)⟩, ⟨⟨e0k hE (k := 151) (c := 2) (by decide +kernel), e0a hE (k := 152) (q := ((0 : Nat), (24 : Nat))) (by decide +kernel)⟩, e0r hE (k := 148) (j := 10) (r := 151) (by decide +kernel), e0r hE (k := 151) (j := 2) (r := 152) (by decide +kernel)⟩, ⟨⟨e0k hE (k := 153) (c := 2) (by decide +kernel), e0a hE (k := 154) (q := ((0 : Nat), (24 : Nat))) (by decide +kernel)⟩, e0r hE (k := 148) (j := 11) (r := 153) (by decide +kernel), e0r hE (k := 153) (j := 2) (r := 154) (by decide +kernel)⟩, ⟨⟨e0k hE (k := 155) (c := 2) (by decide +kernel), e0a hE (k := 156) (q := ((0 : Nat), (168 : Nat))) (by decide +kernel)⟩, e0r hE (k := 148) (j := 12) (r := 155) (by decide +kernel), e0r hE (k := 155) (j := 2) (r := 156) (by decide +kernel)⟩, ⟨⟨e0k hE (k := 157) (c := 2) (by decide +kernel), e0a hE (k := 158) (q := ((0 : Nat), (36 : Nat))) (by decide +kernel)⟩, e0r hE (k := 148) (j := 13) (r := 157) (by decide +kernel), e0r hE (k := 157) (j := 2) (r := 158) (by decide +kernel)⟩, ⟨⟨e0k hE (k := 159) (c := 2) (by decide +kernel), e0a hE (k := 160) (q := ((0 : Nat), (72 : Nat))) (by decide +kernel)⟩, e0r hE (k := 148) (j := 14) (r := 159) (by decide +kernel), e0r hE (k := 159) (j := 2) (r := 160) (by decide +kernel)⟩⟩
theorem mx_148 (hC : CST M) : MX M 148 := ⟨hC (149, 0, 8) (by decide), hC (151, 0, 8) (by decide), hC (153, 0, 8) (by decide), hC (155, 0, 24) (by decide), hC (157, 0, 6) (by decide), hC (159, 0, 24) (by decide)⟩
theorem ks_161 (hE : E0 n K R) : KS n K R 161 := ⟨e0k hE (k := 161) (c := 1) (by decide +kernel), ⟨⟨e0k hE (k := 162) (c := 2) (by decide +kernel), e0a hE (k := 163) (q := ((0 : Nat), (56 : Nat))) (by decide +kernel)⟩, e0r hE (k := 161) (j := 9) (r := 162) (by decide +kernel), e0r hE (k := 162) (j := 2) (r := 163) (by decide +kernel)⟩, ⟨⟨e0k hE (k := 164) (c := 2) (by decide +kernel), e0a hE (k := 165) (q := ((0 : Nat), (24 : Nat))) (by decide +kernel)⟩, e0r hE (k := 161) (j := 10) (r := 164) (by decide +kernel), e0r hE (k := 164) (j := 2) (r := 165) (by decide +kernel)⟩, ⟨⟨e0k hE (k := 166) (c := 2) (by decide +kernel), e0a hE (k := 167) (q := ((0 : Nat), (24 : Nat))) (by decide +kernel)⟩, e0r hE (k := 161) (j := 11) (r := 166) (by decide +kernel), e0r hE (k := 166) (j := 2) (r := 167) (by decide +kernel)⟩, ⟨⟨e0k hE (k := 168) (c := 2) (by decide +kernel), e0a hE (k := 169) (q := ((0 : Nat), (168 : Nat))) (by decide +kernel)⟩, e0r hE (k := 161) (j := 12) (r := 168) (by decide +kernel), e0r hE (k := 168) (j := 2) (r := 169) (by decide +kernel)⟩, ⟨⟨e0k hE (k := 170) (c := 2) (by decide +kernel), e0a hE (k := 171) (q := ((0 : Nat), (36 : Nat))) (by decide +kernel)⟩, e0r hE (k := 161) (j := 13) (r := 170) (by decide +kernel), e0r hE (k := 170) (j := 2) (r := 171) (by decide +kernel)⟩, ⟨⟨e0k hE (k := 172) (c := 2) (by decide +kernel), e0a hE (k := 173) (q := ((0 : Nat), (72 : Nat))) (by decide +kernel)⟩, e0r hE (k := 161) (j := 14) (r := 172) (by decide +kernel), e0r hE (k := 172) (j := 2) (r := 173) (by decide +kernel)⟩⟩
theorem mx_161 (hC : CST M) : MX M 161 := ⟨hC (162, 0, 8) (by decide), hC (164, 0, 8) (by decide), hC (166, 0, 8) (by decide), hC (168, 0, 24) (by decide), hC (170, 0, 6) (by decide), hC (172, 0, 24) (by decide)⟩
theorem ks_174 (hE : E0 n K R) : KS n K R 174 := ⟨e0k hE (k := 174) (c := 1) (by decide +kernel), ⟨⟨e0k hE (k := 175) (c := 2) (by decide +kernel), e0a hE (k := 176) (q := ((0 : Nat), (56 : Nat))) (by decide +kernel)⟩, e0r hE (k := 174) (j := 9) (r := 175) (by decide +kernel), e0r hE (k := 175) (j := 2) (r := 176) (by decide +kernel)⟩, ⟨⟨e0k hE (k := 177) (c := 2) (by decide +kernel), e0a hE (k := 178) (q := ((0 : Nat), (24 : Nat))) (by decide +kernel)⟩, e0r hE (k := 174) (j := 10) (r := 177) (by decide +kernel), e0r hE (k := 177) (j := 2) (r := 178) (by decide +kernel)⟩, ⟨⟨e0k hE (k := 179) (c := 2) (by decide +kernel), e0a hE (k := 180) (q := ((0 : Nat), (24 : Nat))) (by decide +kernel)⟩, e0r hE (k := 174) (j := 11) (r := 179) (by decide +kernel), e0r hE (k := 179) (j := 2) (r := 180) (by decide +kernel)⟩, ⟨⟨e0k hE (k := 181) (c := 2) (by decide +kernel), e0a hE (k := 182) (q := ((0 : Nat), (168 : Nat))) (by decide +kernel)⟩, e0r hE (k := 174) (j := 12) (r := 181) (by decide +kernel), e0r hE (k := 181) (j := 2) (r := 182) (by decide +kernel)⟩, ⟨⟨e0k hE (k := 183) (c := 2) (by decide +kernel), e0a hE (k := 184) (q := ((0 : Nat), (36 : Nat))) (by decide +kernel)⟩, e0r hE (k := 174) (j := 13) (r := 183) (by decide +kernel), e0r hE (k := 183) (j := 2) (r := 184) (by decide +kernel)⟩, ⟨⟨e0k hE (k := 185) (c := 2) (by decide +kernel), e0a hE (k := 186) (q := ((0 : Nat), (72 : Nat))) (by decide +kernel)⟩, e0r hE (k := 174) (j := 14) (r := 185) (by decide +kernel), e0r hE (k := 185) (j := 2) (r := 186) (by decide +kernel)⟩⟩
theorem mx_174 (hC : CST M) : MX M 174 := ⟨hC (175, 0, 8) (by decide), hC (177, 0, 8) (by decide), hC (179, 0, 8) (by decide), hC (181, 0, 24) (by decide), hC (183, 0, 6) (by decide), hC (185, 0, 24) (by decide)⟩
theorem ks_187 (hE : E0 n K R) : KS n K R 187 := ⟨e0k hE (k := 187) (c := 1) (by decide +kernel), ⟨⟨e0k hE (k := 188) (c := 2) (by decide +kernel), e0a hE (k := 189) (q := ((0 : Nat), (56 : Nat))) (by decide +kernel)⟩, e0r hE (k := 187) (j := 9) (r := 188) (by decide +kernel), e0r hE (k := 188) (j := 2) (r := 189) (by decide +kernel)⟩, ⟨⟨e0k hE (k := 190) (c := 2) (by decide +kernel), e0a hE (k := 191) (q := ((0 : Nat), (24 : Nat))) (by decide +kernel)⟩, e0r hE (k := 187) (j := 10) (r := 190) (by decide +kernel), e0r hE (k := 190) (j := 2) (r := 191) (by decide +kernel)⟩, ⟨⟨e0k hE (k := 192) (c := 2) (by decide +kernel), e0a hE (k := 193) (q := ((0 : Nat), (24 : Nat))) (by decide +kernel)⟩, e0r hE (k := 187) (j := 11) (r := 192) (by decide +kernel), e0r hE (k := 192) (j := 2) (r := 193) (by decide +kernel)⟩, ⟨⟨e0k hE (k := 194) (c := 2) (by decide +kernel), e0a hE (k := 195) (q := ((0 : Nat), (168 : Nat))) (by decide +kernel)⟩, e0r hE (k := 187) (j := 12) (r := 194) (by decide +kernel), e0r hE (k := 194) (j := 2) (r := 195) (by decide +kernel)⟩, ⟨⟨e0k hE (k := 196) (c := 2) (by decide +kernel), e0a hE (k := 197) (q := ((0 : Nat), (36 : Nat))) (by decide +kernel)⟩, e0r hE (k := 187) (j := 13) (r := 196) (by decide +kernel), e0r hE (k := 196) (j := 2) (r := 197) (by decide +kernel)⟩, ⟨⟨e0k hE (k := 198) (c := 2) (by decide +kernel), e0a hE (k := 199) (q := ((0 : Nat), (72 : Nat))) (by decide +kernel)⟩, e0r hE (k := 187) (j := 14) (r := 198) (by decide +kernel), e0r hE (k := 198) (j := 2) (r := 199) (by decide +kernel)⟩⟩
theorem mx_187 (hC : CST M) : MX M 187 := ⟨hC (188, 0, 8) (by decide), hC (190, 0, 8) (by decide), hC (192, 0, 8) (by decide), hC (194, 0, 24) (by decide), hC (196, 0, 6) (by decide), hC (198, 0, 24) (by decide)⟩
theorem p12 (h : 0 ≤ p ∧ p < 12) : p = 0 ∨ p = 1 ∨ p = 2 ∨ p = 3 ∨ p = 4 ∨ p = 5 ∨ p = 6 ∨ p = 7 ∨ p = 8 ∨ p = 9 ∨ p = 10 ∨ p = 11 := by omega
theorem ks_p (hE : E0 n K R) (h : 0 ≤ p ∧ p < 12) : KS n K R (44 + 13 * p.toNat) := by
  rcases p12 h with rfl | rfl | rfl | rfl | rfl | rfl | rfl | rfl | rfl | rfl | rfl | rfl
  · exact ks_44 hE
  · exact ks_57 hE
  · exact ks_70 hE
  · exact ks_83 hE
  · exact ks_96 hE
  · exact ks_109 hE
  · exact ks_122 hE
  · exact ks_135 hE
  · exact ks_148 hE
  · exact ks_161 hE
  · exact ks_174 hE
  · exact ks_187 hE
theorem mx_p (hC : CST M) (h : 0 ≤ p ∧ p < 12) : MX M (44 + 13 * p.toNat) := by
  rcases p12 h with rfl | rfl | rfl | rfl | rfl | rfl | rfl | rfl | rfl | rfl | rfl | rfl
  · exact mx_44 hC
  · exact mx_57 hC
  · exact mx_70 hC
  · exact mx_83 hC
  · exact mx_96 hC
  · exact mx_109 hC
  · exact mx_122 hC
  · exact mx_135 hC
  · exact mx_148 hC
  · exact mx_161 hC
  · exact mx_174 hC
  · exact mx_187 hC
theorem hi_at (hE : E0 n K R) (h : 0 ≤ p ∧ p < 12) (hq : Q (.inl (some (gm_vr (44 + 13 * p.toNat)))) n K R M) : gm_Wp X LX d bc bs 56 0 (gm_ent 56 [gm_vr 42, gm_vi p]) [] n K R M Q := by
  rcases p12 h with rfl | rfl | rfl | rfl | rfl | rfl | rfl | rfl | rfl | rfl | rfl | rfl
  · refine gm_sz (gm_p_load (pc := 0) (i := .iload_n 1) (sr := 0) (j := 1) (by decide +kernel) rfl rfl rfl) ?_
    refine fw_iffd (cc := .lt) (pc := 1) (off := 21) (by decide +kernel) (by decide) ⟨by decide, by decide⟩ (by decide) ?_
    refine gm_sz (gm_p_load (pc := 4) (i := .iload_n 1) (sr := 0) (j := 1) (by decide +kernel) rfl rfl rfl) ?_
    refine gm_sz (gm_p_load (pc := 5) (i := .aload_n 0) (sr := 2) (j := 0) (by decide +kernel) rfl rfl rfl) ?_
    refine gm_sz (fw_gr (pc := 6) (ix := 11) (ci := 3) (j := 0) (r := 43) (by decide +kernel) (e0k hE (k := 42) (c := 3) (by decide +kernel)) (by decide +kernel) (by decide +kernel) (e0r hE (k := 42) (j := 0) (r := 43) (by decide +kernel))) ?_
    refine gm_sz (fw_al (pc := 9) (k := 43) (len := 12) (by decide +kernel) (e0a hE (k := 43) (q := ((3 : Nat), (12 : Nat))) (by decide +kernel)).1 (e0a hE (k := 43) (q := ((3 : Nat), (12 : Nat))) (by decide +kernel)).2 (by decide)) ?_
    refine fw_icfd (cc := .ge) (pc := 10) (off := 12) (by decide +kernel) (by decide) ⟨by decide, by decide⟩ ⟨by decide, by decide⟩ (by decide) ?_
    refine gm_sz (gm_p_load (pc := 13) (i := .aload_n 0) (sr := 2) (j := 0) (by decide +kernel) rfl rfl rfl) ?_
    refine gm_sz (fw_gr (pc := 14) (ix := 11) (ci := 3) (j := 0) (r := 43) (by decide +kernel) (e0k hE (k := 42) (c := 3) (by decide +kernel)) (by decide +kernel) (by decide +kernel) (e0r hE (k := 42) (j := 0) (r := 43) (by decide +kernel))) ?_
    refine gm_sz (gm_p_load (pc := 17) (i := .iload_n 1) (sr := 0) (j := 1) (by decide +kernel) rfl rfl rfl) ?_
    refine gm_sz (fw_aa (pc := 18) (k := 43) (len := 12) (e0 := 0) (r := 44) (by decide +kernel) (e0a hE (k := 43) (q := ((3 : Nat), (12 : Nat))) (by decide +kernel)).1 (e0a hE (k := 43) (q := ((3 : Nat), (12 : Nat))) (by decide +kernel)).2 (by decide) ⟨by decide, by decide⟩ (e0r hE (k := 43) (j := 0) (r := 44) (by decide +kernel))) ?_
    refine gm_sz (gm_p_goto (pc := 19) (off := 4) (by decide +kernel) (by decide)) ?_
    exact gm_r_ref (pc := 23) (by decide +kernel) (Or.inl ⟨"GlacierMail$State", (by decide +kernel)⟩) hq
  · refine gm_sz (gm_p_load (pc := 0) (i := .iload_n 1) (sr := 0) (j := 1) (by decide +kernel) rfl rfl rfl) ?_
    refine fw_iffd (cc := .lt) (pc := 1) (off := 21) (by decide +kernel) (by decide) ⟨by decide, by decide⟩ (by decide) ?_
    refine gm_sz (gm_p_load (pc := 4) (i := .iload_n 1) (sr := 0) (j := 1) (by decide +kernel) rfl rfl rfl) ?_
    refine gm_sz (gm_p_load (pc := 5) (i := .aload_n 0) (sr := 2) (j := 0) (by decide +kernel) rfl rfl rfl) ?_
    refine gm_sz (fw_gr (pc := 6) (ix := 11) (ci := 3) (j := 0) (r := 43) (by decide +kernel) (e0k hE (k := 42) (c := 3) (by decide +kernel)) (by decide +kernel) (by decide +kernel) (e0r hE (k := 42) (j := 0) (r := 43) (by decide +kernel))) ?_
    refine gm_sz (fw_al (pc := 9) (k := 43) (len := 12) (by decide +kernel) (e0a hE (k := 43) (q := ((3 : Nat), (12 : Nat))) (by decide +kernel)).1 (e0a hE (k := 43) (q := ((3 : Nat), (12 : Nat))) (by decide +kernel)).2 (by decide)) ?_
    refine fw_icfd (cc := .ge) (pc := 10) (off := 12) (by decide +kernel) (by decide) ⟨by decide, by decide⟩ ⟨by decide, by decide⟩ (by decide) ?_
    refine gm_sz (gm_p_load (pc := 13) (i := .aload_n 0) (sr := 2) (j := 0) (by decide +kernel) rfl rfl rfl) ?_
    refine gm_sz (fw_gr (pc := 14) (ix := 11) (ci := 3) (j := 0) (r := 43) (by decide +kernel) (e0k hE (k := 42) (c := 3) (by decide +kernel)) (by decide +kernel) (by decide +kernel) (e0r hE (k := 42) (j := 0) (r := 43) (by decide +kernel))) ?_
    refine gm_sz (gm_p_load (pc := 17) (i := .iload_n 1) (sr := 0) (j := 1) (by decide +kernel) rfl rfl rfl) ?_
    refine gm_sz (fw_aa (pc := 18) (k := 43) (len := 12) (e0 := 1) (r := 57) (by decide +kernel) (e0a hE (k := 43) (q := ((3 : Nat), (12 : Nat))) (by decide +kernel)).1 (e0a hE (k := 43) (q := ((3 : Nat), (12 : Nat))) (by decide +kernel)).2 (by decide) ⟨by decide, by decide⟩ (e0r hE (k := 43) (j := 1) (r := 57) (by decide +kernel))) ?_
    refine gm_sz (gm_p_goto (pc := 19) (off := 4) (by decide +kernel) (by decide)) ?_
    exact gm_r_ref (pc := 23) (by decide +kernel) (Or.inl ⟨"GlacierMail$State", (by decide +kernel)⟩) hq
  · refine gm_sz (gm_p_load (pc := 0) (i := .iload_n 1) (sr := 0) (j := 1) (by decide +kernel) rfl rfl rfl) ?_
    refine fw_iffd (cc := .lt) (pc := 1) (off := 21) (by decide +kernel) (by decide) ⟨by decide, by decide⟩ (by decide) ?_
    refine gm_sz (gm_p_load (pc := 4) (i := .iload_n 1) (sr := 0) (j := 1) (by decide +kernel) rfl rfl rfl) ?_
    refine gm_sz (gm_p_load (pc := 5) (i := .aload_n 0) (sr := 2) (j := 0) (by decide +kernel) rfl rfl rfl) ?_
    refine gm_sz (fw_gr (pc := 6) (ix := 11) (ci := 3) (j := 0) (r := 43) (by decide +kernel) (e0k hE (k := 42) (c := 3) (by decide +kernel)) (by decide +kernel) (by decide +kernel) (e0r hE (k := 42) (j := 0) (r := 43) (by decide +kernel))) ?_
    refine gm_sz (fw_al (pc := 9) (k := 43) (len := 12) (by decide +kernel) (e0a hE (k := 43) (q := ((3 : Nat), (12 : Nat))) (by decide +kernel)).1 (e0a hE (k := 43) (q := ((3 : Nat), (12 : Nat))) (by decide +kernel)).2 (by decide)) ?_
    refine fw_icfd (cc := .ge) (pc := 10) (off := 12) (by decide +kernel) (by decide) ⟨by decide, by decide⟩ ⟨by decide, by decide⟩ (by decide) ?_
    refine gm_sz (gm_p_load (pc := 13) (i := .aload_n 0) (sr := 2) (j := 0) (by decide +kernel) rfl rfl rfl) ?_
    refine gm_sz (fw_gr (pc := 14) (ix := 11) (ci := 3) (j := 0) (r := 43) (by decide +kernel) (e0k hE (k := 42) (c := 3) (by decide +kernel)) (by decide +kernel) (by decide +kernel) (e0r hE (k := 42) (j := 0) (r := 43) (by decide +kernel))) ?_
    refine gm_sz (gm_p_load (pc := 17) (i := .iload_n 1) (sr := 0) (j := 1) (by decide +kernel) rfl rfl rfl) ?_
    refine gm_sz (fw_aa (pc := 18) (k := 43) (len := 12) (e0 := 2) (r := 70) (by decide +kernel) (e0a hE (k := 43) (q := ((3 : Nat), (12 : Nat))) (by decide +kernel)).1 (e0a hE (k := 43) (q := ((3 : Nat), (12 : Nat))) (by decide +kernel)).2 (by decide) ⟨by decide, by decide⟩ (e0r hE (k := 43) (j := 2) (r := 70) (by decide +kernel))) ?_
    refine gm_sz (gm_p_goto (pc := 19) (off := 4) (by decide +kernel) (by decide)) ?_
    exact gm_r_ref (pc := 23) (by decide +kernel) (Or.inl ⟨"GlacierMail$State", (by decide +kernel)⟩) hq
  · refine gm_sz (gm_p_load (pc := 0) (i := .iload_n 1) (sr := 0) (j := 1) (by decide +kernel) rfl rfl rfl) ?_
    refine fw_iffd (cc := .lt) (pc := 1) (off := 21) (by decide +kernel) (by decide) ⟨by decide, by decide⟩ (by decide) ?_
    refine gm_sz (gm_p_load (pc := 4) (i := .iload_n 1) (sr := 0) (j := 1) (by decide +kernel) rfl rfl rfl) ?_
    refine gm_sz (gm_p_load (pc := 5) (i := .aload_n 0) (sr := 2) (j := 0) (by decide +kernel) rfl rfl rfl) ?_
    refine gm_sz (fw_gr (pc := 6) (ix := 11) (ci := 3) (j := 0) (r := 43) (by decide +kernel) (e0k hE (k := 42) (c := 3) (by decide +kernel)) (by decide +kernel) (by decide +kernel) (e0r hE (k := 42) (j := 0) (r := 43) (by decide +kernel))) ?_
    refine gm_sz (fw_al (pc := 9) (k := 43) (len := 12) (by decide +kernel) (e0a hE (k := 43) (q := ((3 : Nat), (12 : Nat))) (by decide +kernel)).1 (e0a hE (k := 43) (q := ((3 : Nat), (12 : Nat))) (by decide +kernel)).2 (by decide)) ?_
    refine fw_icfd (cc := .ge) (pc := 10) (off := 12) (by decide +kernel) (by decide) ⟨by decide, by decide⟩ ⟨by decide, by decide⟩ (by decide) ?_
    refine gm_sz (gm_p_load (pc := 13) (i := .aload_n 0) (sr := 2) (j := 0) (by decide +kernel) rfl rfl rfl) ?_
    refine gm_sz (fw_gr (pc := 14) (ix := 11) (ci := 3) (j := 0) (r := 43) (by decide +kernel) (e0k hE (k := 42) (c := 3) (by decide +kernel)) (by decide +kernel) (by decide +kernel) (e0r hE (k := 42) (j := 0) (r := 43) (by decide +kernel))) ?_
    refine gm_sz (gm_p_load (pc := 17) (i := .iload_n 1) (sr := 0) (j := 1) (by decide +kernel) rfl rfl rfl) ?_
    refine gm_sz (fw_aa (pc := 18) (k := 43) (len := 12) (e0 := 3) (r := 83) (by decide +kernel) (e0a hE (k := 43) (q := ((3 : Nat), (12 : Nat))) (by decide +kernel)).1 (e0a hE (k := 43) (q := ((3 : Nat), (12 : Nat))) (by decide +kernel)).2 (by decide) ⟨by decide, by decide⟩ (e0r hE (k := 43) (j := 3) (r := 83) (by decide +kernel))) ?_
    refine gm_sz (gm_p_goto (pc := 19) (off := 4) (by decide +kernel) (by decide)) ?_
    exact gm_r_ref (pc := 23) (by decide +kernel) (Or.inl ⟨"GlacierMail$State", (by decide +kernel)⟩) hq
  · refine gm_sz (gm_p_load (pc := 0) (i := .iload_n 1) (sr := 0) (j := 1) (by decide +kernel) rfl rfl rfl) ?_
    refine fw_iffd (cc := .lt) (pc := 1) (off := 21) (by decide +kernel) (by decide) ⟨by decide, by decide⟩ (by decide) ?_
    refine gm_sz (gm_p_load (pc := 4) (i := .iload_n 1) (sr := 0) (j := 1) (by decide +kernel) rfl rfl rfl) ?_
    refine gm_sz (gm_p_load (pc := 5) (i := .aload_n 0) (sr := 2) (j := 0) (by decide +kernel) rfl rfl rfl) ?_
    refine gm_sz (fw_gr (pc := 6) (ix := 11) (ci := 3) (j := 0) (r := 43) (by decide +kernel) (e0k hE (k := 42) (c := 3) (by decide +kernel)) (by decide +kernel) (by decide +kernel) (e0r hE (k := 42) (j := 0) (r := 43) (by decide +kernel))) ?_
    refine gm_sz (fw_al (pc := 9) (k := 43) (len := 12) (by decide +kernel) (e0a hE (k := 43) (q := ((3 : Nat), (12 : Nat))) (by decide +kernel)).1 (e0a hE (k := 43) (q := ((3 : Nat), (12 : Nat))) (by decide +kernel)).2 (by decide)) ?_
    refine fw_icfd (cc := .ge) (pc := 10) (off := 12) (by decide +kernel) (by decide) ⟨by decide, by decide⟩ ⟨by decide, by decide⟩ (by decide) ?_
    refine gm_sz (gm_p_load (pc := 13) (i := .aload_n 0) (sr := 2) (j := 0) (by decide +kernel) rfl rfl rfl) ?_
    refine gm_sz (fw_gr (pc := 14) (ix := 11) (ci := 3) (j := 0) (r := 43) (by decide +kernel) (e0k hE (k := 42) (c := 3) (by decide +kernel)) (by decide +kernel) (by decide +kernel) (e0r hE (k := 42) (j := 0) (r := 43) (by decide +kernel))) ?_
    refine gm_sz (gm_p_load (pc := 17) (i := .iload_n 1) (sr := 0) (j := 1) (by decide +kernel) rfl rfl rfl) ?_
    refine gm_sz (fw_aa (pc := 18) (k := 43) (len := 12) (e0 := 4) (r := 96) (by decide +kernel) (e0a hE (k := 43) (q := ((3 : Nat), (12 : Nat))) (by decide +kernel)).1 (e0a hE (k := 43) (q := ((3 : Nat), (12 : Nat))) (by decide +kernel)).2 (by decide) ⟨by decide, by decide⟩ (e0r hE (k := 43) (j := 4) (r := 96) (by decide +kernel))) ?_
    refine gm_sz (gm_p_goto (pc := 19) (off := 4) (by decide +kernel) (by decide)) ?_
    exact gm_r_ref (pc := 23) (by decide +kernel) (Or.inl ⟨"GlacierMail$State", (by decide +kernel)⟩) hq
  · refine gm_sz (gm_p_load (pc := 0) (i := .iload_n 1) (sr := 0) (j := 1) (by decide +kernel) rfl rfl rfl) ?_
    refine fw_iffd (cc := .lt) (pc := 1) (off := 21) (by decide +kernel) (by decide) ⟨by decide, by decide⟩ (by decide) ?_
    refine gm_sz (gm_p_load (pc := 4) (i := .iload_n 1) (sr := 0) (j := 1) (by decide +kernel) rfl rfl rfl) ?_
    refine gm_sz (gm_p_load (pc := 5) (i := .aload_n 0) (sr := 2) (j := 0) (by decide +kernel) rfl rfl rfl) ?_
    refine gm_sz (fw_gr (pc := 6) (ix := 11) (ci := 3) (j := 0) (r := 43) (by decide +kernel) (e0k hE (k := 42) (c := 3) (by decide +kernel)) (by decide +kernel) (by decide +kernel) (e0r hE (k := 42) (j := 0) (r := 43) (by decide +kernel))) ?_
    refine gm_sz (fw_al (pc := 9) (k := 43) (len := 12) (by decide +kernel) (e0a hE (k := 43) (q := ((3 : Nat), (12 : Nat))) (by decide +kernel)).1 (e0a hE (k := 43) (q := ((3 : Nat), (12 : Nat))) (by decide +kernel)).2 (by decide)) ?_
    refine fw_icfd (cc := .ge) (pc := 10) (off := 12) (by decide +kernel) (by decide) ⟨by decide, by decide⟩ ⟨by decide, by decide⟩ (by decide) ?_
    refine gm_sz (gm_p_load (pc := 13) (i := .aload_n 0) (sr := 2) (j := 0) (by decide +kernel) rfl rfl rfl) ?_
    refine gm_sz (fw_gr (pc := 14) (ix := 11) (ci := 3) (j := 0) (r := 43) (by decide +kernel) (e0k hE (k := 42) (c := 3) (by decide +kernel)) (by decide +kernel) (by decide +kernel) (e0r hE (k := 42) (j := 0) (r := 43) (by decide +kernel))) ?_
    refine gm_sz (gm_p_load (pc := 17) (i := .iload_n 1) (sr := 0) (j := 1) (by decide +kernel) rfl rfl rfl) ?_
    refine gm_sz (fw_aa (pc := 18) (k := 43) (len := 12) (e0 := 5) (r := 109) (by decide +kernel) (e0a hE (k := 43) (q := ((3 : Nat), (12 : Nat))) (by decide +kernel)).1 (e0a hE (k := 43) (q := ((3 : Nat), (12 : Nat))) (by decide +kernel)).2 (by decide) ⟨by decide, by decide⟩ (e0r hE (k := 43) (j := 5) (r := 109) (by decide +kernel))) ?_
    refine gm_sz (gm_p_goto (pc := 19) (off := 4) (by decide +kernel) (by decide)) ?_
    exact gm_r_ref (pc := 23) (by decide +kernel) (Or.inl ⟨"GlacierMail$State", (by decide +kernel)⟩) hq
  · refine gm_sz (gm_p_load (pc := 0) (i := .iload_n 1) (sr := 0) (j := 1) (by decide +kernel) rfl rfl rfl) ?_
    refine fw_iffd (cc := .lt) (pc := 1) (off := 21) (by decide +kernel) (by decide) ⟨by decide, by decide⟩ (by decide) ?_
    refine gm_sz (gm_p_load (pc := 4) (i := .iload_n 1) (sr := 0) (j := 1) (by decide +kernel) rfl rfl rfl) ?_
    refine gm_sz (gm_p_load (pc := 5) (i := .aload_n 0) (sr := 2) (j := 0) (by decide +kernel) rfl rfl rfl) ?_
    refine gm_sz (fw_gr (pc := 6) (ix := 11) (ci := 3) (j := 0) (r := 43) (by decide +kernel) (e0k hE (k := 42) (c := 3) (by decide +kernel)) (by decide +kernel) (by decide +kernel) (e0r hE (k := 42) (j := 0) (r := 43) (by decide +kernel))) ?_
    refine gm_sz (fw_al (pc := 9) (k := 43) (len := 12) (by decide +kernel) (e0a hE (k := 43) (q := ((3 : Nat), (12 : Nat))) (by decide +kernel)).1 (e0a hE (k := 43) (q := ((3 : Nat), (12 : Nat))) (by decide +kernel)).2 (by decide)) ?_
    refine fw_icfd (cc := .ge) (pc := 10) (off := 12) (by decide +kernel) (by decide) ⟨by decide, by decide⟩ ⟨by decide, by decide⟩ (by decide) ?_
    refine gm_sz (gm_p_load (pc := 13) (i := .aload_n 0) (sr := 2) (j := 0) (by decide +kernel) rfl rfl rfl) ?_
    refine gm_sz (fw_gr (pc := 14) (ix := 11) (ci := 3) (j := 0) (r := 43) (by decide +kernel) (e0k hE (k := 42) (c := 3) (by decide +kernel)) (by decide +kernel) (by decide +kernel) (e0r hE (k := 42) (j := 0) (r := 43) (by decide +kernel))) ?_
    refine gm_sz (gm_p_load (pc := 17) (i := .iload_n 1) (sr := 0) (j := 1) (by decide +kernel) rfl rfl rfl) ?_
    refine gm_sz (fw_aa (pc := 18) (k := 43) (len := 12) (e0 := 6) (r := 122) (by decide +kernel) (e0a hE (k := 43) (q := ((3 : Nat), (12 : Nat))) (by decide +kernel)).1 (e0a hE (k := 43) (q := ((3 : Nat), (12 : Nat))) (by decide +kernel)).2 (by decide) ⟨by decide, by decide⟩ (e0r hE (k := 43) (j := 6) (r := 122) (by decide +kernel))) ?_
    refine gm_sz (gm_p_goto (pc := 19) (off := 4) (by decide +kernel) (by decide)) ?_
    exact gm_r_ref (pc := 23) (by decide +kernel) (Or.inl ⟨"GlacierMail$State", (by decide +kernel)⟩) hq
  · refine gm_sz (gm_p_load (pc := 0) (i := .iload_n 1) (sr := 0) (j := 1) (by decide +kernel) rfl rfl rfl) ?_
    refine fw_iffd (cc := .lt) (pc := 1) (off := 21) (by decide +kernel) (by decide) ⟨by decide, by decide⟩ (by decide) ?_
    refine gm_sz (gm_p_load (pc := 4) (i := .iload_n 1) (sr := 0) (j := 1) (by decide +kernel) rfl rfl rfl) ?_
    refine gm_sz (gm_p_load (pc := 5) (i := .aload_n 0) (sr := 2) (j := 0) (by decide +kernel) rfl rfl rfl) ?_
    refine gm_sz (fw_gr (pc := 6) (ix := 11) (ci := 3) (j := 0) (r := 43) (by decide +kernel) (e0k hE (k := 42) (c := 3) (by decide +kernel)) (by decide +kernel) (by decide +kernel) (e0r hE (k := 42) (j := 0) (r := 43) (by decide +kernel))) ?_
    refine gm_sz (fw_al (pc := 9) (k := 43) (len := 12) (by decide +kernel) (e0a hE (k := 43) (q := ((3 : Nat), (12 : Nat))) (by decide +kernel)).1 (e0a hE (k := 43) (q := ((3 : Nat), (12 : Nat))) (by decide +kernel)).2 (by decide)) ?_
    refine fw_icfd (cc := .ge) (pc := 10) (off := 12) (by decide +kernel) (by decide) ⟨by decide, by decide⟩ ⟨by decide, by decide⟩ (by decide) ?_
    refine gm_sz (gm_p_load (pc := 13) (i := .aload_n 0) (sr := 2) (j := 0) (by decide +kernel) rfl rfl rfl) ?_
    refine gm_sz (fw_gr (pc := 14) (ix := 11) (ci := 3) (j := 0) (r := 43) (by decide +kernel) (e0k hE (k := 42) (c := 3) (by decide +kernel)) (by decide +kernel) (by decide +kernel) (e0r hE (k := 42) (j := 0) (r := 43) (by decide +kernel))) ?_
    refine gm_sz (gm_p_load (pc := 17) (i := .iload_n 1) (sr := 0) (j := 1) (by decide +kernel) rfl rfl rfl) ?_
    refine gm_sz (fw_aa (pc := 18) (k := 43) (len := 12) (e0 := 7) (r := 135) (by decide +kernel) (e0a hE (k := 43) (q := ((3 : Nat), (12 : Nat))) (by decide +kernel)).1 (e0a hE (k := 43) (q := ((3 : Nat), (12 : Nat))) (by decide +kernel)).2 (by decide) ⟨by decide, by decide⟩ (e0r hE (k := 43) (j := 7) (r := 135) (by decide +kernel))) ?_
    refine gm_sz (gm_p_goto (pc := 19) (off := 4) (by decide +kernel) (by decide)) ?_
    exact gm_r_ref (pc := 23) (by decide +kernel) (Or.inl ⟨"GlacierMail$State", (by decide +kernel)⟩) hq
  · refine gm_sz (gm_p_load (pc := 0) (i := .iload_n 1) (sr := 0) (j := 1) (by decide +kernel) rfl rfl rfl) ?_
    refine fw_iffd (cc := .lt) (pc := 1) (off := 21) (by decide +kernel) (by decide) ⟨by decide, by decide⟩ (by decide) ?_
    refine gm_sz (gm_p_load (pc := 4) (i := .iload_n 1) (sr := 0) (j := 1) (by decide +kernel) rfl rfl rfl) ?_
    refine gm_sz (gm_p_load (pc := 5) (i := .aload_n 0) (sr := 2) (j := 0) (by decide +kernel) rfl rfl rfl) ?_
    refine gm_sz (fw_gr (pc := 6) (ix := 11) (ci := 3) (j := 0) (r := 43) (by decide +kernel) (e0k hE (k := 42) (c := 3) (by decide +kernel)) (by decide +kernel) (by decide +kernel) (e0r hE (k := 42) (j := 0) (r := 43) (by decide +kernel))) ?_
    refine gm_sz (fw_al (pc := 9) (k := 43) (len := 12) (by decide +kernel) (e0a hE (k := 43) (q := ((3 : Nat), (12 : Nat))) (by decide +kernel)).1 (e0a hE (k := 43) (q := ((3 : Nat), (12 : Nat))) (by decide +kernel)).2 (by decide)) ?_
    refine fw_icfd (cc := .ge) (pc := 10) (off := 12) (by decide +kernel) (by decide) ⟨by decide, by decide⟩ ⟨by decide, by decide⟩ (by decide) ?_
    refine gm_sz (gm_p_load (pc := 13) (i := .aload_n 0) (sr := 2) (j := 0) (by decide +kernel) rfl rfl rfl) ?_
    refine gm_sz (fw_gr (pc := 14) (ix := 11) (ci := 3) (j := 0) (r := 43) (by decide +kernel) (e0k hE (k := 42) (c := 3) (by decide +kernel)) (by decide +kernel) (by decide +kernel) (e0r hE (k := 42) (j := 0) (r := 43) (by decide +kernel))) ?_
    refine gm_sz (gm_p_load (pc := 17) (i := .iload_n 1) (sr := 0) (j := 1) (by decide +kernel) rfl rfl rfl) ?_
    refine gm_sz (fw_aa (pc := 18) (k := 43) (len := 12) (e0 := 8) (r := 148) (by decide +kernel) (e0a hE (k := 43) (q := ((3 : Nat), (12 : Nat))) (by decide +kernel)).1 (e0a hE (k := 43) (q := ((3 : Nat), (12 : Nat))) (by decide +kernel)).2 (by decide) ⟨by decide, by decide⟩ (e0r hE (k := 43) (j := 8) (r := 148) (by decide +kernel))) ?_
    refine gm_sz (gm_p_goto (pc := 19) (off := 4) (by decide +kernel) (by decide)) ?_
    exact gm_r_ref (pc := 23) (by decide +kernel) (Or.inl ⟨"GlacierMail$State", (by decide +kernel)⟩) hq
  · refine gm_sz (gm_p_load (pc := 0) (i := .iload_n 1) (sr := 0) (j := 1) (by decide +kernel) rfl rfl rfl) ?_
    refine fw_iffd (cc := .lt) (pc := 1) (off := 21) (by decide +kernel) (by decide) ⟨by decide, by decide⟩ (by decide) ?_
    refine gm_sz (gm_p_load (pc := 4) (i := .iload_n 1) (sr := 0) (j := 1) (by decide +kernel) rfl rfl rfl) ?_
    refine gm_sz (gm_p_load (pc := 5) (i := .aload_n 0) (sr := 2) (j := 0) (by decide +kernel) rfl rfl rfl) ?_
    refine gm_sz (fw_gr (pc := 6) (ix := 11) (ci := 3) (j := 0) (r := 43) (by decide +kernel) (e0k hE (k := 42) (c := 3) (by decide +kernel)) (by decide +kernel) (by decide +kernel) (e0r hE (k := 42) (j := 0) (r := 43) (by decide +kernel))) ?_
    refine gm_sz (fw_al (pc := 9) (k := 43) (len := 12) (by decide +kernel) (e0a hE (k := 43) (q := ((3 : Nat), (12 : Nat))) (by decide +kernel)).1 (e0a hE (k := 43) (q := ((3 : Nat), (12 : Nat))) (by decide +kernel)).2 (by decide)) ?_
    refine fw_icfd (cc := .ge) (pc := 10) (off := 12) (by decide +kernel) (by decide) ⟨by decide, by decide⟩ ⟨by decide, by decide⟩ (by decide) ?_
    refine gm_sz (gm_p_load (pc := 13) (i := .aload_n 0) (sr := 2) (j := 0) (by decide +kernel) rfl rfl rfl) ?_
    refine gm_sz (fw_gr (pc := 14) (ix := 11) (ci := 3) (j := 0) (r := 43) (by decide +kernel) (e0k hE (k := 42) (c := 3) (by decide +kernel)) (by decide +kernel) (by decide +kernel) (e0r hE (k := 42) (j := 0) (r := 43) (by decide +kernel))) ?_
    refine gm_sz (gm_p_load (pc := 17) (i := .iload_n 1) (sr := 0) (j := 1) (by decide +kernel) rfl rfl rfl) ?_
    refine gm_sz (fw_aa (pc := 18) (k := 43) (len := 12) (e0 := 9) (r := 161) (by decide +kernel) (e0a hE (k := 43) (q := ((3 : Nat), (12 : Nat))) (by decide +kernel)).1 (e0a hE (k := 43) (q := ((3 : Nat), (12 : Nat))) (by decide +kernel)).2 (by decide) ⟨by decide, by decide⟩ (e0r hE (k := 43) (j := 9) (r := 161) (by decide +kernel))) ?_
    refine gm_sz (gm_p_goto (pc := 19) (off := 4) (by decide +kernel) (by decide)) ?_
    exact gm_r_ref (pc := 23) (by decide +kernel) (Or.inl ⟨"GlacierMail$State", (by decide +kernel)⟩) hq
  · refine gm_sz (gm_p_load (pc := 0) (i := .iload_n 1) (sr := 0) (j := 1) (by decide +kernel) rfl rfl rfl) ?_
    refine fw_iffd (cc := .lt) (pc := 1) (off := 21) (by decide +kernel) (by decide) ⟨by decide, by decide⟩ (by decide) ?_
    refine gm_sz (gm_p_load (pc := 4) (i := .iload_n 1) (sr := 0) (j := 1) (by decide +kernel) rfl rfl rfl) ?_
    refine gm_sz (gm_p_load (pc := 5) (i := .aload_n 0) (sr := 2) (j := 0) (by decide +kernel) rfl rfl rfl) ?_
    refine gm_sz (fw_gr (pc := 6) (ix := 11) (ci := 3) (j := 0) (r := 43) (by decide +kernel) (e0k hE (k := 42) (c := 3) (by decide +kernel)) (by decide +kernel) (by decide +kernel) (e0r hE (k := 42) (j := 0) (r := 43) (by decide +kernel))) ?_
    refine gm_sz (fw_al (pc := 9) (k := 43) (len := 12) (by decide +kernel) (e0a hE (k := 43) (q := ((3 : Nat), (12 : Nat))) (by decide +kernel)).1 (e0a hE (k := 43) (q := ((3 : Nat), (12 : Nat))) (by decide +kernel)).2 (by decide)) ?_
    refine fw_icfd (cc := .ge) (pc := 10) (off := 12) (by decide +kernel) (by decide) ⟨by decide, by decide⟩ ⟨by decide, by decide⟩ (by decide) ?_
    refine gm_sz (gm_p_load (pc := 13) (i := .aload_n 0) (sr := 2) (j := 0) (by decide +kernel) rfl rfl rfl) ?_
    refine gm_sz (fw_gr (pc := 14) (ix := 11) (ci := 3) (j := 0) (r := 43) (by decide +kernel) (e0k hE (k := 42) (c := 3) (by decide +kernel)) (by decide +kernel) (by decide +kernel) (e0r hE (k := 42) (j := 0) (r := 43) (by decide +kernel))) ?_
    refine gm_sz (gm_p_load (pc := 17) (i := .iload_n 1) (sr := 0) (j := 1) (by decide +kernel) rfl rfl rfl) ?_
    refine gm_sz (fw_aa (pc := 18) (k := 43) (len := 12) (e0 := 10) (r := 174) (by decide +kernel) (e0a hE (k := 43) (q := ((3 : Nat), (12 : Nat))) (by decide +kernel)).1 (e0a hE (k := 43) (q := ((3 : Nat), (12 : Nat))) (by decide +kernel)).2 (by decide) ⟨by decide, by decide⟩ (e0r hE (k := 43) (j := 10) (r := 174) (by decide +kernel))) ?_
    refine gm_sz (gm_p_goto (pc := 19) (off := 4) (by decide +kernel) (by decide)) ?_
    exact gm_r_ref (pc := 23) (by decide +kernel) (Or.inl ⟨"GlacierMail$State", (by decide +kernel)⟩) hq
  · refine gm_sz (gm_p_load (pc := 0) (i := .iload_n 1) (sr := 0) (j := 1) (by decide +kernel) rfl rfl rfl) ?_
    refine fw_iffd (cc := .lt) (pc := 1) (off := 21) (by decide +kernel) (by decide) ⟨by decide, by decide⟩ (by decide) ?_
    refine gm_sz (gm_p_load (pc := 4) (i := .iload_n 1) (sr := 0) (j := 1) (by decide +kernel) rfl rfl rfl) ?_
    refine gm_sz (gm_p_load (pc := 5) (i := .aload_n 0) (sr := 2) (j := 0) (by decide +kernel) rfl rfl rfl) ?_
    refine gm_sz (fw_gr (pc := 6) (ix := 11) (ci := 3) (j := 0) (r := 43) (by decide +kernel) (e0k hE (k := 42) (c := 3) (by decide +kernel)) (by decide +kernel) (by decide +kernel) (e0r hE (k := 42) (j := 0) (r := 43) (by decide +kernel))) ?_
    refine gm_sz (fw_al (pc := 9) (k := 43) (len := 12) (by decide +kernel) (e0a hE (k := 43) (q := ((3 : Nat), (12 : Nat))) (by decide +kernel)).1 (e0a hE (k := 43) (q := ((3 : Nat), (12 : Nat))) (by decide +kernel)).2 (by decide)) ?_
    refine fw_icfd (cc := .ge) (pc := 10) (off := 12) (by decide +kernel) (by decide) ⟨by decide, by decide⟩ ⟨by decide, by decide⟩ (by decide) ?_
    refine gm_sz (gm_p_load (pc := 13) (i := .aload_n 0) (sr := 2) (j := 0) (by decide +kernel) rfl rfl rfl) ?_
    refine gm_sz (fw_gr (pc := 14) (ix := 11) (ci := 3) (j := 0) (r := 43) (by decide +kernel) (e0k hE (k := 42) (c := 3) (by decide +kernel)) (by decide +kernel) (by decide +kernel) (e0r hE (k := 42) (j := 0) (r := 43) (by decide +kernel))) ?_
    refine gm_sz (gm_p_load (pc := 17) (i := .iload_n 1) (sr := 0) (j := 1) (by decide +kernel) rfl rfl rfl) ?_
    refine gm_sz (fw_aa (pc := 18) (k := 43) (len := 12) (e0 := 11) (r := 187) (by decide +kernel) (e0a hE (k := 43) (q := ((3 : Nat), (12 : Nat))) (by decide +kernel)).1 (e0a hE (k := 43) (q := ((3 : Nat), (12 : Nat))) (by decide +kernel)).2 (by decide) ⟨by decide, by decide⟩ (e0r hE (k := 43) (j := 11) (r := 187) (by decide +kernel))) ?_
    refine gm_sz (gm_p_goto (pc := 19) (off := 4) (by decide +kernel) (by decide)) ?_
    exact gm_r_ref (pc := 23) (by decide +kernel) (Or.inl ⟨"GlacierMail$State", (by decide +kernel)⟩) hq
end HI0
end
/-! 7a10.c11ac -/
section
/-! THE CLASS: remember, take back; the image (laid by wip/core/c11.py). -/
/-- a State copied: nothing else, but for the law's reference -/
noncomputable def CPY (M M2 : gm_M) (b s : Nat) : Prop := (∀ (x : Nat) (j : Int), (x < b ∨ b + 12 < x) → M2 x j = M x j) ∧ (∀ (x : Nat) (j : Int), 0 ≤ j → j < 3 → ((x : Int) = b + 1 ∨ (x : Int) = b + 3 ∨ (x : Int) = b + 5 ∨ (x : Int) = b + 7 ∨ (x : Int) = b + 9 ∨ (x : Int) = b + 11) → M2 x j = M x j) ∧ cs M2 b = cs M s
section AC11
variable {X : Int → Int} {LX d bc bs n : Nat} {K : gm_K} {R : gm_R} {M : gm_M} {Q : gm_Q} {nx sz : Int} {b : Nat} {N : Int → Int}
theorem sz_cs (hN : NR N) (h : cs M b = N) : SZ M b := by
  have e2 : M (b + 1) 3 = N 2 := congrFun h 2
  have e5 : M (b + 3) 3 = N 5 := congrFun h 5
  have e3 : M (b + 5) 3 = N 3 := congrFun h 3
  have e4 : M (b + 7) 3 = N 4 := congrFun h 4
  have e6 : M (b + 9) 3 = N 6 := congrFun h 6
  have e14 : M (b + 11) 3 = N 14 := congrFun h 14
  unfold SZ
  rw [e2, e5, e3, e4, e6, e14]
  exact ⟨hN.2.1.1, hN.2.1.2.1, hN.2.1.2.2.1, hN.2.1.2.2.2.1, hN.2.1.2.2.2.2.1, hN.2.1.2.2.2.2.2.1⟩
theorem hi_rem (hd : 5 ≤ d) (hE : E0 n K R) (hC : CST M) (hnx : 0 ≤ nx ∧ nx < 12) (h1 : M 42 1 = nx) (h2 : M 42 2 = sz) (hsz : 0 ≤ sz ∧ sz ≤ 12) (hz : SZ M 3) (hq : ∀ M9, CPY M M9 (44 + 13 * nx.toNat) 3 → Q (.inl none) n K (gm_uR R (44 + 13 * nx.toNat) 8 (R 3 8)) (gm_uM (gm_uM M9 42 1 ((nx + 1) % 12)) 42 2 (min (sz + 1) 12))) : gm_Wp X LX d bc bs 154 0 (gm_ent 154 [gm_vr 42, gm_vr 3]) [] n K R M Q := by
  refine gm_sz (gm_p_load (pc := 0) (i := .aload_n 0) (sr := 2) (j := 0) (by decide +kernel) rfl rfl rfl) ?_
  refine gm_sz (gm_p_load (pc := 1) (i := .aload_n 0) (sr := 2) (j := 0) (by decide +kernel) rfl rfl rfl) ?_
  refine gm_sz (fw_gi (pc := 2) (ix := 17) (ci := 3) (j := 1) (x := nx) (by decide +kernel) (e0k hE (k := 42) (c := 3) (by decide +kernel)) (by decide +kernel) (by decide +kernel) h1) ?_
  refine gm_c_virt (k := 42) (ci := 3) (mj := 56) (ix := 25) (pc := 5) (as := [gm_vi nx]) (st := []) (d' := d - 1) (bc' := 0) (bs' := 0) (by decide +kernel) (by decide +kernel) (by decide +kernel) (by decide +kernel) (e0k hE (k := 42) (c := 3) (by decide +kernel)).1 (e0k hE (k := 42) (c := 3) (by decide +kernel)).2 (by decide) (by decide +kernel) (show 1 = gm_na 56 by decide +kernel) (fw_c1 fw_si) (show 2 ≤ gm_ml 56 by decide +kernel) (Nat.le_of_ble_eq_true rfl) (by omega) (Nat.zero_le _) (Nat.zero_le _) ?_
  refine hi_at hE hnx ?_
  show gm_Wp X LX d _ _ 154 8 _ [gm_vr (44 + 13 * nx.toNat)] n K _ _ Q
  refine gm_sz (gm_p_stor (pc := 8) (i := .astore_n 2) (sr := 2) (j := 2) (by decide +kernel) rfl (show 3 ≤ _ from Nat.le_of_ble_eq_true rfl) rfl) ?_
  refine gm_sz (gm_p_load (pc := 9) (i := .aload_n 2) (sr := 2) (j := 2) (by decide +kernel) rfl rfl rfl) ?_
  refine gm_b_nul (pc := 10) (off := 8) (k0 := 44 + 13 * nx.toNat) (by omega) (by decide +kernel) (by decide) (fun hz => absurd hz (by omega)) (fun _ => ?_)
  refine gm_sz (gm_p_load (pc := 13) (i := .aload_n 2) (sr := 2) (j := 2) (by decide +kernel) rfl rfl rfl) ?_
  refine gm_sz (gm_p_load (pc := 14) (i := .aload_n 1) (sr := 2) (j := 1) (by decide +kernel) rfl rfl rfl) ?_
  refine gm_c_virt (k := 44 + 13 * nx.toNat) (ci := 1) (mj := 57) (ix := 29) (pc := 15) (as := [gm_vr 3]) (st := []) (d' := d - 1) (bc' := 0) (bs' := 0) (by decide +kernel) (by decide +kernel) (by decide +kernel) (by decide +kernel) (ks_p hE hnx).1.1 (ks_p hE hnx).1.2 (by decide) (by decide +kernel) (show 1 = gm_na 57 by decide +kernel) (fw_c1 fw_sr) (show 2 ≤ gm_ml 57 by decide +kernel) (Nat.le_of_ble_eq_true rfl) (by omega) (Nat.zero_le _) (Nat.zero_le _) ?_
  refine st_copy (b := 44 + 13 * nx.toNat) (s := 3) (by omega) (ks_p hE hnx) (ks_3 hE) (by omega) (mx_p hC hnx) hz (fun M9 hx9 hy9 hc9 => ?_)
  show gm_Wp X LX d _ _ 154 18 _ [] n K _ _ Q
  refine gm_sz (gm_p_load (pc := 18) (i := .aload_n 0) (sr := 2) (j := 0) (by decide +kernel) rfl rfl rfl) ?_
  refine gm_sz (gm_p_load (pc := 19) (i := .aload_n 0) (sr := 2) (j := 0) (by decide +kernel) rfl rfl rfl) ?_
  refine gm_sz (fw_gi (pc := 20) (ix := 17) (ci := 3) (j := 1) (x := nx) (by decide +kernel) (e0k hE (k := 42) (c := 3) (by decide +kernel)) (by decide +kernel) (by decide +kernel) ((hx9 _ _ (by omega)).trans h1)) ?_
  refine gm_sz (gm_p_const (pc := 23) (i := .iconst 1) (v := gm_vi 1) (by decide +kernel) (by decide +kernel)) ?_
  refine gm_sz (gm_p_bin (pc := 24) (i := .iadd) (f := fun x y => x + y) (by decide +kernel) rfl) ?_
  refine gm_sz (gm_p_const (pc := 25) (i := .bipush 12) (v := gm_vi 12) (by decide +kernel) (by decide +kernel)) ?_
  refine gm_sz (gm_p_rem (pc := 27) (by decide +kernel) (by decide)) ?_
  rw [fw_rem (a := nx + 1) (b := 12) (by omega) (by omega) (by decide)]
  refine gm_sz (fw_pi (pc := 28) (ix := 17) (ci := 3) (j := 1) (M' := gm_uM M9 42 1 ((nx + 1) % 12)) (by decide +kernel) (e0k hE (k := 42) (c := 3) (by decide +kernel)) (by decide +kernel) (by decide +kernel) (by decide +kernel) rfl) ?_
  refine gm_sz (gm_p_load (pc := 31) (i := .aload_n 0) (sr := 2) (j := 0) (by decide +kernel) rfl rfl rfl) ?_
  refine gm_sz (gm_p_load (pc := 32) (i := .aload_n 0) (sr := 2) (j := 0) (by decide +kernel) rfl rfl rfl) ?_
  refine gm_sz (fw_gi (pc := 33) (ix := 21) (ci := 3) (j := 2) (x := sz) (by decide +kernel) (e0k hE (k := 42) (c := 3) (by decide +kernel)) (by decide +kernel) (by decide +kernel) ((uM_ne (by omega)).trans ((hx9 _ _ (by omega)).trans h2))) ?_
  refine gm_sz (gm_p_const (pc := 36) (i := .iconst 1) (v := gm_vi 1) (by decide +kernel) (by decide +kernel)) ?_
  refine gm_sz (gm_p_bin (pc := 37) (i := .iadd) (f := fun x y => x + y) (by decide +kernel) rfl) ?_
  refine gm_sz (gm_p_const (pc := 38) (i := .bipush 12) (v := gm_vi 12) (by decide +kernel) (by decide +kernel)) ?_
  refine gm_sz (gm_p_min (pc := 40) (ix := 33) (x := sz + 1) (y := 12) (by decide +kernel) (by decide +kernel) (gm_w_id (by omega) (by omega)) (gm_w_id (by omega) (by omega)) (Nat.le_of_ble_eq_true rfl) (by omega)) ?_
  refine gm_sz (fw_pi (pc := 43) (ix := 21) (ci := 3) (j := 2) (M' := gm_uM (gm_uM M9 42 1 ((nx + 1) % 12)) 42 2 (min (sz + 1) 12)) (by decide +kernel) (e0k hE (k := 42) (c := 3) (by decide +kernel)) (by decide +kernel) (by decide +kernel) (by decide +kernel) rfl) ?_
  exact gm_r_void (pc := 46) (by decide +kernel) (by decide +kernel) (hq M9 ⟨hx9, hy9, hc9⟩)
theorem hi_tb0 (hE : E0 n K R) (h2 : M 42 2 = 0) (hq : Q (.inl (some (gm_vi 0))) n K R M) : gm_Wp X LX d bc bs 55 0 (gm_ent 55 [gm_vr 42, gm_vr 3]) [] n K R M Q := by
  refine gm_sz (gm_p_load (pc := 0) (i := .aload_n 0) (sr := 2) (j := 0) (by decide +kernel) rfl rfl rfl) ?_
  refine gm_sz (fw_gi (pc := 1) (ix := 21) (ci := 3) (j := 2) (x := 0) (by decide +kernel) (e0k hE (k := 42) (c := 3) (by decide +kernel)) (by decide +kernel) (by decide +kernel) h2) ?_
  refine fw_iffd (cc := .ne) (pc := 4) (off := 5) (by decide +kernel) (by decide) ⟨by decide, by decide⟩ (by decide) ?_
  refine gm_sz (gm_p_const (pc := 7) (i := .iconst 0) (v := gm_vi 0) (by decide +kernel) (by decide +kernel)) ?_
  exact gm_r_int (pc := 8) (by decide +kernel) (Or.inr ⟨(by decide +kernel), Or.inl rfl⟩) hq
theorem hi_tb (hd : 5 ≤ d) (hE : E0 n K R) (hC : CST M) (hnx : 0 ≤ nx ∧ nx < 12) (h1 : M 42 1 = nx) (h2 : M 42 2 = sz) (hsz : 0 ≤ sz ∧ sz ≤ 12) (h0 : ¬ sz = 0) (hmx : MX M 3) (hz : SZ M (44 + 13 * (((nx + 12) - 1) % 12).toNat)) (hq : ∀ M9, CPY (gm_uM (gm_uM M 42 1 (((nx + 12) - 1) % 12)) 42 2 (sz - 1)) M9 3 (44 + 13 * (((nx + 12) - 1) % 12).toNat) → Q (.inl (some (gm_vi 1))) n K (gm_uR R 3 8 (R (44 + 13 * (((nx + 12) - 1) % 12).toNat) 8)) M9) : gm_Wp X LX d bc bs 55 0 (gm_ent 55 [gm_vr 42, gm_vr 3]) [] n K R M Q := by
  have hp9 : 0 ≤ ((nx + 12) - 1) % 12 ∧ ((nx + 12) - 1) % 12 < 12 := ⟨by omega, by omega⟩
  refine gm_sz (gm_p_load (pc := 0) (i := .aload_n 0) (sr := 2) (j := 0) (by decide +kernel) rfl rfl rfl) ?_
  refine gm_sz (fw_gi (pc := 1) (ix := 21) (ci := 3) (j := 2) (x := sz) (by decide +kernel) (e0k hE (k := 42) (c := 3) (by decide +kernel)) (by decide +kernel) (by decide +kernel) h2) ?_
  refine fw_ift (cc := .ne) (pc := 4) (off := 5) (by decide +kernel) (by decide) ⟨by omega, by omega⟩ (show ¬ sz = 0 by omega) ?_
  refine gm_sz (gm_p_load (pc := 9) (i := .aload_n 0) (sr := 2) (j := 0) (by decide +kernel) rfl rfl rfl) ?_
  refine gm_sz (gm_p_load (pc := 10) (i := .aload_n 0) (sr := 2) (j := 0) (by decide +kernel) rfl rfl rfl) ?_
  refine gm_sz (fw_gi (pc := 11) (ix := 17) (ci := 3) (j := 1) (x := nx) (by decide +kernel) (e0k hE (k := 42) (c := 3) (by decide +kernel)) (by decide +kernel) (by decide +kernel) h1) ?_
  refine gm_sz (gm_p_const (pc := 14) (i := .bipush 12) (v := gm_vi 12) (by decide +kernel) (by decide +kernel)) ?_
  refine gm_sz (gm_p_bin (pc := 16) (i := .iadd) (f := fun x y => x + y) (by decide +kernel) rfl) ?_
  refine gm_sz (gm_p_const (pc := 17) (i := .iconst 1) (v := gm_vi 1) (by decide +kernel) (by decide +kernel)) ?_
  refine gm_sz (gm_p_bin (pc := 18) (i := .isub) (f := fun x y => x - y) (by decide +kernel) rfl) ?_
  refine gm_sz (gm_p_const (pc := 19) (i := .bipush 12) (v := gm_vi 12) (by decide +kernel) (by decide +kernel)) ?_
  refine gm_sz (gm_p_rem (pc := 21) (by decide +kernel) (by decide)) ?_
  rw [fw_rem (a := (nx + 12) - 1) (b := 12) (by omega) (by omega) (by decide)]
  refine gm_sz (fw_pi (pc := 22) (ix := 17) (ci := 3) (j := 1) (M' := gm_uM M 42 1 (((nx + 12) - 1) % 12)) (by decide +kernel) (e0k hE (k := 42) (c := 3) (by decide +kernel)) (by decide +kernel) (by decide +kernel) (by decide +kernel) rfl) ?_
  refine gm_sz (gm_p_load (pc := 25) (i := .aload_n 0) (sr := 2) (j := 0) (by decide +kernel) rfl rfl rfl) ?_
  refine gm_sz (gm_p_dup (pc := 26) (by decide +kernel) fw_sr) ?_
  refine gm_sz (fw_gi (pc := 27) (ix := 21) (ci := 3) (j := 2) (x := sz) (by decide +kernel) (e0k hE (k := 42) (c := 3) (by decide +kernel)) (by decide +kernel) (by decide +kernel) ((uM_ne (by omega)).trans h2)) ?_
  refine gm_sz (gm_p_const (pc := 30) (i := .iconst 1) (v := gm_vi 1) (by decide +kernel) (by decide +kernel)) ?_
  refine gm_sz (gm_p_bin (pc := 31) (i := .isub) (f := fun x y => x - y) (by decide +kernel) rfl) ?_
  refine gm_sz (fw_pi (pc := 32) (ix := 21) (ci := 3) (j := 2) (M' := gm_uM (gm_uM M 42 1 (((nx + 12) - 1) % 12)) 42 2 (sz - 1)) (by decide +kernel) (e0k hE (k := 42) (c := 3) (by decide +kernel)) (by decide +kernel) (by decide +kernel) (by decide +kernel) rfl) ?_
  refine gm_sz (gm_p_load (pc := 35) (i := .aload_n 0) (sr := 2) (j := 0) (by decide +kernel) rfl rfl rfl) ?_
  refine gm_sz (gm_p_load (pc := 36) (i := .aload_n 0) (sr := 2) (j := 0) (by decide +kernel) rfl rfl rfl) ?_
  refine gm_sz (fw_gi (pc := 37) (ix := 17) (ci := 3) (j := 1) (x := ((nx + 12) - 1) % 12) (by decide +kernel) (e0k hE (k := 42) (c := 3) (by decide +kernel)) (by decide +kernel) (by decide +kernel) ((uM_ne (by omega)).trans uM_at)) ?_
  refine gm_c_virt (k := 42) (ci := 3) (mj := 56) (ix := 25) (pc := 40) (as := [gm_vi (((nx + 12) - 1) % 12)]) (st := []) (d' := d - 1) (bc' := 0) (bs' := 0) (by decide +kernel) (by decide +kernel) (by decide +kernel) (by decide +kernel) (e0k hE (k := 42) (c := 3) (by decide +kernel)).1 (e0k hE (k := 42) (c := 3) (by decide +kernel)).2 (by decide) (by decide +kernel) (show 1 = gm_na 56 by decide +kernel) (fw_c1 fw_si) (show 2 ≤ gm_ml 56 by decide +kernel) (Nat.le_of_ble_eq_true rfl) (by omega) (Nat.zero_le _) (Nat.zero_le _) ?_
  refine hi_at hE hp9 ?_
  show gm_Wp X LX d _ _ 55 43 _ [gm_vr (44 + 13 * (((nx + 12) - 1) % 12).toNat)] n K _ _ Q
  refine gm_sz (gm_p_stor (pc := 43) (i := .astore_n 2) (sr := 2) (j := 2) (by decide +kernel) rfl (show 3 ≤ _ from Nat.le_of_ble_eq_true rfl) rfl) ?_
  refine gm_sz (gm_p_load (pc := 44) (i := .aload_n 2) (sr := 2) (j := 2) (by decide +kernel) rfl rfl rfl) ?_
  refine gm_b_nul (pc := 45) (off := 8) (k0 := 44 + 13 * (((nx + 12) - 1) % 12).toNat) (by omega) (by decide +kernel) (by decide) (fun hz => absurd hz (by omega)) (fun _ => ?_)
  refine gm_sz (gm_p_load (pc := 48) (i := .aload_n 1) (sr := 2) (j := 1) (by decide +kernel) rfl rfl rfl) ?_
  refine gm_sz (gm_p_load (pc := 49) (i := .aload_n 2) (sr := 2) (j := 2) (by decide +kernel) rfl rfl rfl) ?_
  refine gm_c_virt (k := 3) (ci := 1) (mj := 57) (ix := 29) (pc := 50) (as := [gm_vr (44 + 13 * (((nx + 12) - 1) % 12).toNat)]) (st := []) (d' := d - 1) (bc' := 0) (bs' := 0) (by decide +kernel) (by decide +kernel) (by decide +kernel) (by decide +kernel) (e0k hE (k := 3) (c := 1) (by decide +kernel)).1 (e0k hE (k := 3) (c := 1) (by decide +kernel)).2 (by decide) (by decide +kernel) (show 1 = gm_na 57 by decide +kernel) (fw_c1 fw_sr) (show 2 ≤ gm_ml 57 by decide +kernel) (Nat.le_of_ble_eq_true rfl) (by omega) (Nat.zero_le _) (Nat.zero_le _) ?_
  refine st_copy (b := 3) (s := 44 + 13 * (((nx + 12) - 1) % 12).toNat) (by omega) (ks_3 hE) (ks_p hE hp9) (by omega) (show MX (gm_uM (gm_uM M 42 1 (((nx + 12) - 1) % 12)) 42 2 (sz - 1)) 3 from by unfold MX at hmx ⊢; rw [show (gm_uM (gm_uM M 42 1 (((nx + 12) - 1) % 12)) 42 2 (sz - 1)) (3 + 1) 0 = M (3 + 1) 0 from (uM_ne (by omega)).trans (uM_ne (by omega)), show (gm_uM (gm_uM M 42 1 (((nx + 12) - 1) % 12)) 42 2 (sz - 1)) (3 + 3) 0 = M (3 + 3) 0 from (uM_ne (by omega)).trans (uM_ne (by omega)), show (gm_uM (gm_uM M 42 1 (((nx + 12) - 1) % 12)) 42 2 (sz - 1)) (3 + 5) 0 = M (3 + 5) 0 from (uM_ne (by omega)).trans (uM_ne (by omega)), show (gm_uM (gm_uM M 42 1 (((nx + 12) - 1) % 12)) 42 2 (sz - 1)) (3 + 7) 0 = M (3 + 7) 0 from (uM_ne (by omega)).trans (uM_ne (by omega)), show (gm_uM (gm_uM M 42 1 (((nx + 12) - 1) % 12)) 42 2 (sz - 1)) (3 + 9) 0 = M (3 + 9) 0 from (uM_ne (by omega)).trans (uM_ne (by omega)), show (gm_uM (gm_uM M 42 1 (((nx + 12) - 1) % 12)) 42 2 (sz - 1)) (3 + 11) 0 = M (3 + 11) 0 from (uM_ne (by omega)).trans (uM_ne (by omega))]; exact hmx) (show SZ (gm_uM (gm_uM M 42 1 (((nx + 12) - 1) % 12)) 42 2 (sz - 1)) (44 + 13 * (((nx + 12) - 1) % 12).toNat) from by unfold SZ at hz ⊢; rw [show (gm_uM (gm_uM M 42 1 (((nx + 12) - 1) % 12)) 42 2 (sz - 1)) (44 + 13 * (((nx + 12) - 1) % 12).toNat + 1) 3 = M (44 + 13 * (((nx + 12) - 1) % 12).toNat + 1) 3 from (uM_ne (by omega)).trans (uM_ne (by omega)), show (gm_uM (gm_uM M 42 1 (((nx + 12) - 1) % 12)) 42 2 (sz - 1)) (44 + 13 * (((nx + 12) - 1) % 12).toNat + 3) 3 = M (44 + 13 * (((nx + 12) - 1) % 12).toNat + 3) 3 from (uM_ne (by omega)).trans (uM_ne (by omega)), show (gm_uM (gm_uM M 42 1 (((nx + 12) - 1) % 12)) 42 2 (sz - 1)) (44 + 13 * (((nx + 12) - 1) % 12).toNat + 5) 3 = M (44 + 13 * (((nx + 12) - 1) % 12).toNat + 5) 3 from (uM_ne (by omega)).trans (uM_ne (by omega)), show (gm_uM (gm_uM M 42 1 (((nx + 12) - 1) % 12)) 42 2 (sz - 1)) (44 + 13 * (((nx + 12) - 1) % 12).toNat + 7) 3 = M (44 + 13 * (((nx + 12) - 1) % 12).toNat + 7) 3 from (uM_ne (by omega)).trans (uM_ne (by omega)), show (gm_uM (gm_uM M 42 1 (((nx + 12) - 1) % 12)) 42 2 (sz - 1)) (44 + 13 * (((nx + 12) - 1) % 12).toNat + 9) 3 = M (44 + 13 * (((nx + 12) - 1) % 12).toNat + 9) 3 from (uM_ne (by omega)).trans (uM_ne (by omega)), show (gm_uM (gm_uM M 42 1 (((nx + 12) - 1) % 12)) 42 2 (sz - 1)) (44 + 13 * (((nx + 12) - 1) % 12).toNat + 11) 3 = M (44 + 13 * (((nx + 12) - 1) % 12).toNat + 11) 3 from (uM_ne (by omega)).trans (uM_ne (by omega))]; exact hz) (fun M9 hx9 hy9 hc9 => ?_)
  show gm_Wp X LX d _ _ 55 53 _ [] n K _ _ Q
  refine gm_sz (gm_p_const (pc := 53) (i := .iconst 1) (v := gm_vi 1) (by decide +kernel) (by decide +kernel)) ?_
  exact gm_r_int (pc := 54) (by decide +kernel) (Or.inr ⟨(by decide +kernel), Or.inr rfl⟩) (hq M9 ⟨hx9, hy9, hc9⟩)
theorem im_c59 (hd : 5 ≤ d) (hE : E0 n K R) (hC : CST M) (hz : SZ M 3) (hq : ∀ M9, CPY M M9 29 3 → Q (.inl none) n K (gm_uR R 29 8 (R 3 8)) (gm_uM M9 1 6 1)) : gm_Wp X LX d bc bs 59 0 (gm_ent 59 [gm_vr 1]) [] n K R M Q := by
  refine gm_sz (gm_p_load (pc := 0) (i := .aload_n 0) (sr := 2) (j := 0) (by decide +kernel) rfl rfl rfl) ?_
  refine gm_sz (fw_gr (pc := 1) (ix := 30) (ci := 0) (j := 5) (r := 29) (by decide +kernel) (e0k hE (k := 1) (c := 0) (by decide +kernel)) (by decide +kernel) (by decide +kernel) (e0r hE (k := 1) (j := 5) (r := 29) (by decide +kernel))) ?_
  refine gm_sz (gm_p_load (pc := 4) (i := .aload_n 0) (sr := 2) (j := 0) (by decide +kernel) rfl rfl rfl) ?_
  refine gm_sz (fw_gr (pc := 5) (ix := 23) (ci := 0) (j := 3) (r := 3) (by decide +kernel) (e0k hE (k := 1) (c := 0) (by decide +kernel)) (by decide +kernel) (by decide +kernel) (e0r hE (k := 1) (j := 3) (r := 3) (by decide +kernel))) ?_
  refine gm_c_virt (k := 29) (ci := 1) (mj := 57) (ix := 114) (pc := 8) (as := [gm_vr 3]) (st := []) (d' := d - 1) (bc' := 0) (bs' := 0) (by decide +kernel) (by decide +kernel) (by decide +kernel) (by decide +kernel) (e0k hE (k := 29) (c := 1) (by decide +kernel)).1 (e0k hE (k := 29) (c := 1) (by decide +kernel)).2 (by decide) (by decide +kernel) (show 1 = gm_na 57 by decide +kernel) (fw_c1 fw_sr) (show 2 ≤ gm_ml 57 by decide +kernel) (Nat.le_of_ble_eq_true rfl) (by omega) (Nat.zero_le _) (Nat.zero_le _) ?_
  refine st_copy (b := 29) (s := 3) (by omega) (ks_29 hE) (ks_3 hE) (by omega) (mx_29 hC) hz (fun M9 hx9 hy9 hc9 => ?_)
  show gm_Wp X LX d _ _ 59 11 _ [] n K _ _ Q
  refine gm_sz (gm_p_load (pc := 11) (i := .aload_n 0) (sr := 2) (j := 0) (by decide +kernel) rfl rfl rfl) ?_
  refine gm_sz (gm_p_const (pc := 12) (i := .iconst 1) (v := gm_vi 1) (by decide +kernel) (by decide +kernel)) ?_
  refine gm_sz (fw_pz (pc := 13) (ix := 33) (ci := 0) (j := 6) (M' := gm_uM M9 1 6 1) (by decide +kernel) (e0k hE (k := 1) (c := 0) (by decide +kernel)) (by decide +kernel) (by decide +kernel) (by decide +kernel) (Or.inr rfl) rfl) ?_
  exact gm_r_void (pc := 16) (by decide +kernel) (by decide +kernel) (hq M9 ⟨hx9, hy9, hc9⟩)
end AC11
end
/-! 7a11.c4le -/
section
/-! THE CLASS'S LAW: its codes, its lines (laid by wip/core/c4.py). -/
/-- where the law lies, in what a call sees -/
noncomputable def LE (n : Nat) (K : gm_K) (R : gm_R) (NC : Nat) : Prop := (((1 ≤ 246 ∧ 246 ≤ n) ∧ (K 246).1 = 10 + 4) ∧ ((1 ≤ 247 ∧ 247 ≤ n) ∧ K 247 = (0, NC)) ∧ ((1 ≤ 248 ∧ 248 ≤ n) ∧ (K 248).1 = 2 + 4) ∧ ((1 ≤ 249 ∧ 249 ≤ n) ∧ K 249 = (0, 48))) ∧ (R 246 ((0 : Nat) : Int) = 248 ∧ R 246 ((1 : Nat) : Int) = 247 ∧ R 248 ((2 : Nat) : Int) = 249) ∧ NC ≤ 400
/-- what a law is, as the class has it: codes, lines -/
noncomputable def LM (NC : Nat) (M : gm_M) : Prop := (M 248 0 = 12 ∧ M 248 1 = 4 ∧ 0 ≤ M 248 3 ∧ M 248 3 ≤ 12) ∧ (∀ i : Int, 0 ≤ i → i < (NC : Int) → -17 ≤ M 247 i ∧ M 247 i ≤ 999) ∧ ∀ k : Int, 0 ≤ k → k < M 248 3 → (0 ≤ M 249 (k * 4 + 0) ∧ M 249 (k * 4 + 0) ≤ 2) ∧ (0 ≤ M 249 (k * 4 + 1) ∧ M 249 (k * 4 + 1) ≤ 20) ∧ (0 ≤ M 249 (k * 4 + 2) ∧ M 249 (k * 4 + 2) ≤ M 249 (k * 4 + 3) ∧ M 249 (k * 4 + 3) ≤ (NC : Int))
/-- what a code asks -/
noncomputable def evk (F : Int → Int) (code : Int) : Int := if 0 ≤ -2 - code ∧ -2 - code < 10 then F (-2 - code) else 0
/-- one code more: truths, left, sum -/
noncomputable def ev1 (F : Int → Int) (code : Int) (s : Int × Int × Int) : Int × Int × Int :=
  if 0 ≤ code then (s.1, s.2.1, s.2.2 + code)
  else if -10 < code then (s.1, s.2.1, s.2.2 + evk F code)
  else if -11 ≤ code then (gm_or (gm_shl s.1 1) (evk F code), s.2.1, s.2.2)
  else if code = -12 then (s.1, s.2.2, 0)
  else if code = -13 then (gm_or (gm_shl s.1 1) (if gm_w s.2.1 < gm_w s.2.2 then 1 else 0), s.2.1, 0)
  else if code = -14 then (gm_or (gm_shl s.1 1) (if gm_w s.2.2 < gm_w s.2.1 then 1 else 0), s.2.1, 0)
  else if code = -15 then (gm_xor s.1 1, s.2.1, s.2.2)
  else if code = -16 then (gm_and (gm_shr s.1 1) (gm_or s.1 (-2)), s.2.1, s.2.2)
  else (gm_or (gm_shr s.1 1) (gm_and s.1 1), s.2.1, s.2.2)
noncomputable def evr (F C : Int → Int) : Nat → Int → Int × Int × Int → Int × Int × Int
  | 0, _, s => s
  | u + 1, i, s => evr F C u (i + 1) (ev1 F (C i) s)
/-- whether the codes from b on to ahead of e hold -/
noncomputable def evh (F C : Int → Int) (b e : Int) : Prop := gm_and (evr F C (e - b).toNat b ((if b < e then 0 else 1), 0, 0)).1 1 = 1
section LEV
variable {X : Int → Int} {LX d bc bs n NC : Nat} {K : gm_K} {R : gm_R} {M : gm_M} {Q : gm_Q} {F C : Int → Int} {b e i : Int}
theorem lk6 (h : LE n K R NC) : (1 ≤ 246 ∧ 246 ≤ n) ∧ (K 246).1 = 10 + 4 := h.1.1
theorem lk7 (h : LE n K R NC) : (1 ≤ 247 ∧ 247 ≤ n) ∧ K 247 = (0, NC) := h.1.2.1
theorem lk8 (h : LE n K R NC) : (1 ≤ 248 ∧ 248 ≤ n) ∧ (K 248).1 = 2 + 4 := h.1.2.2.1
theorem lk9 (h : LE n K R NC) : (1 ≤ 249 ∧ 249 ≤ n) ∧ K 249 = (0, 48) := h.1.2.2.2
theorem or_ir {x y : Int} : gm_ir (gm_or x y) := by
  unfold gm_or gm_ir
  generalize (Int32.ofInt x ||| Int32.ofInt y) = z
  have h := gm_w_toInt z.toInt
  rw [Int32.ofInt_toInt] at h
  rw [h]
  exact ⟨gm_w_lo _, gm_w_hi _⟩
theorem ho_w0 (hE : E0 n K R) (hL : LE n K R NC) (hM : LM NC M) (hF : ∀ j : Int, 0 ≤ j → j < 10 → M 204 j = F j) (hC9 : ∀ j, M 247 j = C j) (h0 : 0 ≤ i ∧ i < (NC : Int)) (hA : 0 ≤ C i ∧ C i ≤ 999) {t l s : Int} {z10 z11 z12 z13 : Option gm_V} (hq : ∀ z10 z11 z12 z13 : Option gm_V, gm_Wp X LX d bc bs 41 55 [some (gm_vr 246), some (gm_vi b), some (gm_vi e), some (gm_vr 204), some (gm_vi b), some (gm_vi e), some (gm_vi (t)), some (gm_vi (l)), some (gm_vi (s + (C i))), some (gm_vi (i + 1)), z10, z11, z12, z13] [] n K R M Q) (hie : i < e) (heb : e ≤ (NC : Int)) : gm_Wp X LX d bc bs 41 55 [some (gm_vr 246), some (gm_vi b), some (gm_vi e), some (gm_vr 204), some (gm_vi b), some (gm_vi e), some (gm_vi t), some (gm_vi l), some (gm_vi s), some (gm_vi i), z10, z11, z12, z13] [] n K R M Q := by
  have hNC := hL.2.2
  refine gm_sz (gm_p_load (pc := 55) (i := .iload 9) (sr := 0) (j := 9) (by decide +kernel) rfl rfl rfl) ?_
  refine gm_sz (gm_p_load (pc := 57) (i := .iload 5) (sr := 0) (j := 5) (by decide +kernel) rfl rfl rfl) ?_
  refine fw_icf (cc := .ge) (pc := 59) (off := 237) (by decide +kernel) (by decide) ⟨by omega, by omega⟩ ⟨by omega, by omega⟩ (show ¬ e ≤ i by omega) ?_
  refine gm_sz (gm_p_load (pc := 62) (i := .aload_n 0) (sr := 2) (j := 0) (by decide +kernel) rfl rfl rfl) ?_
  refine gm_sz (fw_gr (pc := 63) (ix := 22) (ci := 10) (j := 1) (r := 247) (by decide +kernel) (lk6 hL) (by decide +kernel) (by decide +kernel) hL.2.1.2.1) ?_
  refine gm_sz (gm_p_load (pc := 66) (i := .iload 9) (sr := 0) (j := 9) (by decide +kernel) rfl rfl rfl) ?_
  refine gm_sz (fw_ia (pc := 68) (k := 247) (len := NC) (e0 := i) (x := C i) (by decide +kernel) (lk7 hL).1 (lk7 hL).2 (by omega) ⟨by omega, by omega⟩ (hC9 _)) ?_
  refine gm_sz (gm_p_stor (pc := 69) (i := .istore 10) (sr := 0) (j := 10) (by decide +kernel) rfl (show 11 ≤ _ from Nat.le_of_ble_eq_true rfl) rfl) ?_
  show gm_Wp X LX d _ _ 41 71 [some (gm_vr 246), some (gm_vi b), some (gm_vi e), some (gm_vr 204), some (gm_vi b), some (gm_vi e), some (gm_vi t), some (gm_vi l), some (gm_vi s), some (gm_vi i), some (gm_vi (C i)), z11, z12, z13] [] n K _ _ Q
  refine gm_sz (gm_p_const (pc := 71) (i := .bipush (-2)) (v := gm_vi (-2)) (by decide +kernel) (by decide +kernel)) ?_
  refine gm_sz (gm_p_load (pc := 73) (i := .iload 10) (sr := 0) (j := 10) (by decide +kernel) rfl rfl rfl) ?_
  refine gm_sz (gm_p_bin (pc := 75) (i := .isub) (f := fun x y => x - y) (by decide +kernel) rfl) ?_
  refine gm_sz (gm_p_stor (pc := 76) (i := .istore 11) (sr := 0) (j := 11) (by decide +kernel) rfl (show 12 ≤ _ from Nat.le_of_ble_eq_true rfl) rfl) ?_
  show gm_Wp X LX d _ _ 41 78 [some (gm_vr 246), some (gm_vi b), some (gm_vi e), some (gm_vr 204), some (gm_vi b), some (gm_vi e), some (gm_vi t), some (gm_vi l), some (gm_vi s), some (gm_vi i), some (gm_vi (C i)), some (gm_vi ((-2) - (C i))), z12, z13] [] n K _ _ Q
  refine gm_sz (gm_p_load (pc := 78) (i := .iload 11) (sr := 0) (j := 11) (by decide +kernel) rfl rfl rfl) ?_
  refine fw_ift (cc := .lt) (pc := 80) (off := 17) (by decide +kernel) (by decide) ⟨by omega, by omega⟩ (show ((-2) - (C i)) < 0 by omega) ?_
  refine gm_sz (gm_p_const (pc := 97) (i := .iconst 0) (v := gm_vi 0) (by decide +kernel) (by decide +kernel)) ?_
  refine gm_sz (gm_p_stor (pc := 98) (i := .istore 12) (sr := 0) (j := 12) (by decide +kernel) rfl (show 13 ≤ _ from Nat.le_of_ble_eq_true rfl) rfl) ?_
  show gm_Wp X LX d _ _ 41 100 [some (gm_vr 246), some (gm_vi b), some (gm_vi e), some (gm_vr 204), some (gm_vi b), some (gm_vi e), some (gm_vi t), some (gm_vi l), some (gm_vi s), some (gm_vi i), some (gm_vi (C i)), some (gm_vi ((-2) - (C i))), some (gm_vi 0), z13] [] n K _ _ Q
  refine gm_sz (gm_p_load (pc := 100) (i := .iload 10) (sr := 0) (j := 10) (by decide +kernel) rfl rfl rfl) ?_
  refine fw_iff (cc := .lt) (pc := 102) (off := 13) (by decide +kernel) (by decide) ⟨by omega, by omega⟩ (show ¬ (C i) < 0 by omega) ?_
  refine gm_sz (gm_p_load (pc := 105) (i := .iload 8) (sr := 0) (j := 8) (by decide +kernel) rfl rfl rfl) ?_
  refine gm_sz (gm_p_load (pc := 107) (i := .iload 10) (sr := 0) (j := 10) (by decide +kernel) rfl rfl rfl) ?_
  refine gm_sz (gm_p_bin (pc := 109) (i := .iadd) (f := fun x y => x + y) (by decide +kernel) rfl) ?_
  refine gm_sz (gm_p_stor (pc := 110) (i := .istore 8) (sr := 0) (j := 8) (by decide +kernel) rfl (show 9 ≤ _ from Nat.le_of_ble_eq_true rfl) rfl) ?_
  show gm_Wp X LX d _ _ 41 112 [some (gm_vr 246), some (gm_vi b), some (gm_vi e), some (gm_vr 204), some (gm_vi b), some (gm_vi e), some (gm_vi t), some (gm_vi l), some (gm_vi (s + (C i))), some (gm_vi i), some (gm_vi (C i)), some (gm_vi ((-2) - (C i))), some (gm_vi 0), z13] [] n K _ _ Q
  refine gm_sz (gm_p_goto (pc := 112) (off := 178) (by decide +kernel) (by decide)) ?_
  refine gm_sz (gm_p_iinc (pc := 290) (j := 9) (z := 1) (by decide +kernel) rfl) ?_
  refine gm_sz (gm_p_goto (pc := 293) (off := (-238)) (by decide +kernel) (by decide)) ?_
  exact hq _ _ _ _
theorem ho_w1 (hE : E0 n K R) (hL : LE n K R NC) (hM : LM NC M) (hF : ∀ j : Int, 0 ≤ j → j < 10 → M 204 j = F j) (hC9 : ∀ j, M 247 j = C j) (h0 : 0 ≤ i ∧ i < (NC : Int)) (hA : C i = -1) {t l s : Int} {z10 z11 z12 z13 : Option gm_V} (hq : ∀ z10 z11 z12 z13 : Option gm_V, gm_Wp X LX d bc bs 41 55 [some (gm_vr 246), some (gm_vi b), some (gm_vi e), some (gm_vr 204), some (gm_vi b), some (gm_vi e), some (gm_vi (t)), some (gm_vi (l)), some (gm_vi (s + 0)), some (gm_vi (i + 1)), z10, z11, z12, z13] [] n K R M Q) (hie : i < e) (heb : e ≤ (NC : Int)) : gm_Wp X LX d bc bs 41 55 [some (gm_vr 246), some (gm_vi b), some (gm_vi e), some (gm_vr 204), some (gm_vi b), some (gm_vi e), some (gm_vi t), some (gm_vi l), some (gm_vi s), some (gm_vi i), z10, z11, z12, z13] [] n K R M Q := by
  have hNC := hL.2.2
  refine gm_sz (gm_p_load (pc := 55) (i := .iload 9) (sr := 0) (j := 9) (by decide +kernel) rfl rfl rfl) ?_
  refine gm_sz (gm_p_load (pc := 57) (i := .iload 5) (sr := 0) (j := 5) (by decide +kernel) rfl rfl rfl) ?_
  refine fw_icf (cc := .ge) (pc := 59) (off := 237) (by decide +kernel) (by decide) ⟨by omega, by omega⟩ ⟨by omega, by omega⟩ (show ¬ e ≤ i by omega) ?_
  refine gm_sz (gm_p_load (pc := 62) (i := .aload_n 0) (sr := 2) (j := 0) (by decide +kernel) rfl rfl rfl) ?_
  refine gm_sz (fw_gr (pc := 63) (ix := 22) (ci := 10) (j := 1) (r := 247) (by decide +kernel) (lk6 hL) (by decide +kernel) (by decide +kernel) hL.2.1.2.1) ?_
  refine gm_sz (gm_p_load (pc := 66) (i := .iload 9) (sr := 0) (j := 9) (by decide +kernel) rfl rfl rfl) ?_
  refine gm_sz (fw_ia (pc := 68) (k := 247) (len := NC) (e0 := i) (x := C i) (by decide +kernel) (lk7 hL).1 (lk7 hL).2 (by omega) ⟨by omega, by omega⟩ (hC9 _)) ?_
  refine gm_sz (gm_p_stor (pc := 69) (i := .istore 10) (sr := 0) (j := 10) (by decide +kernel) rfl (show 11 ≤ _ from Nat.le_of_ble_eq_true rfl) rfl) ?_
  show gm_Wp X LX d _ _ 41 71 [some (gm_vr 246), some (gm_vi b), some (gm_vi e), some (gm_vr 204), some (gm_vi b), some (gm_vi e), some (gm_vi t), some (gm_vi l), some (gm_vi s), some (gm_vi i), some (gm_vi (C i)), z11, z12, z13] [] n K _ _ Q
  refine gm_sz (gm_p_const (pc := 71) (i := .bipush (-2)) (v := gm_vi (-2)) (by decide +kernel) (by decide +kernel)) ?_
  refine gm_sz (gm_p_load (pc := 73) (i := .iload 10) (sr := 0) (j := 10) (by decide +kernel) rfl rfl rfl) ?_
  refine gm_sz (gm_p_bin (pc := 75) (i := .isub) (f := fun x y => x - y) (by decide +kernel) rfl) ?_
  refine gm_sz (gm_p_stor (pc := 76) (i := .istore 11) (sr := 0) (j := 11) (by decide +kernel) rfl (show 12 ≤ _ from Nat.le_of_ble_eq_true rfl) rfl) ?_
  show gm_Wp X LX d _ _ 41 78 [some (gm_vr 246), some (gm_vi b), some (gm_vi e), some (gm_vr 204), some (gm_vi b), some (gm_vi e), some (gm_vi t), some (gm_vi l), some (gm_vi s), some (gm_vi i), some (gm_vi (C i)), some (gm_vi ((-2) - (C i))), z12, z13] [] n K _ _ Q
  refine gm_sz (gm_p_load (pc := 78) (i := .iload 11) (sr := 0) (j := 11) (by decide +kernel) rfl rfl rfl) ?_
  refine fw_ift (cc := .lt) (pc := 80) (off := 17) (by decide +kernel) (by decide) ⟨by omega, by omega⟩ (show ((-2) - (C i)) < 0 by omega) ?_
  refine gm_sz (gm_p_const (pc := 97) (i := .iconst 0) (v := gm_vi 0) (by decide +kernel) (by decide +kernel)) ?_
  refine gm_sz (gm_p_stor (pc := 98) (i := .istore 12) (sr := 0) (j := 12) (by decide +kernel) rfl (show 13 ≤ _ from Nat.le_of_ble_eq_true rfl) rfl) ?_
  show gm_Wp X LX d _ _ 41 100 [some (gm_vr 246), some (gm_vi b), some (gm_vi e), some (gm_vr 204), some (gm_vi b), some (gm_vi e), some (gm_vi t), some (gm_vi l), some (gm_vi s), some (gm_vi i), some (gm_vi (C i)), some (gm_vi ((-2) - (C i))), some (gm_vi 0), z13] [] n K _ _ Q
  refine gm_sz (gm_p_load (pc := 100) (i := .iload 10) (sr := 0) (j := 10) (by decide +kernel) rfl rfl rfl) ?_
  refine fw_ift (cc := .lt) (pc := 102) (off := 13) (by decide +kernel) (by decide) ⟨by omega, by omega⟩ (show (C i) < 0 by omega) ?_
  refine gm_sz (gm_p_load (pc := 115) (i := .iload 10) (sr := 0) (j := 10) (by decide +kernel) rfl rfl rfl) ?_
  refine gm_sz (gm_p_const (pc := 117) (i := .bipush (-10)) (v := gm_vi (-10)) (by decide +kernel) (by decide +kernel)) ?_
  refine fw_icf (cc := .le) (pc := 119) (off := 13) (by decide +kernel) (by decide) ⟨by omega, by omega⟩ ⟨by decide, by decide⟩ (show ¬ (C i) ≤ (-10) by omega) ?_
  refine gm_sz (gm_p_load (pc := 122) (i := .iload 8) (sr := 0) (j := 8) (by decide +kernel) rfl rfl rfl) ?_
  refine gm_sz (gm_p_load (pc := 124) (i := .iload 12) (sr := 0) (j := 12) (by decide +kernel) rfl rfl rfl) ?_
  refine gm_sz (gm_p_bin (pc := 126) (i := .iadd) (f := fun x y => x + y) (by decide +kernel) rfl) ?_
  refine gm_sz (gm_p_stor (pc := 127) (i := .istore 8) (sr := 0) (j := 8) (by decide +kernel) rfl (show 9 ≤ _ from Nat.le_of_ble_eq_true rfl) rfl) ?_
  show gm_Wp X LX d _ _ 41 129 [some (gm_vr 246), some (gm_vi b), some (gm_vi e), some (gm_vr 204), some (gm_vi b), some (gm_vi e), some (gm_vi t), some (gm_vi l), some (gm_vi (s + 0)), some (gm_vi i), some (gm_vi (C i)), some (gm_vi ((-2) - (C i))), some (gm_vi 0), z13] [] n K _ _ Q
  refine gm_sz (gm_p_goto (pc := 129) (off := 161) (by decide +kernel) (by decide)) ?_
  refine gm_sz (gm_p_iinc (pc := 290) (j := 9) (z := 1) (by decide +kernel) rfl) ?_
  refine gm_sz (gm_p_goto (pc := 293) (off := (-238)) (by decide +kernel) (by decide)) ?_
  exact hq _ _ _ _
theorem ho_w2 (hE : E0 n K R) (hL : LE n K R NC) (hM : LM NC M) (hF : ∀ j : Int, 0 ≤ j → j < 10 → M 204 j = F j) (hC9 : ∀ j, M 247 j = C j) (h0 : 0 ≤ i ∧ i < (NC : Int)) (hA : -9 ≤ C i ∧ C i ≤ -2) {t l s : Int} {z10 z11 z12 z13 : Option gm_V} (hq : ∀ z10 z11 z12 z13 : Option gm_V, gm_Wp X LX d bc bs 41 55 [some (gm_vr 246), some (gm_vi b), some (gm_vi e), some (gm_vr 204), some (gm_vi b), some (gm_vi e), some (gm_vi (t)), some (gm_vi (l)), some (gm_vi (s + (F ((-2) - (C i))))), some (gm_vi (i + 1)), z10, z11, z12, z13] [] n K R M Q) (hie : i < e) (heb : e ≤ (NC : Int)) : gm_Wp X LX d bc bs 41 55 [some (gm_vr 246), some (gm_vi b), some (gm_vi e), some (gm_vr 204), some (gm_vi b), some (gm_vi e), some (gm_vi t), some (gm_vi l), some (gm_vi s), some (gm_vi i), z10, z11, z12, z13] [] n K R M Q := by
  have hNC := hL.2.2
  refine gm_sz (gm_p_load (pc := 55) (i := .iload 9) (sr := 0) (j := 9) (by decide +kernel) rfl rfl rfl) ?_
  refine gm_sz (gm_p_load (pc := 57) (i := .iload 5) (sr := 0) (j := 5) (by decide +kernel) rfl rfl rfl) ?_
  refine fw_icf (cc := .ge) (pc := 59) (off := 237) (by decide +kernel) (by decide) ⟨by omega, by omega⟩ ⟨by omega, by omega⟩ (show ¬ e ≤ i by omega) ?_
  refine gm_sz (gm_p_load (pc := 62) (i := .aload_n 0) (sr := 2) (j := 0) (by decide +kernel) rfl rfl rfl) ?_
  refine gm_sz (fw_gr (pc := 63) (ix := 22) (ci := 10) (j := 1) (r := 247) (by decide +kernel) (lk6 hL) (by decide +kernel) (by decide +kernel) hL.2.1.2.1) ?_
  refine gm_sz (gm_p_load (pc := 66) (i := .iload 9) (sr := 0) (j := 9) (by decide +kernel) rfl rfl rfl) ?_
  refine gm_sz (fw_ia (pc := 68) (k := 247) (len := NC) (e0 := i) (x := C i) (by decide +kernel) (lk7 hL).1 (lk7 hL).2 (by omega) ⟨by omega, by omega⟩ (hC9 _)) ?_
  refine gm_sz (gm_p_stor (pc := 69) (i := .istore 10) (sr := 0) (j := 10) (by decide +kernel) rfl (show 11 ≤ _ from Nat.le_of_ble_eq_true rfl) rfl) ?_
  show gm_Wp X LX d _ _ 41 71 [some (gm_vr 246), some (gm_vi b), some (gm_vi e), some (gm_vr 204), some (gm_vi b), some (gm_vi e), some (gm_vi t), some (gm_vi l), some (gm_vi s), some (gm_vi i), some (gm_vi (C i)), z11, z12, z13] [] n K _ _ Q
  refine gm_sz (gm_p_const (pc := 71) (i := .bipush (-2)) (v := gm_vi (-2)) (by decide +kernel) (by decide +kernel)) ?_
  refine gm_sz (gm_p_load (pc := 73) (i := .iload 10) (sr := 0) (j := 10) (by decide +kernel) rfl rfl rfl) ?_
  refine gm_sz (gm_p_bin (pc := 75) (i := .isub) (f := fun x y => x - y) (by decide +kernel) rfl) ?_
  refine gm_sz (gm_p_stor (pc := 76) (i := .istore 11) (sr := 0) (j := 11) (by decide +kernel) rfl (show 12 ≤ _ from Nat.le_of_ble_eq_true rfl) rfl) ?_
  show gm_Wp X LX d _ _ 41 78 [some (gm_vr 246), some (gm_vi b), some (gm_vi e), some (gm_vr 204), some (gm_vi b), some (gm_vi e), some (gm_vi t), some (gm_vi l), some (gm_vi s), some (gm_vi i), some (gm_vi (C i)), some (gm_vi ((-2) - (C i))), z12, z13] [] n K _ _ Q
  refine gm_sz (gm_p_load (pc := 78) (i := .iload 11) (sr := 0) (j := 11) (by decide +kernel) rfl rfl rfl) ?_
  refine fw_iff (cc := .lt) (pc := 80) (off := 17) (by decide +kernel) (by decide) ⟨by omega, by omega⟩ (show ¬ ((-2) - (C i)) < 0 by omega) ?_
  refine gm_sz (gm_p_load (pc := 83) (i := .iload 11) (sr := 0) (j := 11) (by decide +kernel) rfl rfl rfl) ?_
  refine gm_sz (gm_p_load (pc := 85) (i := .aload_n 3) (sr := 2) (j := 3) (by decide +kernel) rfl rfl rfl) ?_
  refine gm_sz (fw_al (pc := 86) (k := 204) (len := 10) (by decide +kernel) (e0a hE (k := 204) (q := ((0 : Nat), (10 : Nat))) (by decide +kernel)).1 (e0a hE (k := 204) (q := ((0 : Nat), (10 : Nat))) (by decide +kernel)).2 (by decide)) ?_
  refine fw_icf (cc := .ge) (pc := 87) (off := 10) (by decide +kernel) (by decide) ⟨by omega, by omega⟩ ⟨by decide, by decide⟩ (show ¬ 10 ≤ ((-2) - (C i)) by omega) ?_
  refine gm_sz (gm_p_load (pc := 90) (i := .aload_n 3) (sr := 2) (j := 3) (by decide +kernel) rfl rfl rfl) ?_
  refine gm_sz (gm_p_load (pc := 91) (i := .iload 11) (sr := 0) (j := 11) (by decide +kernel) rfl rfl rfl) ?_
  refine gm_sz (fw_ia (pc := 93) (k := 204) (len := 10) (e0 := (-2) - (C i)) (x := F ((-2) - (C i))) (by decide +kernel) (e0a hE (k := 204) (q := ((0 : Nat), (10 : Nat))) (by decide +kernel)).1 (e0a hE (k := 204) (q := ((0 : Nat), (10 : Nat))) (by decide +kernel)).2 (by decide) ⟨by omega, by omega⟩ (hF _ (by omega) (by omega))) ?_
  refine gm_sz (gm_p_goto (pc := 94) (off := 4) (by decide +kernel) (by decide)) ?_
  refine gm_sz (gm_p_stor (pc := 98) (i := .istore 12) (sr := 0) (j := 12) (by decide +kernel) rfl (show 13 ≤ _ from Nat.le_of_ble_eq_true rfl) rfl) ?_
  show gm_Wp X LX d _ _ 41 100 [some (gm_vr 246), some (gm_vi b), some (gm_vi e), some (gm_vr 204), some (gm_vi b), some (gm_vi e), some (gm_vi t), some (gm_vi l), some (gm_vi s), some (gm_vi i), some (gm_vi (C i)), some (gm_vi ((-2) - (C i))), some (gm_vi (F ((-2) - (C i)))), z13] [] n K _ _ Q
  refine gm_sz (gm_p_load (pc := 100) (i := .iload 10) (sr := 0) (j := 10) (by decide +kernel) rfl rfl rfl) ?_
  refine fw_ift (cc := .lt) (pc := 102) (off := 13) (by decide +kernel) (by decide) ⟨by omega, by omega⟩ (show (C i) < 0 by omega) ?_
  refine gm_sz (gm_p_load (pc := 115) (i := .iload 10) (sr := 0) (j := 10) (by decide +kernel) rfl rfl rfl) ?_
  refine gm_sz (gm_p_const (pc := 117) (i := .bipush (-10)) (v := gm_vi (-10)) (by decide +kernel) (by decide +kernel)) ?_
  refine fw_icf (cc := .le) (pc := 119) (off := 13) (by decide +kernel) (by decide) ⟨by omega, by omega⟩ ⟨by decide, by decide⟩ (show ¬ (C i) ≤ (-10) by omega) ?_
  refine gm_sz (gm_p_load (pc := 122) (i := .iload 8) (sr := 0) (j := 8) (by decide +kernel) rfl rfl rfl) ?_
  refine gm_sz (gm_p_load (pc := 124) (i := .iload 12) (sr := 0) (j := 12) (by decide +kernel) rfl rfl rfl) ?_
  refine gm_sz (gm_p_bin (pc := 126) (i := .iadd) (f := fun x y => x + y) (by decide +kernel) rfl) ?_
  refine gm_sz (gm_p_stor (pc := 127) (i := .istore 8) (sr := 0) (j := 8) (by decide +kernel) rfl (show 9 ≤ _ from Nat.le_of_ble_eq_true rfl) rfl) ?_
  show gm_Wp X LX d _ _ 41 129 [some (gm_vr 246), some (gm_vi b), some (gm_vi e), some (gm_vr 204), some (gm_vi b), some (gm_vi e), some (gm_vi t), some (gm_vi l), some (gm_vi (s + (F ((-2) - (C i))))), some (gm_vi i), some (gm_vi (C i)), some (gm_vi ((-2) - (C i))), some (gm_vi (F ((-2) - (C i)))), z13] [] n K _ _ Q
  refine gm_sz (gm_p_goto (pc := 129) (off := 161) (by decide +kernel) (by decide)) ?_
  refine gm_sz (gm_p_iinc (pc := 290) (j := 9) (z := 1) (by decide +kernel) rfl) ?_
  refine gm_sz (gm_p_goto (pc := 293) (off := (-238)) (by decide +kernel) (by decide)) ?_
  exact hq _ _ _ _
theorem ho_w3 (hE : E0 n K R) (hL : LE n K R NC) (hM : LM NC M) (hF : ∀ j : Int, 0 ≤ j → j < 10 → M 204 j = F j) (hC9 : ∀ j, M 247 j = C j) (h0 : 0 ≤ i ∧ i < (NC : Int)) (hA : -11 ≤ C i ∧ C i ≤ -10) {t l s : Int} {z10 z11 z12 z13 : Option gm_V} (hq : ∀ z10 z11 z12 z13 : Option gm_V, gm_Wp X LX d bc bs 41 55 [some (gm_vr 246), some (gm_vi b), some (gm_vi e), some (gm_vr 204), some (gm_vi b), some (gm_vi e), some (gm_vi (gm_or (gm_shl t 1) (F ((-2) - (C i))))), some (gm_vi (l)), some (gm_vi (s)), some (gm_vi (i + 1)), z10, z11, z12, z13] [] n K R M Q) (hie : i < e) (heb : e ≤ (NC : Int)) : gm_Wp X LX d bc bs 41 55 [some (gm_vr 246), some (gm_vi b), some (gm_vi e), some (gm_vr 204), some (gm_vi b), some (gm_vi e), some (gm_vi t), some (gm_vi l), some (gm_vi s), some (gm_vi i), z10, z11, z12, z13] [] n K R M Q := by
  have hNC := hL.2.2
  refine gm_sz (gm_p_load (pc := 55) (i := .iload 9) (sr := 0) (j := 9) (by decide +kernel) rfl rfl rfl) ?_
  refine gm_sz (gm_p_load (pc := 57) (i := .iload 5) (sr := 0) (j := 5) (by decide +kernel) rfl rfl rfl) ?_
  refine fw_icf (cc := .ge) (pc := 59) (off := 237) (by decide +kernel) (by decide) ⟨by omega, by omega⟩ ⟨by omega, by omega⟩ (show ¬ e ≤ i by omega) ?_
  refine gm_sz (gm_p_load (pc := 62) (i := .aload_n 0) (sr := 2) (j := 0) (by decide +kernel) rfl rfl rfl) ?_
  refine gm_sz (fw_gr (pc := 63) (ix := 22) (ci := 10) (j := 1) (r := 247) (by decide +kernel) (lk6 hL) (by decide +kernel) (by decide +kernel) hL.2.1.2.1) ?_
  refine gm_sz (gm_p_load (pc := 66) (i := .iload 9) (sr := 0) (j := 9) (by decide +kernel) rfl rfl rfl) ?_
  refine gm_sz (fw_ia (pc := 68) (k := 247) (len := NC) (e0 := i) (x := C i) (by decide +kernel) (lk7 hL).1 (lk7 hL).2 (by omega) ⟨by omega, by omega⟩ (hC9 _)) ?_
  refine gm_sz (gm_p_stor (pc := 69) (i := .istore 10) (sr := 0) (j := 10) (by decide +kernel) rfl (show 11 ≤ _ from Nat.le_of_ble_eq_true rfl) rfl) ?_
  show gm_Wp X LX d _ _ 41 71 [some (gm_vr 246), some (gm_vi b), some (gm_vi e), some (gm_vr 204), some (gm_vi b), some (gm_vi e), some (gm_vi t), some (gm_vi l), some (gm_vi s), some (gm_vi i), some (gm_vi (C i)), z11, z12, z13] [] n K _ _ Q
  refine gm_sz (gm_p_const (pc := 71) (i := .bipush (-2)) (v := gm_vi (-2)) (by decide +kernel) (by decide +kernel)) ?_
  refine gm_sz (gm_p_load (pc := 73) (i := .iload 10) (sr := 0) (j := 10) (by decide +kernel) rfl rfl rfl) ?_
  refine gm_sz (gm_p_bin (pc := 75) (i := .isub) (f := fun x y => x - y) (by decide +kernel) rfl) ?_
  refine gm_sz (gm_p_stor (pc := 76) (i := .istore 11) (sr := 0) (j := 11) (by decide +kernel) rfl (show 12 ≤ _ from Nat.le_of_ble_eq_true rfl) rfl) ?_
  show gm_Wp X LX d _ _ 41 78 [some (gm_vr 246), some (gm_vi b), some (gm_vi e), some (gm_vr 204), some (gm_vi b), some (gm_vi e), some (gm_vi t), some (gm_vi l), some (gm_vi s), some (gm_vi i), some (gm_vi (C i)), some (gm_vi ((-2) - (C i))), z12, z13] [] n K _ _ Q
  refine gm_sz (gm_p_load (pc := 78) (i := .iload 11) (sr := 0) (j := 11) (by decide +kernel) rfl rfl rfl) ?_
  refine fw_iff (cc := .lt) (pc := 80) (off := 17) (by decide +kernel) (by decide) ⟨by omega, by omega⟩ (show ¬ ((-2) - (C i)) < 0 by omega) ?_
  refine gm_sz (gm_p_load (pc := 83) (i := .iload 11) (sr := 0) (j := 11) (by decide +kernel) rfl rfl rfl) ?_
  refine gm_sz (gm_p_load (pc := 85) (i := .aload_n 3) (sr := 2) (j := 3) (by decide +kernel) rfl rfl rfl) ?_
  refine gm_sz (fw_al (pc := 86) (k := 204) (len := 10) (by decide +kernel) (e0a hE (k := 204) (q := ((0 : Nat), (10 : Nat))) (by decide +kernel)).1 (e0a hE (k := 204) (q := ((0 : Nat), (10 : Nat))) (by decide +kernel)).2 (by decide)) ?_
  refine fw_icf (cc := .ge) (pc := 87) (off := 10) (by decide +kernel) (by decide) ⟨by omega, by omega⟩ ⟨by decide, by decide⟩ (show ¬ 10 ≤ ((-2) - (C i)) by omega) ?_
  refine gm_sz (gm_p_load (pc := 90) (i := .aload_n 3) (sr := 2) (j := 3) (by decide +kernel) rfl rfl rfl) ?_
  refine gm_sz (gm_p_load (pc := 91) (i := .iload 11) (sr := 0) (j := 11) (by decide +kernel) rfl rfl rfl) ?_
  refine gm_sz (fw_ia (pc := 93) (k := 204) (len := 10) (e0 := (-2) - (C i)) (x := F ((-2) - (C i))) (by decide +kernel) (e0a hE (k := 204) (q := ((0 : Nat), (10 : Nat))) (by decide +kernel)).1 (e0a hE (k := 204) (q := ((0 : Nat), (10 : Nat))) (by decide +kernel)).2 (by decide) ⟨by omega, by omega⟩ (hF _ (by omega) (by omega))) ?_
  refine gm_sz (gm_p_goto (pc := 94) (off := 4) (by decide +kernel) (by decide)) ?_
  refine gm_sz (gm_p_stor (pc := 98) (i := .istore 12) (sr := 0) (j := 12) (by decide +kernel) rfl (show 13 ≤ _ from Nat.le_of_ble_eq_true rfl) rfl) ?_
  show gm_Wp X LX d _ _ 41 100 [some (gm_vr 246), some (gm_vi b), some (gm_vi e), some (gm_vr 204), some (gm_vi b), some (gm_vi e), some (gm_vi t), some (gm_vi l), some (gm_vi s), some (gm_vi i), some (gm_vi (C i)), some (gm_vi ((-2) - (C i))), some (gm_vi (F ((-2) - (C i)))), z13] [] n K _ _ Q
  refine gm_sz (gm_p_load (pc := 100) (i := .iload 10) (sr := 0) (j := 10) (by decide +kernel) rfl rfl rfl) ?_
  refine fw_ift (cc := .lt) (pc := 102) (off := 13) (by decide +kernel) (by decide) ⟨by omega, by omega⟩ (show (C i) < 0 by omega) ?_
  refine gm_sz (gm_p_load (pc := 115) (i := .iload 10) (sr := 0) (j := 10) (by decide +kernel) rfl rfl rfl) ?_
  refine gm_sz (gm_p_const (pc := 117) (i := .bipush (-10)) (v := gm_vi (-10)) (by decide +kernel) (by decide +kernel)) ?_
  refine fw_ict (cc := .le) (pc := 119) (off := 13) (by decide +kernel) (by decide) ⟨by omega, by omega⟩ ⟨by decide, by decide⟩ (show (C i) ≤ (-10) by omega) ?_
  refine gm_sz (gm_p_load (pc := 132) (i := .iload 10) (sr := 0) (j := 10) (by decide +kernel) rfl rfl rfl) ?_
  refine gm_sz (gm_p_const (pc := 134) (i := .bipush (-11)) (v := gm_vi (-11)) (by decide +kernel) (by decide +kernel)) ?_
  refine fw_icf (cc := .lt) (pc := 136) (off := 15) (by decide +kernel) (by decide) ⟨by omega, by omega⟩ ⟨by decide, by decide⟩ (show ¬ (C i) < (-11) by omega) ?_
  refine gm_sz (gm_p_load (pc := 139) (i := .iload 6) (sr := 0) (j := 6) (by decide +kernel) rfl rfl rfl) ?_
  refine gm_sz (gm_p_const (pc := 141) (i := .iconst 1) (v := gm_vi 1) (by decide +kernel) (by decide +kernel)) ?_
  refine gm_sz (gm_p_bin (pc := 142) (i := .ishl) (f := gm_shl) (by decide +kernel) rfl) ?_
  refine gm_sz (gm_p_load (pc := 143) (i := .iload 12) (sr := 0) (j := 12) (by decide +kernel) rfl rfl rfl) ?_
  refine gm_sz (gm_p_bin (pc := 145) (i := .ior) (f := gm_or) (by decide +kernel) rfl) ?_
  refine gm_sz (gm_p_stor (pc := 146) (i := .istore 6) (sr := 0) (j := 6) (by decide +kernel) rfl (show 7 ≤ _ from Nat.le_of_ble_eq_true rfl) rfl) ?_
  show gm_Wp X LX d _ _ 41 148 [some (gm_vr 246), some (gm_vi b), some (gm_vi e), some (gm_vr 204), some (gm_vi b), some (gm_vi e), some (gm_vi (gm_or (gm_shl t 1) (F ((-2) - (C i))))), some (gm_vi l), some (gm_vi s), some (gm_vi i), some (gm_vi (C i)), some (gm_vi ((-2) - (C i))), some (gm_vi (F ((-2) - (C i)))), z13] [] n K _ _ Q
  refine gm_sz (gm_p_goto (pc := 148) (off := 142) (by decide +kernel) (by decide)) ?_
  refine gm_sz (gm_p_iinc (pc := 290) (j := 9) (z := 1) (by decide +kernel) rfl) ?_
  refine gm_sz (gm_p_goto (pc := 293) (off := (-238)) (by decide +kernel) (by decide)) ?_
  exact hq _ _ _ _
theorem ho_w4 (hE : E0 n K R) (hL : LE n K R NC) (hM : LM NC M) (hF : ∀ j : Int, 0 ≤ j → j < 10 → M 204 j = F j) (hC9 : ∀ j, M 247 j = C j) (h0 : 0 ≤ i ∧ i < (NC : Int)) (hA : C i = -12) {t l s : Int} {z10 z11 z12 z13 : Option gm_V} (hq : ∀ z10 z11 z12 z13 : Option gm_V, gm_Wp X LX d bc bs 41 55 [some (gm_vr 246), some (gm_vi b), some (gm_vi e), some (gm_vr 204), some (gm_vi b), some (gm_vi e), some (gm_vi (t)), some (gm_vi (s)), some (gm_vi (0)), some (gm_vi (i + 1)), z10, z11, z12, z13] [] n K R M Q) (hie : i < e) (heb : e ≤ (NC : Int)) : gm_Wp X LX d bc bs 41 55 [some (gm_vr 246), some (gm_vi b), some (gm_vi e), some (gm_vr 204), some (gm_vi b), some (gm_vi e), some (gm_vi t), some (gm_vi l), some (gm_vi s), some (gm_vi i), z10, z11, z12, z13] [] n K R M Q := by
  have hNC := hL.2.2
  refine gm_sz (gm_p_load (pc := 55) (i := .iload 9) (sr := 0) (j := 9) (by decide +kernel) rfl rfl rfl) ?_
  refine gm_sz (gm_p_load (pc := 57) (i := .iload 5) (sr := 0) (j := 5) (by decide +kernel) rfl rfl rfl) ?_
  refine fw_icf (cc := .ge) (pc := 59) (off := 237) (by decide +kernel) (by decide) ⟨by omega, by omega⟩ ⟨by omega, by omega⟩ (show ¬ e ≤ i by omega) ?_
  refine gm_sz (gm_p_load (pc := 62) (i := .aload_n 0) (sr := 2) (j := 0) (by decide +kernel) rfl rfl rfl) ?_
  refine gm_sz (fw_gr (pc := 63) (ix := 22) (ci := 10) (j := 1) (r := 247) (by decide +kernel) (lk6 hL) (by decide +kernel) (by decide +kernel) hL.2.1.2.1) ?_
  refine gm_sz (gm_p_load (pc := 66) (i := .iload 9) (sr := 0) (j := 9) (by decide +kernel) rfl rfl rfl) ?_
  refine gm_sz (fw_ia (pc := 68) (k := 247) (len := NC) (e0 := i) (x := C i) (by decide +kernel) (lk7 hL).1 (lk7 hL).2 (by omega) ⟨by omega, by omega⟩ (hC9 _)) ?_
  refine gm_sz (gm_p_stor (pc := 69) (i := .istore 10) (sr := 0) (j := 10) (by decide +kernel) rfl (show 11 ≤ _ from Nat.le_of_ble_eq_true rfl) rfl) ?_
  show gm_Wp X LX d _ _ 41 71 [some (gm_vr 246), some (gm_vi b), some (gm_vi e), some (gm_vr 204), some (gm_vi b), some (gm_vi e), some (gm_vi t), some (gm_vi l), some (gm_vi s), some (gm_vi i), some (gm_vi (C i)), z11, z12, z13] [] n K _ _ Q
  refine gm_sz (gm_p_const (pc := 71) (i := .bipush (-2)) (v := gm_vi (-2)) (by decide +kernel) (by decide +kernel)) ?_
  refine gm_sz (gm_p_load (pc := 73) (i := .iload 10) (sr := 0) (j := 10) (by decide +kernel) rfl rfl rfl) ?_
  refine gm_sz (gm_p_bin (pc := 75) (i := .isub) (f := fun x y => x - y) (by decide +kernel) rfl) ?_
  refine gm_sz (gm_p_stor (pc := 76) (i := .istore 11) (sr := 0) (j := 11) (by decide +kernel) rfl (show 12 ≤ _ from Nat.le_of_ble_eq_true rfl) rfl) ?_
  show gm_Wp X LX d _ _ 41 78 [some (gm_vr 246), some (gm_vi b), some (gm_vi e), some (gm_vr 204), some (gm_vi b), some (gm_vi e), some (gm_vi t), some (gm_vi l), some (gm_vi s), some (gm_vi i), some (gm_vi (C i)), some (gm_vi ((-2) - (C i))), z12, z13] [] n K _ _ Q
  refine gm_sz (gm_p_load (pc := 78) (i := .iload 11) (sr := 0) (j := 11) (by decide +kernel) rfl rfl rfl) ?_
  refine fw_iff (cc := .lt) (pc := 80) (off := 17) (by decide +kernel) (by decide) ⟨by omega, by omega⟩ (show ¬ ((-2) - (C i)) < 0 by omega) ?_
  refine gm_sz (gm_p_load (pc := 83) (i := .iload 11) (sr := 0) (j := 11) (by decide +kernel) rfl rfl rfl) ?_
  refine gm_sz (gm_p_load (pc := 85) (i := .aload_n 3) (sr := 2) (j := 3) (by decide +kernel) rfl rfl rfl) ?_
  refine gm_sz (fw_al (pc := 86) (k := 204) (len := 10) (by decide +kernel) (e0a hE (k := 204) (q := ((0 : Nat), (10 : Nat))) (by decide +kernel)).1 (e0a hE (k := 204) (q := ((0 : Nat), (10 : Nat))) (by decide +kernel)).2 (by decide)) ?_
  refine fw_ict (cc := .ge) (pc := 87) (off := 10) (by decide +kernel) (by decide) ⟨by omega, by omega⟩ ⟨by decide, by decide⟩ (show 10 ≤ ((-2) - (C i)) by omega) ?_
  refine gm_sz (gm_p_const (pc := 97) (i := .iconst 0) (v := gm_vi 0) (by decide +kernel) (by decide +kernel)) ?_
  refine gm_sz (gm_p_stor (pc := 98) (i := .istore 12) (sr := 0) (j := 12) (by decide +kernel) rfl (show 13 ≤ _ from Nat.le_of_ble_eq_true rfl) rfl) ?_
  show gm_Wp X LX d _ _ 41 100 [some (gm_vr 246), some (gm_vi b), some (gm_vi e), some (gm_vr 204), some (gm_vi b), some (gm_vi e), some (gm_vi t), some (gm_vi l), some (gm_vi s), some (gm_vi i), some (gm_vi (C i)), some (gm_vi ((-2) - (C i))), some (gm_vi 0), z13] [] n K _ _ Q
  refine gm_sz (gm_p_load (pc := 100) (i := .iload 10) (sr := 0) (j := 10) (by decide +kernel) rfl rfl rfl) ?_
  refine fw_ift (cc := .lt) (pc := 102) (off := 13) (by decide +kernel) (by decide) ⟨by omega, by omega⟩ (show (C i) < 0 by omega) ?_
  refine gm_sz (gm_p_load (pc := 115) (i := .iload 10) (sr := 0) (j := 10) (by decide +kernel) rfl rfl rfl) ?_
  refine gm_sz (gm_p_const (pc := 117) (i := .bipush (-10)) (v := gm_vi (-10)) (by decide +kernel) (by decide +kernel)) ?_
  refine fw_ict (cc := .le) (pc := 119) (off := 13) (by decide +kernel) (by decide) ⟨by omega, by omega⟩ ⟨by decide, by decide⟩ (show (C i) ≤ (-10) by omega) ?_
  refine gm_sz (gm_p_load (pc := 132) (i := .iload 10) (sr := 0) (j := 10) (by decide +kernel) rfl rfl rfl) ?_
  refine gm_sz (gm_p_const (pc := 134) (i := .bipush (-11)) (v := gm_vi (-11)) (by decide +kernel) (by decide +kernel)) ?_
  refine fw_ict (cc := .lt) (pc := 136) (off := 15) (by decide +kernel) (by decide) ⟨by omega, by omega⟩ ⟨by decide, by decide⟩ (show (C i) < (-11) by omega) ?_
  refine gm_sz (gm_p_load (pc := 151) (i := .iload 10) (sr := 0) (j := 10) (by decide +kernel) rfl rfl rfl) ?_
  refine gm_sz (gm_p_const (pc := 153) (i := .bipush (-12)) (v := gm_vi (-12)) (by decide +kernel) (by decide +kernel)) ?_
  refine fw_icf (cc := .ne) (pc := 155) (off := 13) (by decide +kernel) (by decide) ⟨by omega, by omega⟩ ⟨by decide, by decide⟩ (show ¬ ¬ (C i) = (-12) by omega) ?_
  refine gm_sz (gm_p_load (pc := 158) (i := .iload 8) (sr := 0) (j := 8) (by decide +kernel) rfl rfl rfl) ?_
  refine gm_sz (gm_p_stor (pc := 160) (i := .istore 7) (sr := 0) (j := 7) (by decide +kernel) rfl (show 8 ≤ _ from Nat.le_of_ble_eq_true rfl) rfl) ?_
  show gm_Wp X LX d _ _ 41 162 [some (gm_vr 246), some (gm_vi b), some (gm_vi e), some (gm_vr 204), some (gm_vi b), some (gm_vi e), some (gm_vi t), some (gm_vi s), some (gm_vi s), some (gm_vi i), some (gm_vi (C i)), some (gm_vi ((-2) - (C i))), some (gm_vi 0), z13] [] n K _ _ Q
  refine gm_sz (gm_p_const (pc := 162) (i := .iconst 0) (v := gm_vi 0) (by decide +kernel) (by decide +kernel)) ?_
  refine gm_sz (gm_p_stor (pc := 163) (i := .istore 8) (sr := 0) (j := 8) (by decide +kernel) rfl (show 9 ≤ _ from Nat.le_of_ble_eq_true rfl) rfl) ?_
  show gm_Wp X LX d _ _ 41 165 [some (gm_vr 246), some (gm_vi b), some (gm_vi e), some (gm_vr 204), some (gm_vi b), some (gm_vi e), some (gm_vi t), some (gm_vi s), some (gm_vi 0), some (gm_vi i), some (gm_vi (C i)), some (gm_vi ((-2) - (C i))), some (gm_vi 0), z13] [] n K _ _ Q
  refine gm_sz (gm_p_goto (pc := 165) (off := 125) (by decide +kernel) (by decide)) ?_
  refine gm_sz (gm_p_iinc (pc := 290) (j := 9) (z := 1) (by decide +kernel) rfl) ?_
  refine gm_sz (gm_p_goto (pc := 293) (off := (-238)) (by decide +kernel) (by decide)) ?_
  exact hq _ _ _ _
theorem ho_w5 (hE : E0 n K R) (hL : LE n K R NC) (hM : LM NC M) (hF : ∀ j : Int, 0 ≤ j → j < 10 → M 204 j = F j) (hC9 : ∀ j, M 247 j = C j) (h0 : 0 ≤ i ∧ i < (NC : Int)) (hA : C i = -13) {t l s : Int} {z10 z11 z12 z13 : Option gm_V} (hq : ∀ z10 z11 z12 z13 : Option gm_V, gm_Wp X LX d bc bs 41 55 [some (gm_vr 246), some (gm_vi b), some (gm_vi e), some (gm_vr 204), some (gm_vi b), some (gm_vi e), some (gm_vi (gm_or (gm_shl t 1) (if gm_w l < gm_w s then 1 else 0))), some (gm_vi (l)), some (gm_vi (0)), some (gm_vi (i + 1)), z10, z11, z12, z13] [] n K R M Q) (hie : i < e) (heb : e ≤ (NC : Int)) : gm_Wp X LX d bc bs 41 55 [some (gm_vr 246), some (gm_vi b), some (gm_vi e), some (gm_vr 204), some (gm_vi b), some (gm_vi e), some (gm_vi t), some (gm_vi l), some (gm_vi s), some (gm_vi i), z10, z11, z12, z13] [] n K R M Q := by
  have hNC := hL.2.2
  refine gm_sz (gm_p_load (pc := 55) (i := .iload 9) (sr := 0) (j := 9) (by decide +kernel) rfl rfl rfl) ?_
  refine gm_sz (gm_p_load (pc := 57) (i := .iload 5) (sr := 0) (j := 5) (by decide +kernel) rfl rfl rfl) ?_
  refine fw_icf (cc := .ge) (pc := 59) (off := 237) (by decide +kernel) (by decide) ⟨by omega, by omega⟩ ⟨by omega, by omega⟩ (show ¬ e ≤ i by omega) ?_
  refine gm_sz (gm_p_load (pc := 62) (i := .aload_n 0) (sr := 2) (j := 0) (by decide +kernel) rfl rfl rfl) ?_
  refine gm_sz (fw_gr (pc := 63) (ix := 22) (ci := 10) (j := 1) (r := 247) (by decide +kernel) (lk6 hL) (by decide +kernel) (by decide +kernel) hL.2.1.2.1) ?_
  refine gm_sz (gm_p_load (pc := 66) (i := .iload 9) (sr := 0) (j := 9) (by decide +kernel) rfl rfl rfl) ?_
  refine gm_sz (fw_ia (pc := 68) (k := 247) (len := NC) (e0 := i) (x := C i) (by decide +kernel) (lk7 hL).1 (lk7 hL).2 (by omega) ⟨by omega, by omega⟩ (hC9 _)) ?_
  refine gm_sz (gm_p_stor (pc := 69) (i := .istore 10) (sr := 0) (j := 10) (by decide +kernel) rfl (show 11 ≤ _ from Nat.le_of_ble_eq_true rfl) rfl) ?_
  show gm_Wp X LX d _ _ 41 71 [some (gm_vr 246), some (gm_vi b), some (gm_vi e), some (gm_vr 204), some (gm_vi b), some (gm_vi e), some (gm_vi t), some (gm_vi l), some (gm_vi s), some (gm_vi i), some (gm_vi (C i)), z11, z12, z13] [] n K _ _ Q
  refine gm_sz (gm_p_const (pc := 71) (i := .bipush (-2)) (v := gm_vi (-2)) (by decide +kernel) (by decide +kernel)) ?_
  refine gm_sz (gm_p_load (pc := 73) (i := .iload 10) (sr := 0) (j := 10) (by decide +kernel) rfl rfl rfl) ?_
  refine gm_sz (gm_p_bin (pc := 75) (i := .isub) (f := fun x y => x - y) (by decide +kernel) rfl) ?_
  refine gm_sz (gm_p_stor (pc := 76) (i := .istore 11) (sr := 0) (j := 11) (by decide +kernel) rfl (show 12 ≤ _ from Nat.le_of_ble_eq_true rfl) rfl) ?_
  show gm_Wp X LX d _ _ 41 78 [some (gm_vr 246), some (gm_vi b), some (gm_vi e), some (gm_vr 204), some (gm_vi b), some (gm_vi e), some (gm_vi t), some (gm_vi l), some (gm_vi s), some (gm_vi i), some (gm_vi (C i)), some (gm_vi ((-2) - (C i))), z12, z13] [] n K _ _ Q
  refine gm_sz (gm_p_load (pc := 78) (i := .iload 11) (sr := 0) (j := 11) (by decide +kernel) rfl rfl rfl) ?_
  refine fw_iff (cc := .lt) (pc := 80) (off := 17) (by decide +kernel) (by decide) ⟨by omega, by omega⟩ (show ¬ ((-2) - (C i)) < 0 by omega) ?_
  refine gm_sz (gm_p_load (pc := 83) (i := .iload 11) (sr := 0) (j := 11) (by decide +kernel) rfl rfl rfl) ?_
  refine gm_sz (gm_p_load (pc := 85) (i := .aload_n 3) (sr := 2) (j := 3) (by decide +kernel) rfl rfl rfl) ?_
  refine gm_sz (fw_al (pc := 86) (k := 204) (len := 10) (by decide +kernel) (e0a hE (k := 204) (q := ((0 : Nat), (10 : Nat))) (by decide +kernel)).1 (e0a hE (k := 204) (q := ((0 : Nat), (10 : Nat))) (by decide +kernel)).2 (by decide)) ?_
  refine fw_ict (cc := .ge) (pc := 87) (off := 10) (by decide +kernel) (by decide) ⟨by omega, by omega⟩ ⟨by decide, by decide⟩ (show 10 ≤ ((-2) - (C i)) by omega) ?_
  refine gm_sz (gm_p_const (pc := 97) (i := .iconst 0) (v := gm_vi 0) (by decide +kernel) (by decide +kernel)) ?_
  refine gm_sz (gm_p_stor (pc := 98) (i := .istore 12) (sr := 0) (j := 12) (by decide +kernel) rfl (show 13 ≤ _ from Nat.le_of_ble_eq_true rfl) rfl) ?_
  show gm_Wp X LX d _ _ 41 100 [some (gm_vr 246), some (gm_vi b), some (gm_vi e), some (gm_vr 204), some (gm_vi b), some (gm_vi e), some (gm_vi t), some (gm_vi l), some (gm_vi s), some (gm_vi i), some (gm_vi (C i)), some (gm_vi ((-2) - (C i))), some (gm_vi 0), z13] [] n K _ _ Q
  refine gm_sz (gm_p_load (pc := 100) (i := .iload 10) (sr := 0) (j := 10) (by decide +kernel) rfl rfl rfl) ?_
  refine fw_ift (cc := .lt) (pc := 102) (off := 13) (by decide +kernel) (by decide) ⟨by omega, by omega⟩ (show (C i) < 0 by omega) ?_
  refine gm_sz (gm_p_load (pc := 115) (i := .iload 10) (sr := 0) (j := 10) (by decide +kernel) rfl rfl rfl) ?_
  refine gm_sz (gm_p_const (pc := 117) (i := .bipush (-10)) (v := gm_vi (-10)) (by decide +kernel) (by decide +kernel)) ?_
  refine fw_ict (cc := .le) (pc := 119) (off := 13) (by decide +kernel) (by decide) ⟨by omega, by omega⟩ ⟨by decide, by decide⟩ (show (C i) ≤ (-10) by omega) ?_
  refine gm_sz (gm_p_load (pc := 132) (i := .iload 10) (sr := 0) (j := 10) (by decide +kernel) rfl rfl rfl) ?_
  refine gm_sz (gm_p_const (pc := 134) (i := .bipush (-11)) (v := gm_vi (-11)) (by decide +kernel) (by decide +kernel)) ?_
  refine fw_ict (cc := .lt) (pc := 136) (off := 15) (by decide +kernel) (by decide) ⟨by omega, by omega⟩ ⟨by decide, by decide⟩ (show (C i) < (-11) by omega) ?_
  refine gm_sz (gm_p_load (pc := 151) (i := .iload 10) (sr := 0) (j := 10) (by decide +kernel) rfl rfl rfl) ?_
  refine gm_sz (gm_p_const (pc := 153) (i := .bipush (-12)) (v := gm_vi (-12)) (by decide +kernel) (by decide +kernel)) ?_
  refine fw_ict (cc := .ne) (pc := 155) (off := 13) (by decide +kernel) (by decide) ⟨by omega, by omega⟩ ⟨by decide, by decide⟩ (show ¬ (C i) = (-12) by omega) ?_
  refine gm_sz (gm_p_load (pc := 168) (i := .iload 10) (sr := 0) (j := 10) (by decide +kernel) rfl rfl rfl) ?_
  refine gm_sz (gm_p_const (pc := 170) (i := .bipush (-13)) (v := gm_vi (-13)) (by decide +kernel) (by decide +kernel)) ?_
  refine fw_ict (cc := .eq) (pc := 172) (off := 10) (by decide +kernel) (by decide) ⟨by omega, by omega⟩ ⟨by decide, by decide⟩ (show (C i) = (-13) by omega) ?_
  refine gm_sz (gm_p_load (pc := 182) (i := .iload 10) (sr := 0) (j := 10) (by decide +kernel) rfl rfl rfl) ?_
  refine gm_sz (gm_p_const (pc := 184) (i := .bipush (-13)) (v := gm_vi (-13)) (by decide +kernel) (by decide +kernel)) ?_
  refine fw_icf (cc := .ne) (pc := 186) (off := 18) (by decide +kernel) (by decide) ⟨by omega, by omega⟩ ⟨by decide, by decide⟩ (show ¬ ¬ (C i) = (-13) by omega) ?_
  refine gm_sz (gm_p_load (pc := 189) (i := .iload 7) (sr := 0) (j := 7) (by decide +kernel) rfl rfl rfl) ?_
  refine gm_sz (gm_p_load (pc := 191) (i := .iload 8) (sr := 0) (j := 8) (by decide +kernel) rfl rfl rfl) ?_
  refine gm_b_ic (cc := .ge) (pc := 193) (off := 7) (by decide +kernel) (by decide) (fun h193 => ?_) (fun h193 => ?_)
  · have h193 : gm_w s ≤ gm_w l := h193
    refine gm_sz (gm_p_const (pc := 200) (i := .iconst 0) (v := gm_vi 0) (by decide +kernel) (by decide +kernel)) ?_
    refine gm_sz (gm_p_goto (pc := 201) (off := 15) (by decide +kernel) (by decide)) ?_
    refine gm_sz (gm_p_stor (pc := 216) (i := .istore 13) (sr := 0) (j := 13) (by decide +kernel) rfl (show 14 ≤ _ from Nat.le_of_ble_eq_true rfl) rfl) ?_
    show gm_Wp X LX d _ _ 41 218 [some (gm_vr 246), some (gm_vi b), some (gm_vi e), some (gm_vr 204), some (gm_vi b), some (gm_vi e), some (gm_vi t), some (gm_vi l), some (gm_vi s), some (gm_vi i), some (gm_vi (C i)), some (gm_vi ((-2) - (C i))), some (gm_vi 0), some (gm_vi 0)] [] n K _ _ Q
    refine gm_sz (gm_p_load (pc := 218) (i := .iload 6) (sr := 0) (j := 6) (by decide +kernel) rfl rfl rfl) ?_
    refine gm_sz (gm_p_const (pc := 220) (i := .iconst 1) (v := gm_vi 1) (by decide +kernel) (by decide +kernel)) ?_
    refine gm_sz (gm_p_bin (pc := 221) (i := .ishl) (f := gm_shl) (by decide +kernel) rfl) ?_
    refine gm_sz (gm_p_load (pc := 222) (i := .iload 13) (sr := 0) (j := 13) (by decide +kernel) rfl rfl rfl) ?_
    refine fw_iftd (cc := .eq) (pc := 224) (off := 7) (by decide +kernel) (by decide) ⟨by decide, by decide⟩ (by decide) ?_
    refine gm_sz (gm_p_const (pc := 231) (i := .iconst 0) (v := gm_vi 0) (by decide +kernel) (by decide +kernel)) ?_
    refine gm_sz (gm_p_bin (pc := 232) (i := .ior) (f := gm_or) (by decide +kernel) rfl) ?_
    refine gm_sz (gm_p_stor (pc := 233) (i := .istore 6) (sr := 0) (j := 6) (by decide +kernel) rfl (show 7 ≤ _ from Nat.le_of_ble_eq_true rfl) rfl) ?_
    show gm_Wp X LX d _ _ 41 235 [some (gm_vr 246), some (gm_vi b), some (gm_vi e), some (gm_vr 204), some (gm_vi b), some (gm_vi e), some (gm_vi (gm_or (gm_shl t 1) 0)), some (gm_vi l), some (gm_vi s), some (gm_vi i), some (gm_vi (C i)), some (gm_vi ((-2) - (C i))), some (gm_vi 0), some (gm_vi 0)] [] n K _ _ Q
    refine gm_sz (gm_p_const (pc := 235) (i := .iconst 0) (v := gm_vi 0) (by decide +kernel) (by decide +kernel)) ?_
    refine gm_sz (gm_p_stor (pc := 236) (i := .istore 8) (sr := 0) (j := 8) (by decide +kernel) rfl (show 9 ≤ _ from Nat.le_of_ble_eq_true rfl) rfl) ?_
    show gm_Wp X LX d _ _ 41 238 [some (gm_vr 246), some (gm_vi b), some (gm_vi e), some (gm_vr 204), some (gm_vi b), some (gm_vi e), some (gm_vi (gm_or (gm_shl t 1) 0)), some (gm_vi l), some (gm_vi 0), some (gm_vi i), some (gm_vi (C i)), some (gm_vi ((-2) - (C i))), some (gm_vi 0), some (gm_vi 0)] [] n K _ _ Q
    refine gm_sz (gm_p_goto (pc := 238) (off := 52) (by decide +kernel) (by decide)) ?_
    refine gm_sz (gm_p_iinc (pc := 290) (j := 9) (z := 1) (by decide +kernel) rfl) ?_
    refine gm_sz (gm_p_goto (pc := 293) (off := (-238)) (by decide +kernel) (by decide)) ?_
    rw [if_neg (by omega)] at hq
    exact hq _ _ _ _
  · have h193 : ¬ gm_w s ≤ gm_w l := h193
    refine gm_sz (gm_p_const (pc := 196) (i := .iconst 1) (v := gm_vi 1) (by decide +kernel) (by decide +kernel)) ?_
    refine gm_sz (gm_p_goto (pc := 197) (off := 19) (by decide +kernel) (by decide)) ?_
    refine gm_sz (gm_p_stor (pc := 216) (i := .istore 13) (sr := 0) (j := 13) (by decide +kernel) rfl (show 14 ≤ _ from Nat.le_of_ble_eq_true rfl) rfl) ?_
    show gm_Wp X LX d _ _ 41 218 [some (gm_vr 246), some (gm_vi b), some (gm_vi e), some (gm_vr 204), some (gm_vi b), some (gm_vi e), some (gm_vi t), some (gm_vi l), some (gm_vi s), some (gm_vi i), some (gm_vi (C i)), some (gm_vi ((-2) - (C i))), some (gm_vi 0), some (gm_vi 1)] [] n K _ _ Q
    refine gm_sz (gm_p_load (pc := 218) (i := .iload 6) (sr := 0) (j := 6) (by decide +kernel) rfl rfl rfl) ?_
    refine gm_sz (gm_p_const (pc := 220) (i := .iconst 1) (v := gm_vi 1) (by decide +kernel) (by decide +kernel)) ?_
    refine gm_sz (gm_p_bin (pc := 221) (i := .ishl) (f := gm_shl) (by decide +kernel) rfl) ?_
    refine gm_sz (gm_p_load (pc := 222) (i := .iload 13) (sr := 0) (j := 13) (by decide +kernel) rfl rfl rfl) ?_
    refine fw_iffd (cc := .eq) (pc := 224) (off := 7) (by decide +kernel) (by decide) ⟨by decide, by decide⟩ (by decide) ?_
    refine gm_sz (gm_p_const (pc := 227) (i := .iconst 1) (v := gm_vi 1) (by decide +kernel) (by decide +kernel)) ?_
    refine gm_sz (gm_p_goto (pc := 228) (off := 4) (by decide +kernel) (by decide)) ?_
    refine gm_sz (gm_p_bin (pc := 232) (i := .ior) (f := gm_or) (by decide +kernel) rfl) ?_
    refine gm_sz (gm_p_stor (pc := 233) (i := .istore 6) (sr := 0) (j := 6) (by decide +kernel) rfl (show 7 ≤ _ from Nat.le_of_ble_eq_true rfl) rfl) ?_
    show gm_Wp X LX d _ _ 41 235 [some (gm_vr 246), some (gm_vi b), some (gm_vi e), some (gm_vr 204), some (gm_vi b), some (gm_vi e), some (gm_vi (gm_or (gm_shl t 1) 1)), some (gm_vi l), some (gm_vi s), some (gm_vi i), some (gm_vi (C i)), some (gm_vi ((-2) - (C i))), some (gm_vi 0), some (gm_vi 1)] [] n K _ _ Q
    refine gm_sz (gm_p_const (pc := 235) (i := .iconst 0) (v := gm_vi 0) (by decide +kernel) (by decide +kernel)) ?_
    refine gm_sz (gm_p_stor (pc := 236) (i := .istore 8) (sr := 0) (j := 8) (by decide +kernel) rfl (show 9 ≤ _ from Nat.le_of_ble_eq_true rfl) rfl) ?_
    show gm_Wp X LX d _ _ 41 238 [some (gm_vr 246), some (gm_vi b), some (gm_vi e), some (gm_vr 204), some (gm_vi b), some (gm_vi e), some (gm_vi (gm_or (gm_shl t 1) 1)), some (gm_vi l), some (gm_vi 0), some (gm_vi i), some (gm_vi (C i)), some (gm_vi ((-2) - (C i))), some (gm_vi 0), some (gm_vi 1)] [] n K _ _ Q
    refine gm_sz (gm_p_goto (pc := 238) (off := 52) (by decide +kernel) (by decide)) ?_
    refine gm_sz (gm_p_iinc (pc := 290) (j := 9) (z := 1) (by decide +kernel) rfl) ?_
    refine gm_sz (gm_p_goto (pc := 293) (off := (-238)) (by decide +kernel) (by decide)) ?_
    rw [if_pos (by omega)] at hq
    exact hq _ _ _ _
theorem ho_w6 (hE : E0 n K R) (hL : LE n K R NC) (hM : LM NC M) (hF : ∀ j : Int, 0 ≤ j → j < 10 → M 204 j = F j) (hC9 : ∀ j, M 247 j = C j) (h0 : 0 ≤ i ∧ i < (NC : Int)) (hA : C i = -14) {t l s : Int} {z10 z11 z12 z13 : Option gm_V} (hq : ∀ z10 z11 z12 z13 : Option gm_V, gm_Wp X LX d bc bs 41 55 [some (gm_vr 246), some (gm_vi b), some (gm_vi e), some (gm_vr 204), some (gm_vi b), some (gm_vi e), some (gm_vi (gm_or (gm_shl t 1) (if gm_w s < gm_w l then 1 else 0))), some (gm_vi (l)), some (gm_vi (0)), some (gm_vi (i + 1)), z10, z11, z12, z13] [] n K R M Q) (hie : i < e) (heb : e ≤ (NC : Int)) : gm_Wp X LX d bc bs 41 55 [some (gm_vr 246), some (gm_vi b), some (gm_vi e), some (gm_vr 204), some (gm_vi b), some (gm_vi e), some (gm_vi t), some (gm_vi l), some (gm_vi s), some (gm_vi i), z10, z11, z12, z13] [] n K R M Q := by
  have hNC := hL.2.2
  refine gm_sz (gm_p_load (pc := 55) (i := .iload 9) (sr := 0) (j := 9) (by decide +kernel) rfl rfl rfl) ?_
  refine gm_sz (gm_p_load (pc := 57) (i := .iload 5) (sr := 0) (j := 5) (by decide +kernel) rfl rfl rfl) ?_
  refine fw_icf (cc := .ge) (pc := 59) (off := 237) (by decide +kernel) (by decide) ⟨by omega, by omega⟩ ⟨by omega, by omega⟩ (show ¬ e ≤ i by omega) ?_
  refine gm_sz (gm_p_load (pc := 62) (i := .aload_n 0) (sr := 2) (j := 0) (by decide +kernel) rfl rfl rfl) ?_
  refine gm_sz (fw_gr (pc := 63) (ix := 22) (ci := 10) (j := 1) (r := 247) (by decide +kernel) (lk6 hL) (by decide +kernel) (by decide +kernel) hL.2.1.2.1) ?_
  refine gm_sz (gm_p_load (pc := 66) (i := .iload 9) (sr := 0) (j := 9) (by decide +kernel) rfl rfl rfl) ?_
  refine gm_sz (fw_ia (pc := 68) (k := 247) (len := NC) (e0 := i) (x := C i) (by decide +kernel) (lk7 hL).1 (lk7 hL).2 (by omega) ⟨by omega, by omega⟩ (hC9 _)) ?_
  refine gm_sz (gm_p_stor (pc := 69) (i := .istore 10) (sr := 0) (j := 10) (by decide +kernel) rfl (show 11 ≤ _ from Nat.le_of_ble_eq_true rfl) rfl) ?_
  show gm_Wp X LX d _ _ 41 71 [some (gm_vr 246), some (gm_vi b), some (gm_vi e), some (gm_vr 204), some (gm_vi b), some (gm_vi e), some (gm_vi t), some (gm_vi l), some (gm_vi s), some (gm_vi i), some (gm_vi (C i)), z11, z12, z13] [] n K _ _ Q
  refine gm_sz (gm_p_const (pc := 71) (i := .bipush (-2)) (v := gm_vi (-2)) (by decide +kernel) (by decide +kernel)) ?_
  refine gm_sz (gm_p_load (pc := 73) (i := .iload 10) (sr := 0) (j := 10) (by decide +kernel) rfl rfl rfl) ?_
  refine gm_sz (gm_p_bin (pc := 75) (i := .isub) (f := fun x y => x - y) (by decide +kernel) rfl) ?_
  refine gm_sz (gm_p_stor (pc := 76) (i := .istore 11) (sr := 0) (j := 11) (by decide +kernel) rfl (show 12 ≤ _ from Nat.le_of_ble_eq_true rfl) rfl) ?_
  show gm_Wp X LX d _ _ 41 78 [some (gm_vr 246), some (gm_vi b), some (gm_vi e), some (gm_vr 204), some (gm_vi b), some (gm_vi e), some (gm_vi t), some (gm_vi l), some (gm_vi s), some (gm_vi i), some (gm_vi (C i)), some (gm_vi ((-2) - (C i))), z12, z13] [] n K _ _ Q
  refine gm_sz (gm_p_load (pc := 78) (i := .iload 11) (sr := 0) (j := 11) (by decide +kernel) rfl rfl rfl) ?_
  refine fw_iff (cc := .lt) (pc := 80) (off := 17) (by decide +kernel) (by decide) ⟨by omega, by omega⟩ (show ¬ ((-2) - (C i)) < 0 by omega) ?_
  refine gm_sz (gm_p_load (pc := 83) (i := .iload 11) (sr := 0) (j := 11) (by decide +kernel) rfl rfl rfl) ?_
  refine gm_sz (gm_p_load (pc := 85) (i := .aload_n 3) (sr := 2) (j := 3) (by decide +kernel) rfl rfl rfl) ?_
  refine gm_sz (fw_al (pc := 86) (k := 204) (len := 10) (by decide +kernel) (e0a hE (k := 204) (q := ((0 : Nat), (10 : Nat))) (by decide +kernel)).1 (e0a hE (k := 204) (q := ((0 : Nat), (10 : Nat))) (by decide +kernel)).2 (by decide)) ?_
  refine fw_ict (cc := .ge) (pc := 87) (off := 10) (by decide +kernel) (by decide) ⟨by omega, by omega⟩ ⟨by decide, by decide⟩ (show 10 ≤ ((-2) - (C i)) by omega) ?_
  refine gm_sz (gm_p_const (pc := 97) (i := .iconst 0) (v := gm_vi 0) (by decide +kernel) (by decide +kernel)) ?_
  refine gm_sz (gm_p_stor (pc := 98) (i := .istore 12) (sr := 0) (j := 12) (by decide +kernel) rfl (show 13 ≤ _ from Nat.le_of_ble_eq_true rfl) rfl) ?_
  show gm_Wp X LX d _ _ 41 100 [some (gm_vr 246), some (gm_vi b), some (gm_vi e), some (gm_vr 204), some (gm_vi b), some (gm_vi e), some (gm_vi t), some (gm_vi l), some (gm_vi s), some (gm_vi i), some (gm_vi (C i)), some (gm_vi ((-2) - (C i))), some (gm_vi 0), z13] [] n K _ _ Q
  refine gm_sz (gm_p_load (pc := 100) (i := .iload 10) (sr := 0) (j := 10) (by decide +kernel) rfl rfl rfl) ?_
  refine fw_ift (cc := .lt) (pc := 102) (off := 13) (by decide +kernel) (by decide) ⟨by omega, by omega⟩ (show (C i) < 0 by omega) ?_
  refine gm_sz (gm_p_load (pc := 115) (i := .iload 10) (sr := 0) (j := 10) (by decide +kernel) rfl rfl rfl) ?_
  refine gm_sz (gm_p_const (pc := 117) (i := .bipush (-10)) (v := gm_vi (-10)) (by decide +kernel) (by decide +kernel)) ?_
  refine fw_ict (cc := .le) (pc := 119) (off := 13) (by decide +kernel) (by decide) ⟨by omega, by omega⟩ ⟨by decide, by decide⟩ (show (C i) ≤ (-10) by omega) ?_
  refine gm_sz (gm_p_load (pc := 132) (i := .iload 10) (sr := 0) (j := 10) (by decide +kernel) rfl rfl rfl) ?_
  refine gm_sz (gm_p_const (pc := 134) (i := .bipush (-11)) (v := gm_vi (-11)) (by decide +kernel) (by decide +kernel)) ?_
  refine fw_ict (cc := .lt) (pc := 136) (off := 15) (by decide +kernel) (by decide) ⟨by omega, by omega⟩ ⟨by decide, by decide⟩ (show (C i) < (-11) by omega) ?_
  refine gm_sz (gm_p_load (pc := 151) (i := .iload 10) (sr := 0) (j := 10) (by decide +kernel) rfl rfl rfl) ?_
  refine gm_sz (gm_p_const (pc := 153) (i := .bipush (-12)) (v := gm_vi (-12)) (by decide +kernel) (by decide +kernel)) ?_
  refine fw_ict (cc := .ne) (pc := 155) (off := 13) (by decide +kernel) (by decide) ⟨by omega, by omega⟩ ⟨by decide, by decide⟩ (show ¬ (C i) = (-12) by omega) ?_
  refine gm_sz (gm_p_load (pc := 168) (i := .iload 10) (sr := 0) (j := 10) (by decide +kernel) rfl rfl rfl) ?_
  refine gm_sz (gm_p_const (pc := 170) (i := .bipush (-13)) (v := gm_vi (-13)) (by decide +kernel) (by decide +kernel)) ?_
  refine fw_icf (cc := .eq) (pc := 172) (off := 10) (by decide +kernel) (by decide) ⟨by omega, by omega⟩ ⟨by decide, by decide⟩ (show ¬ (C i) = (-13) by omega) ?_
  refine gm_sz (gm_p_load (pc := 175) (i := .iload 10) (sr := 0) (j := 10) (by decide +kernel) rfl rfl rfl) ?_
  refine gm_sz (gm_p_const (pc := 177) (i := .bipush (-14)) (v := gm_vi (-14)) (by decide +kernel) (by decide +kernel)) ?_
  refine fw_icf (cc := .ne) (pc := 179) (off := 62) (by decide +kernel) (by decide) ⟨by omega, by omega⟩ ⟨by decide, by decide⟩ (show ¬ ¬ (C i) = (-14) by omega) ?_
  refine gm_sz (gm_p_load (pc := 182) (i := .iload 10) (sr := 0) (j := 10) (by decide +kernel) rfl rfl rfl) ?_
  refine gm_sz (gm_p_const (pc := 184) (i := .bipush (-13)) (v := gm_vi (-13)) (by decide +kernel) (by decide +kernel)) ?_
  refine fw_ict (cc := .ne) (pc := 186) (off := 18) (by decide +kernel) (by decide) ⟨by omega, by omega⟩ ⟨by decide, by decide⟩ (show ¬ (C i) = (-13) by omega) ?_
  refine gm_sz (gm_p_load (pc := 204) (i := .iload 7) (sr := 0) (j := 7) (by decide +kernel) rfl rfl rfl) ?_
  refine gm_sz (gm_p_load (pc := 206) (i := .iload 8) (sr := 0) (j := 8) (by decide +kernel) rfl rfl rfl) ?_
  refine gm_b_ic (cc := .le) (pc := 208) (off := 7) (by decide +kernel) (by decide) (fun h208 => ?_) (fun h208 => ?_)
  · have h208 : gm_w l ≤ gm_w s := h208
    refine gm_sz (gm_p_const (pc := 215) (i := .iconst 0) (v := gm_vi 0) (by decide +kernel) (by decide +kernel)) ?_
    refine gm_sz (gm_p_stor (pc := 216) (i := .istore 13) (sr := 0) (j := 13) (by decide +kernel) rfl (show 14 ≤ _ from Nat.le_of_ble_eq_true rfl) rfl) ?_
    show gm_Wp X LX d _ _ 41 218 [some (gm_vr 246), some (gm_vi b), some (gm_vi e), some (gm_vr 204), some (gm_vi b), some (gm_vi e), some (gm_vi t), some (gm_vi l), some (gm_vi s), some (gm_vi i), some (gm_vi (C i)), some (gm_vi ((-2) - (C i))), some (gm_vi 0), some (gm_vi 0)] [] n K _ _ Q
    refine gm_sz (gm_p_load (pc := 218) (i := .iload 6) (sr := 0) (j := 6) (by decide +kernel) rfl rfl rfl) ?_
    refine gm_sz (gm_p_const (pc := 220) (i := .iconst 1) (v := gm_vi 1) (by decide +kernel) (by decide +kernel)) ?_
    refine gm_sz (gm_p_bin (pc := 221) (i := .ishl) (f := gm_shl) (by decide +kernel) rfl) ?_
    refine gm_sz (gm_p_load (pc := 222) (i := .iload 13) (sr := 0) (j := 13) (by decide +kernel) rfl rfl rfl) ?_
    refine fw_iftd (cc := .eq) (pc := 224) (off := 7) (by decide +kernel) (by decide) ⟨by decide, by decide⟩ (by decide) ?_
    refine gm_sz (gm_p_const (pc := 231) (i := .iconst 0) (v := gm_vi 0) (by decide +kernel) (by decide +kernel)) ?_
    refine gm_sz (gm_p_bin (pc := 232) (i := .ior) (f := gm_or) (by decide +kernel) rfl) ?_
    refine gm_sz (gm_p_stor (pc := 233) (i := .istore 6) (sr := 0) (j := 6) (by decide +kernel) rfl (show 7 ≤ _ from Nat.le_of_ble_eq_true rfl) rfl) ?_
    show gm_Wp X LX d _ _ 41 235 [some (gm_vr 246), some (gm_vi b), some (gm_vi e), some (gm_vr 204), some (gm_vi b), some (gm_vi e), some (gm_vi (gm_or (gm_shl t 1) 0)), some (gm_vi l), some (gm_vi s), some (gm_vi i), some (gm_vi (C i)), some (gm_vi ((-2) - (C i))), some (gm_vi 0), some (gm_vi 0)] [] n K _ _ Q
    refine gm_sz (gm_p_const (pc := 235) (i := .iconst 0) (v := gm_vi 0) (by decide +kernel) (by decide +kernel)) ?_
    refine gm_sz (gm_p_stor (pc := 236) (i := .istore 8) (sr := 0) (j := 8) (by decide +kernel) rfl (show 9 ≤ _ from Nat.le_of_ble_eq_true rfl) rfl) ?_
    show gm_Wp X LX d _ _ 41 238 [some (gm_vr 246), some (gm_vi b), some (gm_vi e), some (gm_vr 204), some (gm_vi b), some (gm_vi e), some (gm_vi (gm_or (gm_shl t 1) 0)), some (gm_vi l), some (gm_vi 0), some (gm_vi i), some (gm_vi (C i)), some (gm_vi ((-2) - (C i))), some (gm_vi 0), some (gm_vi 0)] [] n K _ _ Q
    refine gm_sz (gm_p_goto (pc := 238) (off := 52) (by decide +kernel) (by decide)) ?_
    refine gm_sz (gm_p_iinc (pc := 290) (j := 9) (z := 1) (by decide +kernel) rfl) ?_
    refine gm_sz (gm_p_goto (pc := 293) (off := (-238)) (by decide +kernel) (by decide)) ?_
    rw [if_neg (by omega)] at hq
    exact hq _ _ _ _
  · have h208 : ¬ gm_w l ≤ gm_w s := h208
    refine gm_sz (gm_p_const (pc := 211) (i := .iconst 1) (v := gm_vi 1) (by decide +kernel) (by decide +kernel)) ?_
    refine gm_sz (gm_p_goto (pc := 212) (off := 4) (by decide +kernel) (by decide)) ?_
    refine gm_sz (gm_p_stor (pc := 216) (i := .istore 13) (sr := 0) (j := 13) (by decide +kernel) rfl (show 14 ≤ _ from Nat.le_of_ble_eq_true rfl) rfl) ?_
    show gm_Wp X LX d _ _ 41 218 [some (gm_vr 246), some (gm_vi b), some (gm_vi e), some (gm_vr 204), some (gm_vi b), some (gm_vi e), some (gm_vi t), some (gm_vi l), some (gm_vi s), some (gm_vi i), some (gm_vi (C i)), some (gm_vi ((-2) - (C i))), some (gm_vi 0), some (gm_vi 1)] [] n K _ _ Q
    refine gm_sz (gm_p_load (pc := 218) (i := .iload 6) (sr := 0) (j := 6) (by decide +kernel) rfl rfl rfl) ?_
    refine gm_sz (gm_p_const (pc := 220) (i := .iconst 1) (v := gm_vi 1) (by decide +kernel) (by decide +kernel)) ?_
    refine gm_sz (gm_p_bin (pc := 221) (i := .ishl) (f := gm_shl) (by decide +kernel) rfl) ?_
    refine gm_sz (gm_p_load (pc := 222) (i := .iload 13) (sr := 0) (j := 13) (by decide +kernel) rfl rfl rfl) ?_
    refine fw_iffd (cc := .eq) (pc := 224) (off := 7) (by decide +kernel) (by decide) ⟨by decide, by decide⟩ (by decide) ?_
    refine gm_sz (gm_p_const (pc := 227) (i := .iconst 1) (v := gm_vi 1) (by decide +kernel) (by decide +kernel)) ?_
    refine gm_sz (gm_p_goto (pc := 228) (off := 4) (by decide +kernel) (by decide)) ?_
    refine gm_sz (gm_p_bin (pc := 232) (i := .ior) (f := gm_or) (by decide +kernel) rfl) ?_
    refine gm_sz (gm_p_stor (pc := 233) (i := .istore 6) (sr := 0) (j := 6) (by decide +kernel) rfl (show 7 ≤ _ from Nat.le_of_ble_eq_true rfl) rfl) ?_
    show gm_Wp X LX d _ _ 41 235 [some (gm_vr 246), some (gm_vi b), some (gm_vi e), some (gm_vr 204), some (gm_vi b), some (gm_vi e), some (gm_vi (gm_or (gm_shl t 1) 1)), some (gm_vi l), some (gm_vi s), some (gm_vi i), some (gm_vi (C i)), some (gm_vi ((-2) - (C i))), some (gm_vi 0), some (gm_vi 1)] [] n K _ _ Q
    refine gm_sz (gm_p_const (pc := 235) (i := .iconst 0) (v := gm_vi 0) (by decide +kernel) (by decide +kernel)) ?_
    refine gm_sz (gm_p_stor (pc := 236) (i := .istore 8) (sr := 0) (j := 8) (by decide +kernel) rfl (show 9 ≤ _ from Nat.le_of_ble_eq_true rfl) rfl) ?_
    show gm_Wp X LX d _ _ 41 238 [some (gm_vr 246), some (gm_vi b), some (gm_vi e), some (gm_vr 204), some (gm_vi b), some (gm_vi e), some (gm_vi (gm_or (gm_shl t 1) 1)), some (gm_vi l), some (gm_vi 0), some (gm_vi i), some (gm_vi (C i)), some (gm_vi ((-2) - (C i))), some (gm_vi 0), some (gm_vi 1)] [] n K _ _ Q
    refine gm_sz (gm_p_goto (pc := 238) (off := 52) (by decide +kernel) (by decide)) ?_
    refine gm_sz (gm_p_iinc (pc := 290) (j := 9) (z := 1) (by decide +kernel) rfl) ?_
    refine gm_sz (gm_p_goto (pc := 293) (off := (-238)) (by decide +kernel) (by decide)) ?_
    rw [if_pos (by omega)] at hq
    exact hq _ _ _ _
theorem ho_w7 (hE : E0 n K R) (hL : LE n K R NC) (hM : LM NC M) (hF : ∀ j : Int, 0 ≤ j → j < 10 → M 204 j = F j) (hC9 : ∀ j, M 247 j = C j) (h0 : 0 ≤ i ∧ i < (NC : Int)) (hA : C i = -15) {t l s : Int} {z10 z11 z12 z13 : Option gm_V} (hq : ∀ z10 z11 z12 z13 : Option gm_V, gm_Wp X LX d bc bs 41 55 [some (gm_vr 246), some (gm_vi b), some (gm_vi e), some (gm_vr 204), some (gm_vi b), some (gm_vi e), some (gm_vi (gm_xor t 1)), some (gm_vi (l)), some (gm_vi (s)), some (gm_vi (i + 1)), z10, z11, z12, z13] [] n K R M Q) (hie : i < e) (heb : e ≤ (NC : Int)) : gm_Wp X LX d bc bs 41 55 [some (gm_vr 246), some (gm_vi b), some (gm_vi e), some (gm_vr 204), some (gm_vi b), some (gm_vi e), some (gm_vi t), some (gm_vi l), some (gm_vi s), some (gm_vi i), z10, z11, z12, z13] [] n K R M Q := by
  have hNC := hL.2.2
  refine gm_sz (gm_p_load (pc := 55) (i := .iload 9) (sr := 0) (j := 9) (by decide +kernel) rfl rfl rfl) ?_
  refine gm_sz (gm_p_load (pc := 57) (i := .iload 5) (sr := 0) (j := 5) (by decide +kernel) rfl rfl rfl) ?_
  refine fw_icf (cc := .ge) (pc := 59) (off := 237) (by decide +kernel) (by decide) ⟨by omega, by omega⟩ ⟨by omega, by omega⟩ (show ¬ e ≤ i by omega) ?_
  refine gm_sz (gm_p_load (pc := 62) (i := .aload_n 0) (sr := 2) (j := 0) (by decide +kernel) rfl rfl rfl) ?_
  refine gm_sz (fw_gr (pc := 63) (ix := 22) (ci := 10) (j := 1) (r := 247) (by decide +kernel) (lk6 hL) (by decide +kernel) (by decide +kernel) hL.2.1.2.1) ?_
  refine gm_sz (gm_p_load (pc := 66) (i := .iload 9) (sr := 0) (j := 9) (by decide +kernel) rfl rfl rfl) ?_
  refine gm_sz (fw_ia (pc := 68) (k := 247) (len := NC) (e0 := i) (x := C i) (by decide +kernel) (lk7 hL).1 (lk7 hL).2 (by omega) ⟨by omega, by omega⟩ (hC9 _)) ?_
  refine gm_sz (gm_p_stor (pc := 69) (i := .istore 10) (sr := 0) (j := 10) (by decide +kernel) rfl (show 11 ≤ _ from Nat.le_of_ble_eq_true rfl) rfl) ?_
  show gm_Wp X LX d _ _ 41 71 [some (gm_vr 246), some (gm_vi b), some (gm_vi e), some (gm_vr 204), some (gm_vi b), some (gm_vi e), some (gm_vi t), some (gm_vi l), some (gm_vi s), some (gm_vi i), some (gm_vi (C i)), z11, z12, z13] [] n K _ _ Q
  refine gm_sz (gm_p_const (pc := 71) (i := .bipush (-2)) (v := gm_vi (-2)) (by decide +kernel) (by decide +kernel)) ?_
  refine gm_sz (gm_p_load (pc := 73) (i := .iload 10) (sr := 0) (j := 10) (by decide +kernel) rfl rfl rfl) ?_
  refine gm_sz (gm_p_bin (pc := 75) (i := .isub) (f := fun x y => x - y) (by decide +kernel) rfl) ?_
  refine gm_sz (gm_p_stor (pc := 76) (i := .istore 11) (sr := 0) (j := 11) (by decide +kernel) rfl (show 12 ≤ _ from Nat.le_of_ble_eq_true rfl) rfl) ?_
  show gm_Wp X LX d _ _ 41 78 [some (gm_vr 246), some (gm_vi b), some (gm_vi e), some (gm_vr 204), some (gm_vi b), some (gm_vi e), some (gm_vi t), some (gm_vi l), some (gm_vi s), some (gm_vi i), some (gm_vi (C i)), some (gm_vi ((-2) - (C i))), z12, z13] [] n K _ _ Q
  refine gm_sz (gm_p_load (pc := 78) (i := .iload 11) (sr := 0) (j := 11) (by decide +kernel) rfl rfl rfl) ?_
  refine fw_iff (cc := .lt) (pc := 80) (off := 17) (by decide +kernel) (by decide) ⟨by omega, by omega⟩ (show ¬ ((-2) - (C i)) < 0 by omega) ?_
  refine gm_sz (gm_p_load (pc := 83) (i := .iload 11) (sr := 0) (j := 11) (by decide +kernel) rfl rfl rfl) ?_
  refine gm_sz (gm_p_load (pc := 85) (i := .aload_n 3) (sr := 2) (j := 3) (by decide +kernel) rfl rfl rfl) ?_
  refine gm_sz (fw_al (pc := 86) (k := 204) (len := 10) (by decide +kernel) (e0a hE (k := 204) (q := ((0 : Nat), (10 : Nat))) (by decide +kernel)).1 (e0a hE (k := 204) (q := ((0 : Nat), (10 : Nat))) (by decide +kernel)).2 (by decide)) ?_
  refine fw_ict (cc := .ge) (pc := 87) (off := 10) (by decide +kernel) (by decide) ⟨by omega, by omega⟩ ⟨by decide, by decide⟩ (show 10 ≤ ((-2) - (C i)) by omega) ?_
  refine gm_sz (gm_p_const (pc := 97) (i := .iconst 0) (v := gm_vi 0) (by decide +kernel) (by decide +kernel)) ?_
  refine gm_sz (gm_p_stor (pc := 98) (i := .istore 12) (sr := 0) (j := 12) (by decide +kernel) rfl (show 13 ≤ _ from Nat.le_of_ble_eq_true rfl) rfl) ?_
  show gm_Wp X LX d _ _ 41 100 [some (gm_vr 246), some (gm_vi b), some (gm_vi e), some (gm_vr 204), some (gm_vi b), some (gm_vi e), some (gm_vi t), some (gm_vi l), some (gm_vi s), some (gm_vi i), some (gm_vi (C i)), some (gm_vi ((-2) - (C i))), some (gm_vi 0), z13] [] n K _ _ Q
  refine gm_sz (gm_p_load (pc := 100) (i := .iload 10) (sr := 0) (j := 10) (by decide +kernel) rfl rfl rfl) ?_
  refine fw_ift (cc := .lt) (pc := 102) (off := 13) (by decide +kernel) (by decide) ⟨by omega, by omega⟩ (show (C i) < 0 by omega) ?_
  refine gm_sz (gm_p_load (pc := 115) (i := .iload 10) (sr := 0) (j := 10) (by decide +kernel) rfl rfl rfl) ?_
  refine gm_sz (gm_p_const (pc := 117) (i := .bipush (-10)) (v := gm_vi (-10)) (by decide +kernel) (by decide +kernel)) ?_
  refine fw_ict (cc := .le) (pc := 119) (off := 13) (by decide +kernel) (by decide) ⟨by omega, by omega⟩ ⟨by decide, by decide⟩ (show (C i) ≤ (-10) by omega) ?_
  refine gm_sz (gm_p_load (pc := 132) (i := .iload 10) (sr := 0) (j := 10) (by decide +kernel) rfl rfl rfl) ?_
  refine gm_sz (gm_p_const (pc := 134) (i := .bipush (-11)) (v := gm_vi (-11)) (by decide +kernel) (by decide +kernel)) ?_
  refine fw_ict (cc := .lt) (pc := 136) (off := 15) (by decide +kernel) (by decide) ⟨by omega, by omega⟩ ⟨by decide, by decide⟩ (show (C i) < (-11) by omega) ?_
  refine gm_sz (gm_p_load (pc := 151) (i := .iload 10) (sr := 0) (j := 10) (by decide +kernel) rfl rfl rfl) ?_
  refine gm_sz (gm_p_const (pc := 153) (i := .bipush (-12)) (v := gm_vi (-12)) (by decide +kernel) (by decide +kernel)) ?_
  refine fw_ict (cc := .ne) (pc := 155) (off := 13) (by decide +kernel) (by decide) ⟨by omega, by omega⟩ ⟨by decide, by decide⟩ (show ¬ (C i) = (-12) by omega) ?_
  refine gm_sz (gm_p_load (pc := 168) (i := .iload 10) (sr := 0) (j := 10) (by decide +kernel) rfl rfl rfl) ?_
  refine gm_sz (gm_p_const (pc := 170) (i := .bipush (-13)) (v := gm_vi (-13)) (by decide +kernel) (by decide +kernel)) ?_
  refine fw_icf (cc := .eq) (pc := 172) (off := 10) (by decide +kernel) (by decide) ⟨by omega, by omega⟩ ⟨by decide, by decide⟩ (show ¬ (C i) = (-13) by omega) ?_
  refine gm_sz (gm_p_load (pc := 175) (i := .iload 10) (sr := 0) (j := 10) (by decide +kernel) rfl rfl rfl) ?_
  refine gm_sz (gm_p_const (pc := 177) (i := .bipush (-14)) (v := gm_vi (-14)) (by decide +kernel) (by decide +kernel)) ?_
  refine fw_ict (cc := .ne) (pc := 179) (off := 62) (by decide +kernel) (by decide) ⟨by omega, by omega⟩ ⟨by decide, by decide⟩ (show ¬ (C i) = (-14) by omega) ?_
  refine gm_sz (gm_p_load (pc := 241) (i := .iload 10) (sr := 0) (j := 10) (by decide +kernel) rfl rfl rfl) ?_
  refine gm_sz (gm_p_const (pc := 243) (i := .bipush (-15)) (v := gm_vi (-15)) (by decide +kernel) (by decide +kernel)) ?_
  refine fw_icf (cc := .ne) (pc := 245) (off := 12) (by decide +kernel) (by decide) ⟨by omega, by omega⟩ ⟨by decide, by decide⟩ (show ¬ ¬ (C i) = (-15) by omega) ?_
  refine gm_sz (gm_p_load (pc := 248) (i := .iload 6) (sr := 0) (j := 6) (by decide +kernel) rfl rfl rfl) ?_
  refine gm_sz (gm_p_const (pc := 250) (i := .iconst 1) (v := gm_vi 1) (by decide +kernel) (by decide +kernel)) ?_
  refine gm_sz (gm_p_bin (pc := 251) (i := .ixor) (f := gm_xor) (by decide +kernel) rfl) ?_
  refine gm_sz (gm_p_stor (pc := 252) (i := .istore 6) (sr := 0) (j := 6) (by decide +kernel) rfl (show 7 ≤ _ from Nat.le_of_ble_eq_true rfl) rfl) ?_
  show gm_Wp X LX d _ _ 41 254 [some (gm_vr 246), some (gm_vi b), some (gm_vi e), some (gm_vr 204), some (gm_vi b), some (gm_vi e), some (gm_vi (gm_xor t 1)), some (gm_vi l), some (gm_vi s), some (gm_vi i), some (gm_vi (C i)), some (gm_vi ((-2) - (C i))), some (gm_vi 0), z13] [] n K _ _ Q
  refine gm_sz (gm_p_goto (pc := 254) (off := 36) (by decide +kernel) (by decide)) ?_
  refine gm_sz (gm_p_iinc (pc := 290) (j := 9) (z := 1) (by decide +kernel) rfl) ?_
  refine gm_sz (gm_p_goto (pc := 293) (off := (-238)) (by decide +kernel) (by decide)) ?_
  exact hq _ _ _ _
theorem ho_w8 (hE : E0 n K R) (hL : LE n K R NC) (hM : LM NC M) (hF : ∀ j : Int, 0 ≤ j → j < 10 → M 204 j = F j) (hC9 : ∀ j, M 247 j = C j) (h0 : 0 ≤ i ∧ i < (NC : Int)) (hA : C i = -16) {t l s : Int} {z10 z11 z12 z13 : Option gm_V} (hq : ∀ z10 z11 z12 z13 : Option gm_V, gm_Wp X LX d bc bs 41 55 [some (gm_vr 246), some (gm_vi b), some (gm_vi e), some (gm_vr 204), some (gm_vi b), some (gm_vi e), some (gm_vi (gm_and (gm_shr t 1) (gm_or t (-2)))), some (gm_vi (l)), some (gm_vi (s)), some (gm_vi (i + 1)), z10, z11, z12, z13] [] n K R M Q) (hie : i < e) (heb : e ≤ (NC : Int)) : gm_Wp X LX d bc bs 41 55 [some (gm_vr 246), some (gm_vi b), some (gm_vi e), some (gm_vr 204), some (gm_vi b), some (gm_vi e), some (gm_vi t), some (gm_vi l), some (gm_vi s), some (gm_vi i), z10, z11, z12, z13] [] n K R M Q := by
  have hNC := hL.2.2
  refine gm_sz (gm_p_load (pc := 55) (i := .iload 9) (sr := 0) (j := 9) (by decide +kernel) rfl rfl rfl) ?_
  refine gm_sz (gm_p_load (pc := 57) (i := .iload 5) (sr := 0) (j := 5) (by decide +kernel) rfl rfl rfl) ?_
  refine fw_icf (cc := .ge) (pc := 59) (off := 237) (by decide +kernel) (by decide) ⟨by omega, by omega⟩ ⟨by omega, by omega⟩ (show ¬ e ≤ i by omega) ?_
  refine gm_sz (gm_p_load (pc := 62) (i := .aload_n 0) (sr := 2) (j := 0) (by decide +kernel) rfl rfl rfl) ?_
  refine gm_sz (fw_gr (pc := 63) (ix := 22) (ci := 10) (j := 1) (r := 247) (by decide +kernel) (lk6 hL) (by decide +kernel) (by decide +kernel) hL.2.1.2.1) ?_
  refine gm_sz (gm_p_load (pc := 66) (i := .iload 9) (sr := 0) (j := 9) (by decide +kernel) rfl rfl rfl) ?_
  refine gm_sz (fw_ia (pc := 68) (k := 247) (len := NC) (e0 := i) (x := C i) (by decide +kernel) (lk7 hL).1 (lk7 hL).2 (by omega) ⟨by omega, by omega⟩ (hC9 _)) ?_
  refine gm_sz (gm_p_stor (pc := 69) (i := .istore 10) (sr := 0) (j := 10) (by decide +kernel) rfl (show 11 ≤ _ from Nat.le_of_ble_eq_true rfl) rfl) ?_
  show gm_Wp X LX d _ _ 41 71 [some (gm_vr 246), some (gm_vi b), some (gm_vi e), some (gm_vr 204), some (gm_vi b), some (gm_vi e), some (gm_vi t), some (gm_vi l), some (gm_vi s), some (gm_vi i), some (gm_vi (C i)), z11, z12, z13] [] n K _ _ Q
  refine gm_sz (gm_p_const (pc := 71) (i := .bipush (-2)) (v := gm_vi (-2)) (by decide +kernel) (by decide +kernel)) ?_
  refine gm_sz (gm_p_load (pc := 73) (i := .iload 10) (sr := 0) (j := 10) (by decide +kernel) rfl rfl rfl) ?_
  refine gm_sz (gm_p_bin (pc := 75) (i := .isub) (f := fun x y => x - y) (by decide +kernel) rfl) ?_
  refine gm_sz (gm_p_stor (pc := 76) (i := .istore 11) (sr := 0) (j := 11) (by decide +kernel) rfl (show 12 ≤ _ from Nat.le_of_ble_eq_true rfl) rfl) ?_
  show gm_Wp X LX d _ _ 41 78 [some (gm_vr 246), some (gm_vi b), some (gm_vi e), some (gm_vr 204), some (gm_vi b), some (gm_vi e), some (gm_vi t), some (gm_vi l), some (gm_vi s), some (gm_vi i), some (gm_vi (C i)), some (gm_vi ((-2) - (C i))), z12, z13] [] n K _ _ Q
  refine gm_sz (gm_p_load (pc := 78) (i := .iload 11) (sr := 0) (j := 11) (by decide +kernel) rfl rfl rfl) ?_
  refine fw_iff (cc := .lt) (pc := 80) (off := 17) (by decide +kernel) (by decide) ⟨by omega, by omega⟩ (show ¬ ((-2) - (C i)) < 0 by omega) ?_
  refine gm_sz (gm_p_load (pc := 83) (i := .iload 11) (sr := 0) (j := 11) (by decide +kernel) rfl rfl rfl) ?_
  refine gm_sz (gm_p_load (pc := 85) (i := .aload_n 3) (sr := 2) (j := 3) (by decide +kernel) rfl rfl rfl) ?_
  refine gm_sz (fw_al (pc := 86) (k := 204) (len := 10) (by decide +kernel) (e0a hE (k := 204) (q := ((0 : Nat), (10 : Nat))) (by decide +kernel)).1 (e0a hE (k := 204) (q := ((0 : Nat), (10 : Nat))) (by decide +kernel)).2 (by decide)) ?_
  refine fw_ict (cc := .ge) (pc := 87) (off := 10) (by decide +kernel) (by decide) ⟨by omega, by omega⟩ ⟨by decide, by decide⟩ (show 10 ≤ ((-2) - (C i)) by omega) ?_
  refine gm_sz (gm_p_const (pc := 97) (i := .iconst 0) (v := gm_vi 0) (by decide +kernel) (by decide +kernel)) ?_
  refine gm_sz (gm_p_stor (pc := 98) (i := .istore 12) (sr := 0) (j := 12) (by decide +kernel) rfl (show 13 ≤ _ from Nat.le_of_ble_eq_true rfl) rfl) ?_
  show gm_Wp X LX d _ _ 41 100 [some (gm_vr 246), some (gm_vi b), some (gm_vi e), some (gm_vr 204), some (gm_vi b), some (gm_vi e), some (gm_vi t), some (gm_vi l), some (gm_vi s), some (gm_vi i), some (gm_vi (C i)), some (gm_vi ((-2) - (C i))), some (gm_vi 0), z13] [] n K _ _ Q
  refine gm_sz (gm_p_load (pc := 100) (i := .iload 10) (sr := 0) (j := 10) (by decide +kernel) rfl rfl rfl) ?_
  refine fw_ift (cc := .lt) (pc := 102) (off := 13) (by decide +kernel) (by decide) ⟨by omega, by omega⟩ (show (C i) < 0 by omega) ?_
  refine gm_sz (gm_p_load (pc := 115) (i := .iload 10) (sr := 0) (j := 10) (by decide +kernel) rfl rfl rfl) ?_
  refine gm_sz (gm_p_const (pc := 117) (i := .bipush (-10)) (v := gm_vi (-10)) (by decide +kernel) (by decide +kernel)) ?_
  refine fw_ict (cc := .le) (pc := 119) (off := 13) (by decide +kernel) (by decide) ⟨by omega, by omega⟩ ⟨by decide, by decide⟩ (show (C i) ≤ (-10) by omega) ?_
  refine gm_sz (gm_p_load (pc := 132) (i := .iload 10) (sr := 0) (j := 10) (by decide +kernel) rfl rfl rfl) ?_
  refine gm_sz (gm_p_const (pc := 134) (i := .bipush (-11)) (v := gm_vi (-11)) (by decide +kernel) (by decide +kernel)) ?_
  refine fw_ict (cc := .lt) (pc := 136) (off := 15) (by decide +kernel) (by decide) ⟨by omega, by omega⟩ ⟨by decide, by decide⟩ (show (C i) < (-11) by omega) ?_
  refine gm_sz (gm_p_load (pc := 151) (i := .iload 10) (sr := 0) (j := 10) (by decide +kernel) rfl rfl rfl) ?_
  refine gm_sz (gm_p_const (pc := 153) (i := .bipush (-12)) (v := gm_vi (-12)) (by decide +kernel) (by decide +kernel)) ?_
  refine fw_ict (cc := .ne) (pc := 155) (off := 13) (by decide +kernel) (by decide) ⟨by omega, by omega⟩ ⟨by decide, by decide⟩ (show ¬ (C i) = (-12) by omega) ?_
  refine gm_sz (gm_p_load (pc := 168) (i := .iload 10) (sr := 0) (j := 10) (by decide +kernel) rfl rfl rfl) ?_
  refine gm_sz (gm_p_const (pc := 170) (i := .bipush (-13)) (v := gm_vi (-13)) (by decide +kernel) (by decide +kernel)) ?_
  refine fw_icf (cc := .eq) (pc := 172) (off := 10) (by decide +kernel) (by decide) ⟨by omega, by omega⟩ ⟨by decide, by decide⟩ (show ¬ (C i) = (-13) by omega) ?_
  refine gm_sz (gm_p_load (pc := 175) (i := .iload 10) (sr := 0) (j := 10) (by decide +kernel) rfl rfl rfl) ?_
  refine gm_sz (gm_p_const (pc := 177) (i := .bipush (-14)) (v := gm_vi (-14)) (by decide +kernel) (by decide +kernel)) ?_
  refine fw_ict (cc := .ne) (pc := 179) (off := 62) (by decide +kernel) (by decide) ⟨by omega, by omega⟩ ⟨by decide, by decide⟩ (show ¬ (C i) = (-14) by omega) ?_
  refine gm_sz (gm_p_load (pc := 241) (i := .iload 10) (sr := 0) (j := 10) (by decide +kernel) rfl rfl rfl) ?_
  refine gm_sz (gm_p_const (pc := 243) (i := .bipush (-15)) (v := gm_vi (-15)) (by decide +kernel) (by decide +kernel)) ?_
  refine fw_ict (cc := .ne) (pc := 245) (off := 12) (by decide +kernel) (by decide) ⟨by omega, by omega⟩ ⟨by decide, by decide⟩ (show ¬ (C i) = (-15) by omega) ?_
  refine gm_sz (gm_p_load (pc := 257) (i := .iload 10) (sr := 0) (j := 10) (by decide +kernel) rfl rfl rfl) ?_
  refine gm_sz (gm_p_const (pc := 259) (i := .bipush (-16)) (v := gm_vi (-16)) (by decide +kernel) (by decide +kernel)) ?_
  refine fw_icf (cc := .ne) (pc := 261) (off := 18) (by decide +kernel) (by decide) ⟨by omega, by omega⟩ ⟨by decide, by decide⟩ (show ¬ ¬ (C i) = (-16) by omega) ?_
  refine gm_sz (gm_p_load (pc := 264) (i := .iload 6) (sr := 0) (j := 6) (by decide +kernel) rfl rfl rfl) ?_
  refine gm_sz (gm_p_const (pc := 266) (i := .iconst 1) (v := gm_vi 1) (by decide +kernel) (by decide +kernel)) ?_
  refine gm_sz (gm_p_bin (pc := 267) (i := .ishr) (f := gm_shr) (by decide +kernel) rfl) ?_
  refine gm_sz (gm_p_load (pc := 268) (i := .iload 6) (sr := 0) (j := 6) (by decide +kernel) rfl rfl rfl) ?_
  refine gm_sz (gm_p_const (pc := 270) (i := .bipush (-2)) (v := gm_vi (-2)) (by decide +kernel) (by decide +kernel)) ?_
  refine gm_sz (gm_p_bin (pc := 272) (i := .ior) (f := gm_or) (by decide +kernel) rfl) ?_
  refine gm_sz (gm_p_bin (pc := 273) (i := .iand) (f := gm_and) (by decide +kernel) rfl) ?_
  refine gm_sz (gm_p_stor (pc := 274) (i := .istore 6) (sr := 0) (j := 6) (by decide +kernel) rfl (show 7 ≤ _ from Nat.le_of_ble_eq_true rfl) rfl) ?_
  show gm_Wp X LX d _ _ 41 276 [some (gm_vr 246), some (gm_vi b), some (gm_vi e), some (gm_vr 204), some (gm_vi b), some (gm_vi e), some (gm_vi (gm_and (gm_shr t 1) (gm_or t (-2)))), some (gm_vi l), some (gm_vi s), some (gm_vi i), some (gm_vi (C i)), some (gm_vi ((-2) - (C i))), some (gm_vi 0), z13] [] n K _ _ Q
  refine gm_sz (gm_p_goto (pc := 276) (off := 14) (by decide +kernel) (by decide)) ?_
  refine gm_sz (gm_p_iinc (pc := 290) (j := 9) (z := 1) (by decide +kernel) rfl) ?_
  refine gm_sz (gm_p_goto (pc := 293) (off := (-238)) (by decide +kernel) (by decide)) ?_
  exact hq _ _ _ _
theorem ho_w9 (hE : E0 n K R) (hL : LE n K R NC) (hM : LM NC M) (hF : ∀ j : Int, 0 ≤ j → j < 10 → M 204 j = F j) (hC9 : ∀ j, M 247 j = C j) (h0 : 0 ≤ i ∧ i < (NC : Int)) (hA : C i = -17) {t l s : Int} {z10 z11 z12 z13 : Option gm_V} (hq : ∀ z10 z11 z12 z13 : Option gm_V, gm_Wp X LX d bc bs 41 55 [some (gm_vr 246), some (gm_vi b), some (gm_vi e), some (gm_vr 204), some (gm_vi b), some (gm_vi e), some (gm_vi (gm_or (gm_shr t 1) (gm_and t 1))), some (gm_vi (l)), some (gm_vi (s)), some (gm_vi (i + 1)), z10, z11, z12, z13] [] n K R M Q) (hie : i < e) (heb : e ≤ (NC : Int)) : gm_Wp X LX d bc bs 41 55 [some (gm_vr 246), some (gm_vi b), some (gm_vi e), some (gm_vr 204), some (gm_vi b), some (gm_vi e), some (gm_vi t), some (gm_vi l), some (gm_vi s), some (gm_vi i), z10, z11, z12, z13] [] n K R M Q := by
  have hNC := hL.2.2
  refine gm_sz (gm_p_load (pc := 55) (i := .iload 9) (sr := 0) (j := 9) (by decide +kernel) rfl rfl rfl) ?_
  refine gm_sz (gm_p_load (pc := 57) (i := .iload 5) (sr := 0) (j := 5) (by decide +kernel) rfl rfl rfl) ?_
  refine fw_icf (cc := .ge) (pc := 59) (off := 237) (by decide +kernel) (by decide) ⟨by omega, by omega⟩ ⟨by omega, by omega⟩ (show ¬ e ≤ i by omega) ?_
  refine gm_sz (gm_p_load (pc := 62) (i := .aload_n 0) (sr := 2) (j := 0) (by decide +kernel) rfl rfl rfl) ?_
  refine gm_sz (fw_gr (pc := 63) (ix := 22) (ci := 10) (j := 1) (r := 247) (by decide +kernel) (lk6 hL) (by decide +kernel) (by decide +kernel) hL.2.1.2.1) ?_
  refine gm_sz (gm_p_load (pc := 66) (i := .iload 9) (sr := 0) (j := 9) (by decide +kernel) rfl rfl rfl) ?_
  refine gm_sz (fw_ia (pc := 68) (k := 247) (len := NC) (e0 := i) (x := C i) (by decide +kernel) (lk7 hL).1 (lk7 hL).2 (by omega) ⟨by omega, by omega⟩ (hC9 _)) ?_
  refine gm_sz (gm_p_stor (pc := 69) (i := .istore 10) (sr := 0) (j := 10) (by decide +kernel) rfl (show 11 ≤ _ from Nat.le_of_ble_eq_true rfl) rfl) ?_
  show gm_Wp X LX d _ _ 41 71 [some (gm_vr 246), some (gm_vi b), some (gm_vi e), some (gm_vr 204), some (gm_vi b), some (gm_vi e), some (gm_vi t), some (gm_vi l), some (gm_vi s), some (gm_vi i), some (gm_vi (C i)), z11, z12, z13] [] n K _ _ Q
  refine gm_sz (gm_p_const (pc := 71) (i := .bipush (-2)) (v := gm_vi (-2)) (by decide +kernel) (by decide +kernel)) ?_
  refine gm_sz (gm_p_load (pc := 73) (i := .iload 10) (sr := 0) (j := 10) (by decide +kernel) rfl rfl rfl) ?_
  refine gm_sz (gm_p_bin (pc := 75) (i := .isub) (f := fun x y => x - y) (by decide +kernel) rfl) ?_
  refine gm_sz (gm_p_stor (pc := 76) (i := .istore 11) (sr := 0) (j := 11) (by decide +kernel) rfl (show 12 ≤ _ from Nat.le_of_ble_eq_true rfl) rfl) ?_
  show gm_Wp X LX d _ _ 41 78 [some (gm_vr 246), some (gm_vi b), some (gm_vi e), some (gm_vr 204), some (gm_vi b), some (gm_vi e), some (gm_vi t), some (gm_vi l), some (gm_vi s), some (gm_vi i), some (gm_vi (C i)), some (gm_vi ((-2) - (C i))), z12, z13] [] n K _ _ Q
  refine gm_sz (gm_p_load (pc := 78) (i := .iload 11) (sr := 0) (j := 11) (by decide +kernel) rfl rfl rfl) ?_
  refine fw_iff (cc := .lt) (pc := 80) (off := 17) (by decide +kernel) (by decide) ⟨by omega, by omega⟩ (show ¬ ((-2) - (C i)) < 0 by omega) ?_
  refine gm_sz (gm_p_load (pc := 83) (i := .iload 11) (sr := 0) (j := 11) (by decide +kernel) rfl rfl rfl) ?_
  refine gm_sz (gm_p_load (pc := 85) (i := .aload_n 3) (sr := 2) (j := 3) (by decide +kernel) rfl rfl rfl) ?_
  refine gm_sz (fw_al (pc := 86) (k := 204) (len := 10) (by decide +kernel) (e0a hE (k := 204) (q := ((0 : Nat), (10 : Nat))) (by decide +kernel)).1 (e0a hE (k := 204) (q := ((0 : Nat), (10 : Nat))) (by decide +kernel)).2 (by decide)) ?_
  refine fw_ict (cc := .ge) (pc := 87) (off := 10) (by decide +kernel) (by decide) ⟨by omega, by omega⟩ ⟨by decide, by decide⟩ (show 10 ≤ ((-2) - (C i)) by omega) ?_
  refine gm_sz (gm_p_const (pc := 97) (i := .iconst 0) (v := gm_vi 0) (by decide +kernel) (by decide +kernel)) ?_
  refine gm_sz (gm_p_stor (pc := 98) (i := .istore 12) (sr := 0) (j := 12) (by decide +kernel) rfl (show 13 ≤ _ from Nat.le_of_ble_eq_true rfl) rfl) ?_
  show gm_Wp X LX d _ _ 41 100 [some (gm_vr 246), some (gm_vi b), some (gm_vi e), some (gm_vr 204), some (gm_vi b), some (gm_vi e), some (gm_vi t), some (gm_vi l), some (gm_vi s), some (gm_vi i), some (gm_vi (C i)), some (gm_vi ((-2) - (C i))), some (gm_vi 0), z13] [] n K _ _ Q
  refine gm_sz (gm_p_load (pc := 100) (i := .iload 10) (sr := 0) (j := 10) (by decide +kernel) rfl rfl rfl) ?_
  refine fw_ift (cc := .lt) (pc := 102) (off := 13) (by decide +kernel) (by decide) ⟨by omega, by omega⟩ (show (C i) < 0 by omega) ?_
  refine gm_sz (gm_p_load (pc := 115) (i := .iload 10) (sr := 0) (j := 10) (by decide +kernel) rfl rfl rfl) ?_
  refine gm_sz (gm_p_const (pc := 117) (i := .bipush (-10)) (v := gm_vi (-10)) (by decide +kernel) (by decide +kernel)) ?_
  refine fw_ict (cc := .le) (pc := 119) (off := 13) (by decide +kernel) (by decide) ⟨by omega, by omega⟩ ⟨by decide, by decide⟩ (show (C i) ≤ (-10) by omega) ?_
  refine gm_sz (gm_p_load (pc := 132) (i := .iload 10) (sr := 0) (j := 10) (by decide +kernel) rfl rfl rfl) ?_
  refine gm_sz (gm_p_const (pc := 134) (i := .bipush (-11)) (v := gm_vi (-11)) (by decide +kernel) (by decide +kernel)) ?_
  refine fw_ict (cc := .lt) (pc := 136) (off := 15) (by decide +kernel) (by decide) ⟨by omega, by omega⟩ ⟨by decide, by decide⟩ (show (C i) < (-11) by omega) ?_
  refine gm_sz (gm_p_load (pc := 151) (i := .iload 10) (sr := 0) (j := 10) (by decide +kernel) rfl rfl rfl) ?_
  refine gm_sz (gm_p_const (pc := 153) (i := .bipush (-12)) (v := gm_vi (-12)) (by decide +kernel) (by decide +kernel)) ?_
  refine fw_ict (cc := .ne) (pc := 155) (off := 13) (by decide +kernel) (by decide) ⟨by omega, by omega⟩ ⟨by decide, by decide⟩ (show ¬ (C i) = (-12) by omega) ?_
  refine gm_sz (gm_p_load (pc := 168) (i := .iload 10) (sr := 0) (j := 10) (by decide +kernel) rfl rfl rfl) ?_
  refine gm_sz (gm_p_const (pc := 170) (i := .bipush (-13)) (v := gm_vi (-13)) (by decide +kernel) (by decide +kernel)) ?_
  refine fw_icf (cc := .eq) (pc := 172) (off := 10) (by decide +kernel) (by decide) ⟨by omega, by omega⟩ ⟨by decide, by decide⟩ (show ¬ (C i) = (-13) by omega) ?_
  refine gm_sz (gm_p_load (pc := 175) (i := .iload 10) (sr := 0) (j := 10) (by decide +kernel) rfl rfl rfl) ?_
  refine gm_sz (gm_p_const (pc := 177) (i := .bipush (-14)) (v := gm_vi (-14)) (by decide +kernel) (by decide +kernel)) ?_
  refine fw_ict (cc := .ne) (pc := 179) (off := 62) (by decide +kernel) (by decide) ⟨by omega, by omega⟩ ⟨by decide, by decide⟩ (show ¬ (C i) = (-14) by omega) ?_
  refine gm_sz (gm_p_load (pc := 241) (i := .iload 10) (sr := 0) (j := 10) (by decide +kernel) rfl rfl rfl) ?_
  refine gm_sz (gm_p_const (pc := 243) (i := .bipush (-15)) (v := gm_vi (-15)) (by decide +kernel) (by decide +kernel)) ?_
  refine fw_ict (cc := .ne) (pc := 245) (off := 12) (by decide +kernel) (by decide) ⟨by omega, by omega⟩ ⟨by decide, by decide⟩ (show ¬ (C i) = (-15) by omega) ?_
  refine gm_sz (gm_p_load (pc := 257) (i := .iload 10) (sr := 0) (j := 10) (by decide +kernel) rfl rfl rfl) ?_
  refine gm_sz (gm_p_const (pc := 259) (i := .bipush (-16)) (v := gm_vi (-16)) (by decide +kernel) (by decide +kernel)) ?_
  refine fw_ict (cc := .ne) (pc := 261) (off := 18) (by decide +kernel) (by decide) ⟨by omega, by omega⟩ ⟨by decide, by decide⟩ (show ¬ (C i) = (-16) by omega) ?_
  refine gm_sz (gm_p_load (pc := 279) (i := .iload 6) (sr := 0) (j := 6) (by decide +kernel) rfl rfl rfl) ?_
  refine gm_sz (gm_p_const (pc := 281) (i := .iconst 1) (v := gm_vi 1) (by decide +kernel) (by decide +kernel)) ?_
  refine gm_sz (gm_p_bin (pc := 282) (i := .ishr) (f := gm_shr) (by decide +kernel) rfl) ?_
  refine gm_sz (gm_p_load (pc := 283) (i := .iload 6) (sr := 0) (j := 6) (by decide +kernel) rfl rfl rfl) ?_
  refine gm_sz (gm_p_const (pc := 285) (i := .iconst 1) (v := gm_vi 1) (by decide +kernel) (by decide +kernel)) ?_
  refine gm_sz (gm_p_bin (pc := 286) (i := .iand) (f := gm_and) (by decide +kernel) rfl) ?_
  refine gm_sz (gm_p_bin (pc := 287) (i := .ior) (f := gm_or) (by decide +kernel) rfl) ?_
  refine gm_sz (gm_p_stor (pc := 288) (i := .istore 6) (sr := 0) (j := 6) (by decide +kernel) rfl (show 7 ≤ _ from Nat.le_of_ble_eq_true rfl) rfl) ?_
  show gm_Wp X LX d _ _ 41 290 [some (gm_vr 246), some (gm_vi b), some (gm_vi e), some (gm_vr 204), some (gm_vi b), some (gm_vi e), some (gm_vi (gm_or (gm_shr t 1) (gm_and t 1))), some (gm_vi l), some (gm_vi s), some (gm_vi i), some (gm_vi (C i)), some (gm_vi ((-2) - (C i))), some (gm_vi 0), z13] [] n K _ _ Q
  refine gm_sz (gm_p_iinc (pc := 290) (j := 9) (z := 1) (by decide +kernel) rfl) ?_
  refine gm_sz (gm_p_goto (pc := 293) (off := (-238)) (by decide +kernel) (by decide)) ?_
  exact hq _ _ _ _
theorem ho_l (hE : E0 n K R) (hL : LE n K R NC) (hM : LM NC M) (hF : ∀ j : Int, 0 ≤ j → j < 10 → M 204 j = F j) (hC9 : ∀ j, M 247 j = C j) (h0 : 0 ≤ b) (he : e ≤ (NC : Int)) {fin : Int × Int × Int} (q1 : gm_and fin.1 1 = 1 → Q (.inl (some (gm_vi 1))) n K R M) (q0 : ¬ gm_and fin.1 1 = 1 → Q (.inl (some (gm_vi 0))) n K R M) : ∀ (u : Nat) (i t l s : Int) (z10 z11 z12 z13 : Option gm_V), i + (u : Int) = e → b ≤ i → evr F C u i (t, l, s) = fin → gm_Wp X LX d bc bs 41 55 [some (gm_vr 246), some (gm_vi b), some (gm_vi e), some (gm_vr 204), some (gm_vi b), some (gm_vi e), some (gm_vi t), some (gm_vi l), some (gm_vi s), some (gm_vi i), z10, z11, z12, z13] [] n K R M Q := by
  have hNC := hL.2.2
  intro u
  induction u with
  | zero =>
    intro i t l s z10 z11 z12 z13 hi hb9 hev
    have hev : (t, l, s) = fin := hev
    subst hev
    refine gm_sz (gm_p_load (pc := 55) (i := .iload 9) (sr := 0) (j := 9) (by decide +kernel) rfl rfl rfl) ?_
    refine gm_sz (gm_p_load (pc := 57) (i := .iload 5) (sr := 0) (j := 5) (by decide +kernel) rfl rfl rfl) ?_
    refine fw_ict (cc := .ge) (pc := 59) (off := 237) (by decide +kernel) (by decide) ⟨by omega, by omega⟩ ⟨by omega, by omega⟩ (show e ≤ i by omega) ?_
    refine gm_sz (gm_p_load (pc := 296) (i := .iload 6) (sr := 0) (j := 6) (by decide +kernel) rfl rfl rfl) ?_
    refine gm_sz (gm_p_const (pc := 298) (i := .iconst 1) (v := gm_vi 1) (by decide +kernel) (by decide +kernel)) ?_
    refine gm_sz (gm_p_bin (pc := 299) (i := .iand) (f := gm_and) (by decide +kernel) rfl) ?_
    refine gm_sz (gm_p_const (pc := 300) (i := .iconst 1) (v := gm_vi 1) (by decide +kernel) (by decide +kernel)) ?_
    refine fw_ic (cc := .ne) (pc := 301) (off := 7) (by decide +kernel) (by decide) and_ir ⟨by decide, by decide⟩ (fun h301 => ?_) (fun h301 => ?_)
    · have h301 : ¬ (gm_and t 1) = 1 := h301
      refine gm_sz (gm_p_const (pc := 308) (i := .iconst 0) (v := gm_vi 0) (by decide +kernel) (by decide +kernel)) ?_
      exact gm_r_int (pc := 309) (by decide +kernel) (Or.inr ⟨(by decide +kernel), Or.inl rfl⟩) (q0 h301)
    · have h301 : (gm_and t 1) = 1 := Classical.not_not.mp h301
      refine gm_sz (gm_p_const (pc := 304) (i := .iconst 1) (v := gm_vi 1) (by decide +kernel) (by decide +kernel)) ?_
      refine gm_sz (gm_p_goto (pc := 305) (off := 4) (by decide +kernel) (by decide)) ?_
      exact gm_r_int (pc := 309) (by decide +kernel) (Or.inr ⟨(by decide +kernel), Or.inr rfl⟩) (q1 h301)
  | succ u ih =>
    intro i t l s z10 z11 z12 z13 hi hb9 hev
    have hev : evr F C u (i + 1) (ev1 F (C i) (t, l, s)) = fin := hev
    have hc := hM.2.1 i (by omega) (by omega)
    rw [hC9 i] at hc
    obtain ⟨hc1, hc2⟩ := hc
    rcases (show (0 ≤ C i ∧ C i ≤ 999) ∨ (C i = -1) ∨ (-9 ≤ C i ∧ C i ≤ -2) ∨ (-11 ≤ C i ∧ C i ≤ -10) ∨ (C i = -12) ∨ (C i = -13) ∨ (C i = -14) ∨ (C i = -15) ∨ (C i = -16) ∨ (C i = -17) by omega) with hA | hA | hA | hA | hA | hA | hA | hA | hA | hA
    · have e9 : ev1 F (C i) (t, l, s) = (t, l, s + (C i)) := by
        unfold ev1
        dsimp only
        rw [if_pos (show (0 ≤ C i) by omega)]
      rw [e9] at hev
      exact ho_w0 hE hL hM hF hC9 ⟨by omega, by omega⟩ hA (fun z10 z11 z12 z13 => ih (i + 1) _ _ _ z10 z11 z12 z13 (by omega) (by omega) hev) (by omega) he
    · have e9 : ev1 F (C i) (t, l, s) = (t, l, s + 0) := by
        unfold ev1 evk
        dsimp only
        rw [if_neg (show ¬ (0 ≤ C i) by omega), if_pos (show (-10 < C i) by omega), if_neg (show ¬ (0 ≤ -2 - C i ∧ -2 - C i < 10) by omega)]
      rw [e9] at hev
      exact ho_w1 hE hL hM hF hC9 ⟨by omega, by omega⟩ hA (fun z10 z11 z12 z13 => ih (i + 1) _ _ _ z10 z11 z12 z13 (by omega) (by omega) hev) (by omega) he
    · have e9 : ev1 F (C i) (t, l, s) = (t, l, s + (F ((-2) - (C i)))) := by
        unfold ev1 evk
        dsimp only
        rw [if_neg (show ¬ (0 ≤ C i) by omega), if_pos (show (-10 < C i) by omega), if_pos (show (0 ≤ -2 - C i ∧ -2 - C i < 10) by omega)]
      rw [e9] at hev
      exact ho_w2 hE hL hM hF hC9 ⟨by omega, by omega⟩ hA (fun z10 z11 z12 z13 => ih (i + 1) _ _ _ z10 z11 z12 z13 (by omega) (by omega) hev) (by omega) he
    · have e9 : ev1 F (C i) (t, l, s) = (gm_or (gm_shl t 1) (F ((-2) - (C i))), l, s) := by
        unfold ev1 evk
        dsimp only
        rw [if_neg (show ¬ (0 ≤ C i) by omega), if_neg (show ¬ (-10 < C i) by omega), if_pos (show (-11 ≤ C i) by omega), if_pos (show (0 ≤ -2 - C i ∧ -2 - C i < 10) by omega)]
      rw [e9] at hev
      exact ho_w3 hE hL hM hF hC9 ⟨by omega, by omega⟩ hA (fun z10 z11 z12 z13 => ih (i + 1) _ _ _ z10 z11 z12 z13 (by omega) (by omega) hev) (by omega) he
    · have e9 : ev1 F (C i) (t, l, s) = (t, s, 0) := by
        unfold ev1
        dsimp only
        rw [if_neg (show ¬ (0 ≤ C i) by omega), if_neg (show ¬ (-10 < C i) by omega), if_neg (show ¬ (-11 ≤ C i) by omega), if_pos (show (C i = -12) by omega)]
      rw [e9] at hev
      exact ho_w4 hE hL hM hF hC9 ⟨by omega, by omega⟩ hA (fun z10 z11 z12 z13 => ih (i + 1) _ _ _ z10 z11 z12 z13 (by omega) (by omega) hev) (by omega) he
    · have e9 : ev1 F (C i) (t, l, s) = (gm_or (gm_shl t 1) (if gm_w l < gm_w s then 1 else 0), l, 0) := by
        unfold ev1
        dsimp only
        rw [if_neg (show ¬ (0 ≤ C i) by omega), if_neg (show ¬ (-10 < C i) by omega), if_neg (show ¬ (-11 ≤ C i) by omega), if_neg (show ¬ (C i = -12) by omega), if_pos (show (C i = -13) by omega)]
      rw [e9] at hev
      exact ho_w5 hE hL hM hF hC9 ⟨by omega, by omega⟩ hA (fun z10 z11 z12 z13 => ih (i + 1) _ _ _ z10 z11 z12 z13 (by omega) (by omega) hev) (by omega) he
    · have e9 : ev1 F (C i) (t, l, s) = (gm_or (gm_shl t 1) (if gm_w s < gm_w l then 1 else 0), l, 0) := by
        unfold ev1
        dsimp only
        rw [if_neg (show ¬ (0 ≤ C i) by omega), if_neg (show ¬ (-10 < C i) by omega), if_neg (show ¬ (-11 ≤ C i) by omega), if_neg (show ¬ (C i = -12) by omega), if_neg (show ¬ (C i = -13) by omega), if_pos (show (C i = -14) by omega)]
      rw [e9] at hev
      exact ho_w6 hE hL hM hF hC9 ⟨by omega, by omega⟩ hA (fun z10 z11 z12 z13 => ih (i + 1) _ _ _ z10 z11 z12 z13 (by omega) (by omega) hev) (by omega) he
    · have e9 : ev1 F (C i) (t, l, s) = (gm_xor t 1, l, s) := by
        unfold ev1
        dsimp only
        rw [if_neg (show ¬ (0 ≤ C i) by omega), if_neg (show ¬ (-10 < C i) by omega), if_neg (show ¬ (-11 ≤ C i) by omega), if_neg (show ¬ (C i = -12) by omega), if_neg (show ¬ (C i = -13) by omega), if_neg (show ¬ (C i = -14) by omega), if_pos (show (C i = -15) by omega)]
      rw [e9] at hev
      exact ho_w7 hE hL hM hF hC9 ⟨by omega, by omega⟩ hA (fun z10 z11 z12 z13 => ih (i + 1) _ _ _ z10 z11 z12 z13 (by omega) (by omega) hev) (by omega) he
    · have e9 : ev1 F (C i) (t, l, s) = (gm_and (gm_shr t 1) (gm_or t (-2)), l, s) := by
        unfold ev1
        dsimp only
        rw [if_neg (show ¬ (0 ≤ C i) by omega), if_neg (show ¬ (-10 < C i) by omega), if_neg (show ¬ (-11 ≤ C i) by omega), if_neg (show ¬ (C i = -12) by omega), if_neg (show ¬ (C i = -13) by omega), if_neg (show ¬ (C i = -14) by omega), if_neg (show ¬ (C i = -15) by omega), if_pos (show (C i = -16) by omega)]
      rw [e9] at hev
      exact ho_w8 hE hL hM hF hC9 ⟨by omega, by omega⟩ hA (fun z10 z11 z12 z13 => ih (i + 1) _ _ _ z10 z11 z12 z13 (by omega) (by omega) hev) (by omega) he
    · have e9 : ev1 F (C i) (t, l, s) = (gm_or (gm_shr t 1) (gm_and t 1), l, s) := by
        unfold ev1
        dsimp only
        rw [if_neg (show ¬ (0 ≤ C i) by omega), if_neg (show ¬ (-10 < C i) by omega), if_neg (show ¬ (-11 ≤ C i) by omega), if_neg (show ¬ (C i = -12) by omega), if_neg (show ¬ (C i = -13) by omega), if_neg (show ¬ (C i = -14) by omega), if_neg (show ¬ (C i = -15) by omega), if_neg (show ¬ (C i = -16) by omega)]
      rw [e9] at hev
      exact ho_w9 hE hL hM hF hC9 ⟨by omega, by omega⟩ hA (fun z10 z11 z12 z13 => ih (i + 1) _ _ _ z10 z11 z12 z13 (by omega) (by omega) hev) (by omega) he
theorem ho_c41 (hE : E0 n K R) (hL : LE n K R NC) (hM : LM NC M) (hF : ∀ j : Int, 0 ≤ j → j < 10 → M 204 j = F j) (hC9 : ∀ j, M 247 j = C j) (h0 : 0 ≤ b) (hbe : b ≤ e) (he : e ≤ (NC : Int)) (q1 : evh F C b e → Q (.inl (some (gm_vi 1))) n K R M) (q0 : ¬ evh F C b e → Q (.inl (some (gm_vi 0))) n K R M) : gm_Wp X LX d bc bs 41 0 (gm_ent 41 [gm_vr 246, gm_vi b, gm_vi e, gm_vr 204]) [] n K R M Q := by
  have hNC := hL.2.2
  unfold evh at q1 q0
  refine gm_sz (gm_p_load (pc := 0) (i := .iload_n 1) (sr := 0) (j := 1) (by decide +kernel) rfl rfl rfl) ?_
  refine fw_if (cc := .le) (pc := 1) (off := 7) (by decide +kernel) (by decide) ⟨by omega, by omega⟩ (fun h1 => ?_) (fun h1 => ?_)
  · have h1 : b ≤ 0 := h1
    refine gm_sz (gm_p_const (pc := 8) (i := .iconst 0) (v := gm_vi 0) (by decide +kernel) (by decide +kernel)) ?_
    refine gm_sz (gm_p_stor (pc := 9) (i := .istore 4) (sr := 0) (j := 4) (by decide +kernel) rfl (show 5 ≤ _ from Nat.le_of_ble_eq_true rfl) rfl) ?_
    show gm_Wp X LX d _ _ 41 11 [some (gm_vr 246), some (gm_vi b), some (gm_vi e), some (gm_vr 204), some (gm_vi 0), none, none, none, none, none, none, none, none, none] [] n K _ _ Q
    refine gm_sz (gm_p_load (pc := 11) (i := .iload_n 2) (sr := 0) (j := 2) (by decide +kernel) rfl rfl rfl) ?_
    refine gm_sz (gm_p_load (pc := 12) (i := .aload_n 0) (sr := 2) (j := 0) (by decide +kernel) rfl rfl rfl) ?_
    refine gm_sz (fw_gr (pc := 13) (ix := 22) (ci := 10) (j := 1) (r := 247) (by decide +kernel) (lk6 hL) (by decide +kernel) (by decide +kernel) hL.2.1.2.1) ?_
    refine gm_sz (fw_al (pc := 16) (k := 247) (len := NC) (by decide +kernel) (lk7 hL).1 (lk7 hL).2 (by decide)) ?_
    refine fw_ic (cc := .ge) (pc := 17) (off := 7) (by decide +kernel) (by decide) ⟨by omega, by omega⟩ ⟨by omega, by omega⟩ (fun h17 => ?_) (fun h17 => ?_)
    · have h17 : (NC : Int) ≤ e := h17
      refine gm_sz (gm_p_load (pc := 24) (i := .aload_n 0) (sr := 2) (j := 0) (by decide +kernel) rfl rfl rfl) ?_
      refine gm_sz (fw_gr (pc := 25) (ix := 22) (ci := 10) (j := 1) (r := 247) (by decide +kernel) (lk6 hL) (by decide +kernel) (by decide +kernel) hL.2.1.2.1) ?_
      refine gm_sz (fw_al (pc := 28) (k := 247) (len := NC) (by decide +kernel) (lk7 hL).1 (lk7 hL).2 (by decide)) ?_
      refine gm_sz (gm_p_stor (pc := 29) (i := .istore 5) (sr := 0) (j := 5) (by decide +kernel) rfl (show 6 ≤ _ from Nat.le_of_ble_eq_true rfl) rfl) ?_
      show gm_Wp X LX d _ _ 41 31 [some (gm_vr 246), some (gm_vi b), some (gm_vi e), some (gm_vr 204), some (gm_vi 0), some (gm_vi (NC : Int)), none, none, none, none, none, none, none, none] [] n K _ _ Q
      refine gm_sz (gm_p_load (pc := 31) (i := .iload 4) (sr := 0) (j := 4) (by decide +kernel) rfl rfl rfl) ?_
      refine gm_sz (gm_p_load (pc := 33) (i := .iload 5) (sr := 0) (j := 5) (by decide +kernel) rfl rfl rfl) ?_
      refine fw_ic (cc := .ge) (pc := 35) (off := 7) (by decide +kernel) (by decide) ⟨by decide, by decide⟩ ⟨by omega, by omega⟩ (fun h35 => ?_) (fun h35 => ?_)
      · have h35 : (NC : Int) ≤ 0 := h35
        refine gm_sz (gm_p_const (pc := 42) (i := .iconst 1) (v := gm_vi 1) (by decide +kernel) (by decide +kernel)) ?_
        refine gm_sz (gm_p_stor (pc := 43) (i := .istore 6) (sr := 0) (j := 6) (by decide +kernel) rfl (show 7 ≤ _ from Nat.le_of_ble_eq_true rfl) rfl) ?_
        show gm_Wp X LX d _ _ 41 45 [some (gm_vr 246), some (gm_vi b), some (gm_vi e), some (gm_vr 204), some (gm_vi 0), some (gm_vi (NC : Int)), some (gm_vi 1), none, none, none, none, none, none, none] [] n K _ _ Q
        refine gm_sz (gm_p_const (pc := 45) (i := .iconst 0) (v := gm_vi 0) (by decide +kernel) (by decide +kernel)) ?_
        refine gm_sz (gm_p_stor (pc := 46) (i := .istore 7) (sr := 0) (j := 7) (by decide +kernel) rfl (show 8 ≤ _ from Nat.le_of_ble_eq_true rfl) rfl) ?_
        show gm_Wp X LX d _ _ 41 48 [some (gm_vr 246), some (gm_vi b), some (gm_vi e), some (gm_vr 204), some (gm_vi 0), some (gm_vi (NC : Int)), some (gm_vi 1), some (gm_vi 0), none, none, none, none, none, none] [] n K _ _ Q
        refine gm_sz (gm_p_const (pc := 48) (i := .iconst 0) (v := gm_vi 0) (by decide +kernel) (by decide +kernel)) ?_
        refine gm_sz (gm_p_stor (pc := 49) (i := .istore 8) (sr := 0) (j := 8) (by decide +kernel) rfl (show 9 ≤ _ from Nat.le_of_ble_eq_true rfl) rfl) ?_
        show gm_Wp X LX d _ _ 41 51 [some (gm_vr 246), some (gm_vi b), some (gm_vi e), some (gm_vr 204), some (gm_vi 0), some (gm_vi (NC : Int)), some (gm_vi 1), some (gm_vi 0), some (gm_vi 0), none, none, none, none, none] [] n K _ _ Q
        refine gm_sz (gm_p_load (pc := 51) (i := .iload 4) (sr := 0) (j := 4) (by decide +kernel) rfl rfl rfl) ?_
        refine gm_sz (gm_p_stor (pc := 53) (i := .istore 9) (sr := 0) (j := 9) (by decide +kernel) rfl (show 10 ≤ _ from Nat.le_of_ble_eq_true rfl) rfl) ?_
        show gm_Wp X LX d _ _ 41 55 [some (gm_vr 246), some (gm_vi b), some (gm_vi e), some (gm_vr 204), some (gm_vi 0), some (gm_vi (NC : Int)), some (gm_vi 1), some (gm_vi 0), some (gm_vi 0), some (gm_vi 0), none, none, none, none] [] n K _ _ Q
        have eb : b = 0 := by omega
        subst eb
        have ee : e = (NC : Int) := by omega
        subst ee
        rw [if_neg (show ¬ 0 < (NC : Int) by omega)] at q1 q0
        exact ho_l hE hL hM hF hC9 (by omega) (by omega) q1 q0 ((NC : Int) - 0).toNat 0 _ _ _ _ _ _ _ (by omega) (Int.le_refl _) rfl
      · have h35 : ¬ (NC : Int) ≤ 0 := h35
        refine gm_sz (gm_p_const (pc := 38) (i := .iconst 0) (v := gm_vi 0) (by decide +kernel) (by decide +kernel)) ?_
        refine gm_sz (gm_p_goto (pc := 39) (off := 4) (by decide +kernel) (by decide)) ?_
        refine gm_sz (gm_p_stor (pc := 43) (i := .istore 6) (sr := 0) (j := 6) (by decide +kernel) rfl (show 7 ≤ _ from Nat.le_of_ble_eq_true rfl) rfl) ?_
        show gm_Wp X LX d _ _ 41 45 [some (gm_vr 246), some (gm_vi b), some (gm_vi e), some (gm_vr 204), some (gm_vi 0), some (gm_vi (NC : Int)), some (gm_vi 0), none, none, none, none, none, none, none] [] n K _ _ Q
        refine gm_sz (gm_p_const (pc := 45) (i := .iconst 0) (v := gm_vi 0) (by decide +kernel) (by decide +kernel)) ?_
        refine gm_sz (gm_p_stor (pc := 46) (i := .istore 7) (sr := 0) (j := 7) (by decide +kernel) rfl (show 8 ≤ _ from Nat.le_of_ble_eq_true rfl) rfl) ?_
        show gm_Wp X LX d _ _ 41 48 [some (gm_vr 246), some (gm_vi b), some (gm_vi e), some (gm_vr 204), some (gm_vi 0), some (gm_vi (NC : Int)), some (gm_vi 0), some (gm_vi 0), none, none, none, none, none, none] [] n K _ _ Q
        refine gm_sz (gm_p_const (pc := 48) (i := .iconst 0) (v := gm_vi 0) (by decide +kernel) (by decide +kernel)) ?_
        refine gm_sz (gm_p_stor (pc := 49) (i := .istore 8) (sr := 0) (j := 8) (by decide +kernel) rfl (show 9 ≤ _ from Nat.le_of_ble_eq_true rfl) rfl) ?_
        show gm_Wp X LX d _ _ 41 51 [some (gm_vr 246), some (gm_vi b), some (gm_vi e), some (gm_vr 204), some (gm_vi 0), some (gm_vi (NC : Int)), some (gm_vi 0), some (gm_vi 0), some (gm_vi 0), none, none, none, none, none] [] n K _ _ Q
        refine gm_sz (gm_p_load (pc := 51) (i := .iload 4) (sr := 0) (j := 4) (by decide +kernel) rfl rfl rfl) ?_
        refine gm_sz (gm_p_stor (pc := 53) (i := .istore 9) (sr := 0) (j := 9) (by decide +kernel) rfl (show 10 ≤ _ from Nat.le_of_ble_eq_true rfl) rfl) ?_
        show gm_Wp X LX d _ _ 41 55 [some (gm_vr 246), some (gm_vi b), some (gm_vi e), some (gm_vr 204), some (gm_vi 0), some (gm_vi (NC : Int)), some (gm_vi 0), some (gm_vi 0), some (gm_vi 0), some (gm_vi 0), none, none, none, none] [] n K _ _ Q
        have eb : b = 0 := by omega
        subst eb
        have ee : e = (NC : Int) := by omega
        subst ee
        rw [if_pos (show 0 < (NC : Int) by omega)] at q1 q0
        exact ho_l hE hL hM hF hC9 (by omega) (by omega) q1 q0 ((NC : Int) - 0).toNat 0 _ _ _ _ _ _ _ (by omega) (Int.le_refl _) rfl
    · have h17 : ¬ (NC : Int) ≤ e := h17
      refine gm_sz (gm_p_load (pc := 20) (i := .iload_n 2) (sr := 0) (j := 2) (by decide +kernel) rfl rfl rfl) ?_
      refine gm_sz (gm_p_goto (pc := 21) (off := 8) (by decide +kernel) (by decide)) ?_
      refine gm_sz (gm_p_stor (pc := 29) (i := .istore 5) (sr := 0) (j := 5) (by decide +kernel) rfl (show 6 ≤ _ from Nat.le_of_ble_eq_true rfl) rfl) ?_
      show gm_Wp X LX d _ _ 41 31 [some (gm_vr 246), some (gm_vi b), some (gm_vi e), some (gm_vr 204), some (gm_vi 0), some (gm_vi e), none, none, none, none, none, none, none, none] [] n K _ _ Q
      refine gm_sz (gm_p_load (pc := 31) (i := .iload 4) (sr := 0) (j := 4) (by decide +kernel) rfl rfl rfl) ?_
      refine gm_sz (gm_p_load (pc := 33) (i := .iload 5) (sr := 0) (j := 5) (by decide +kernel) rfl rfl rfl) ?_
      refine fw_ic (cc := .ge) (pc := 35) (off := 7) (by decide +kernel) (by decide) ⟨by decide, by decide⟩ ⟨by omega, by omega⟩ (fun h35 => ?_) (fun h35 => ?_)
      · have h35 : e ≤ 0 := h35
        refine gm_sz (gm_p_const (pc := 42) (i := .iconst 1) (v := gm_vi 1) (by decide +kernel) (by decide +kernel)) ?_
        refine gm_sz (gm_p_stor (pc := 43) (i := .istore 6) (sr := 0) (j := 6) (by decide +kernel) rfl (show 7 ≤ _ from Nat.le_of_ble_eq_true rfl) rfl) ?_
        show gm_Wp X LX d _ _ 41 45 [some (gm_vr 246), some (gm_vi b), some (gm_vi e), some (gm_vr 204), some (gm_vi 0), some (gm_vi e), some (gm_vi 1), none, none, none, none, none, none, none] [] n K _ _ Q
        refine gm_sz (gm_p_const (pc := 45) (i := .iconst 0) (v := gm_vi 0) (by decide +kernel) (by decide +kernel)) ?_
        refine gm_sz (gm_p_stor (pc := 46) (i := .istore 7) (sr := 0) (j := 7) (by decide +kernel) rfl (show 8 ≤ _ from Nat.le_of_ble_eq_true rfl) rfl) ?_
        show gm_Wp X LX d _ _ 41 48 [some (gm_vr 246), some (gm_vi b), some (gm_vi e), some (gm_vr 204), some (gm_vi 0), some (gm_vi e), some (gm_vi 1), some (gm_vi 0), none, none, none, none, none, none] [] n K _ _ Q
        refine gm_sz (gm_p_const (pc := 48) (i := .iconst 0) (v := gm_vi 0) (by decide +kernel) (by decide +kernel)) ?_
        refine gm_sz (gm_p_stor (pc := 49) (i := .istore 8) (sr := 0) (j := 8) (by decide +kernel) rfl (show 9 ≤ _ from Nat.le_of_ble_eq_true rfl) rfl) ?_
        show gm_Wp X LX d _ _ 41 51 [some (gm_vr 246), some (gm_vi b), some (gm_vi e), some (gm_vr 204), some (gm_vi 0), some (gm_vi e), some (gm_vi 1), some (gm_vi 0), some (gm_vi 0), none, none, none, none, none] [] n K _ _ Q
        refine gm_sz (gm_p_load (pc := 51) (i := .iload 4) (sr := 0) (j := 4) (by decide +kernel) rfl rfl rfl) ?_
        refine gm_sz (gm_p_stor (pc := 53) (i := .istore 9) (sr := 0) (j := 9) (by decide +kernel) rfl (show 10 ≤ _ from Nat.le_of_ble_eq_true rfl) rfl) ?_
        show gm_Wp X LX d _ _ 41 55 [some (gm_vr 246), some (gm_vi b), some (gm_vi e), some (gm_vr 204), some (gm_vi 0), some (gm_vi e), some (gm_vi 1), some (gm_vi 0), some (gm_vi 0), some (gm_vi 0), none, none, none, none] [] n K _ _ Q
        have eb : b = 0 := by omega
        subst eb
        rw [if_neg (show ¬ 0 < e by omega)] at q1 q0
        exact ho_l hE hL hM hF hC9 (by omega) (by omega) q1 q0 (e - 0).toNat 0 _ _ _ _ _ _ _ (by omega) (Int.le_refl _) rfl
      · have h35 : ¬ e ≤ 0 := h35
        refine gm_sz (gm_p_const (pc := 38) (i := .iconst 0) (v := gm_vi 0) (by decide +kernel) (by decide +kernel)) ?_
        refine gm_sz (gm_p_goto (pc := 39) (off := 4) (by decide +kernel) (by decide)) ?_
        refine gm_sz (gm_p_stor (pc := 43) (i := .istore 6) (sr := 0) (j := 6) (by decide +kernel) rfl (show 7 ≤ _ from Nat.le_of_ble_eq_true rfl) rfl) ?_
        show gm_Wp X LX d _ _ 41 45 [some (gm_vr 246), some (gm_vi b), some (gm_vi e), some (gm_vr 204), some (gm_vi 0), some (gm_vi e), some (gm_vi 0), none, none, none, none, none, none, none] [] n K _ _ Q
        refine gm_sz (gm_p_const (pc := 45) (i := .iconst 0) (v := gm_vi 0) (by decide +kernel) (by decide +kernel)) ?_
        refine gm_sz (gm_p_stor (pc := 46) (i := .istore 7) (sr := 0) (j := 7) (by decide +kernel) rfl (show 8 ≤ _ from Nat.le_of_ble_eq_true rfl) rfl) ?_
        show gm_Wp X LX d _ _ 41 48 [some (gm_vr 246), some (gm_vi b), some (gm_vi e), some (gm_vr 204), some (gm_vi 0), some (gm_vi e), some (gm_vi 0), some (gm_vi 0), none, none, none, none, none, none] [] n K _ _ Q
        refine gm_sz (gm_p_const (pc := 48) (i := .iconst 0) (v := gm_vi 0) (by decide +kernel) (by decide +kernel)) ?_
        refine gm_sz (gm_p_stor (pc := 49) (i := .istore 8) (sr := 0) (j := 8) (by decide +kernel) rfl (show 9 ≤ _ from Nat.le_of_ble_eq_true rfl) rfl) ?_
        show gm_Wp X LX d _ _ 41 51 [some (gm_vr 246), some (gm_vi b), some (gm_vi e), some (gm_vr 204), some (gm_vi 0), some (gm_vi e), some (gm_vi 0), some (gm_vi 0), some (gm_vi 0), none, none, none, none, none] [] n K _ _ Q
        refine gm_sz (gm_p_load (pc := 51) (i := .iload 4) (sr := 0) (j := 4) (by decide +kernel) rfl rfl rfl) ?_
        refine gm_sz (gm_p_stor (pc := 53) (i := .istore 9) (sr := 0) (j := 9) (by decide +kernel) rfl (show 10 ≤ _ from Nat.le_of_ble_eq_true rfl) rfl) ?_
        show gm_Wp X LX d _ _ 41 55 [some (gm_vr 246), some (gm_vi b), some (gm_vi e), some (gm_vr 204), some (gm_vi 0), some (gm_vi e), some (gm_vi 0), some (gm_vi 0), some (gm_vi 0), some (gm_vi 0), none, none, none, none] [] n K _ _ Q
        have eb : b = 0 := by omega
        subst eb
        rw [if_pos (show 0 < e by omega)] at q1 q0
        exact ho_l hE hL hM hF hC9 (by omega) (by omega) q1 q0 (e - 0).toNat 0 _ _ _ _ _ _ _ (by omega) (Int.le_refl _) rfl
  · have h1 : ¬ b ≤ 0 := h1
    refine gm_sz (gm_p_load (pc := 4) (i := .iload_n 1) (sr := 0) (j := 1) (by decide +kernel) rfl rfl rfl) ?_
    refine gm_sz (gm_p_goto (pc := 5) (off := 4) (by decide +kernel) (by decide)) ?_
    refine gm_sz (gm_p_stor (pc := 9) (i := .istore 4) (sr := 0) (j := 4) (by decide +kernel) rfl (show 5 ≤ _ from Nat.le_of_ble_eq_true rfl) rfl) ?_
    show gm_Wp X LX d _ _ 41 11 [some (gm_vr 246), some (gm_vi b), some (gm_vi e), some (gm_vr 204), some (gm_vi b), none, none, none, none, none, none, none, none, none] [] n K _ _ Q
    refine gm_sz (gm_p_load (pc := 11) (i := .iload_n 2) (sr := 0) (j := 2) (by decide +kernel) rfl rfl rfl) ?_
    refine gm_sz (gm_p_load (pc := 12) (i := .aload_n 0) (sr := 2) (j := 0) (by decide +kernel) rfl rfl rfl) ?_
    refine gm_sz (fw_gr (pc := 13) (ix := 22) (ci := 10) (j := 1) (r := 247) (by decide +kernel) (lk6 hL) (by decide +kernel) (by decide +kernel) hL.2.1.2.1) ?_
    refine gm_sz (fw_al (pc := 16) (k := 247) (len := NC) (by decide +kernel) (lk7 hL).1 (lk7 hL).2 (by decide)) ?_
    refine fw_ic (cc := .ge) (pc := 17) (off := 7) (by decide +kernel) (by decide) ⟨by omega, by omega⟩ ⟨by omega, by omega⟩ (fun h17 => ?_) (fun h17 => ?_)
    · have h17 : (NC : Int) ≤ e := h17
      refine gm_sz (gm_p_load (pc := 24) (i := .aload_n 0) (sr := 2) (j := 0) (by decide +kernel) rfl rfl rfl) ?_
      refine gm_sz (fw_gr (pc := 25) (ix := 22) (ci := 10) (j := 1) (r := 247) (by decide +kernel) (lk6 hL) (by decide +kernel) (by decide +kernel) hL.2.1.2.1) ?_
      refine gm_sz (fw_al (pc := 28) (k := 247) (len := NC) (by decide +kernel) (lk7 hL).1 (lk7 hL).2 (by decide)) ?_
      refine gm_sz (gm_p_stor (pc := 29) (i := .istore 5) (sr := 0) (j := 5) (by decide +kernel) rfl (show 6 ≤ _ from Nat.le_of_ble_eq_true rfl) rfl) ?_
      show gm_Wp X LX d _ _ 41 31 [some (gm_vr 246), some (gm_vi b), some (gm_vi e), some (gm_vr 204), some (gm_vi b), some (gm_vi (NC : Int)), none, none, none, none, none, none, none, none] [] n K _ _ Q
      refine gm_sz (gm_p_load (pc := 31) (i := .iload 4) (sr := 0) (j := 4) (by decide +kernel) rfl rfl rfl) ?_
      refine gm_sz (gm_p_load (pc := 33) (i := .iload 5) (sr := 0) (j := 5) (by decide +kernel) rfl rfl rfl) ?_
      refine fw_ic (cc := .ge) (pc := 35) (off := 7) (by decide +kernel) (by decide) ⟨by omega, by omega⟩ ⟨by omega, by omega⟩ (fun h35 => ?_) (fun h35 => ?_)
      · have h35 : (NC : Int) ≤ b := h35
        refine gm_sz (gm_p_const (pc := 42) (i := .iconst 1) (v := gm_vi 1) (by decide +kernel) (by decide +kernel)) ?_
        refine gm_sz (gm_p_stor (pc := 43) (i := .istore 6) (sr := 0) (j := 6) (by decide +kernel) rfl (show 7 ≤ _ from Nat.le_of_ble_eq_true rfl) rfl) ?_
        show gm_Wp X LX d _ _ 41 45 [some (gm_vr 246), some (gm_vi b), some (gm_vi e), some (gm_vr 204), some (gm_vi b), some (gm_vi (NC : Int)), some (gm_vi 1), none, none, none, none, none, none, none] [] n K _ _ Q
        refine gm_sz (gm_p_const (pc := 45) (i := .iconst 0) (v := gm_vi 0) (by decide +kernel) (by decide +kernel)) ?_
        refine gm_sz (gm_p_stor (pc := 46) (i := .istore 7) (sr := 0) (j := 7) (by decide +kernel) rfl (show 8 ≤ _ from Nat.le_of_ble_eq_true rfl) rfl) ?_
        show gm_Wp X LX d _ _ 41 48 [some (gm_vr 246), some (gm_vi b), some (gm_vi e), some (gm_vr 204), some (gm_vi b), some (gm_vi (NC : Int)), some (gm_vi 1), some (gm_vi 0), none, none, none, none, none, none] [] n K _ _ Q
        refine gm_sz (gm_p_const (pc := 48) (i := .iconst 0) (v := gm_vi 0) (by decide +kernel) (by decide +kernel)) ?_
        refine gm_sz (gm_p_stor (pc := 49) (i := .istore 8) (sr := 0) (j := 8) (by decide +kernel) rfl (show 9 ≤ _ from Nat.le_of_ble_eq_true rfl) rfl) ?_
        show gm_Wp X LX d _ _ 41 51 [some (gm_vr 246), some (gm_vi b), some (gm_vi e), some (gm_vr 204), some (gm_vi b), some (gm_vi (NC : Int)), some (gm_vi 1), some (gm_vi 0), some (gm_vi 0), none, none, none, none, none] [] n K _ _ Q
        refine gm_sz (gm_p_load (pc := 51) (i := .iload 4) (sr := 0) (j := 4) (by decide +kernel) rfl rfl rfl) ?_
        refine gm_sz (gm_p_stor (pc := 53) (i := .istore 9) (sr := 0) (j := 9) (by decide +kernel) rfl (show 10 ≤ _ from Nat.le_of_ble_eq_true rfl) rfl) ?_
        show gm_Wp X LX d _ _ 41 55 [some (gm_vr 246), some (gm_vi b), some (gm_vi e), some (gm_vr 204), some (gm_vi b), some (gm_vi (NC : Int)), some (gm_vi 1), some (gm_vi 0), some (gm_vi 0), some (gm_vi b), none, none, none, none] [] n K _ _ Q
        have ee : e = (NC : Int) := by omega
        subst ee
        rw [if_neg (show ¬ b < (NC : Int) by omega)] at q1 q0
        exact ho_l hE hL hM hF hC9 (by omega) (by omega) q1 q0 ((NC : Int) - b).toNat b _ _ _ _ _ _ _ (by omega) (Int.le_refl _) rfl
      · have h35 : ¬ (NC : Int) ≤ b := h35
        refine gm_sz (gm_p_const (pc := 38) (i := .iconst 0) (v := gm_vi 0) (by decide +kernel) (by decide +kernel)) ?_
        refine gm_sz (gm_p_goto (pc := 39) (off := 4) (by decide +kernel) (by decide)) ?_
        refine gm_sz (gm_p_stor (pc := 43) (i := .istore 6) (sr := 0) (j := 6) (by decide +kernel) rfl (show 7 ≤ _ from Nat.le_of_ble_eq_true rfl) rfl) ?_
        show gm_Wp X LX d _ _ 41 45 [some (gm_vr 246), some (gm_vi b), some (gm_vi e), some (gm_vr 204), some (gm_vi b), some (gm_vi (NC : Int)), some (gm_vi 0), none, none, none, none, none, none, none] [] n K _ _ Q
        refine gm_sz (gm_p_const (pc := 45) (i := .iconst 0) (v := gm_vi 0) (by decide +kernel) (by decide +kernel)) ?_
        refine gm_sz (gm_p_stor (pc := 46) (i := .istore 7) (sr := 0) (j := 7) (by decide +kernel) rfl (show 8 ≤ _ from Nat.le_of_ble_eq_true rfl) rfl) ?_
        show gm_Wp X LX d _ _ 41 48 [some (gm_vr 246), some (gm_vi b), some (gm_vi e), some (gm_vr 204), some (gm_vi b), some (gm_vi (NC : Int)), some (gm_vi 0), some (gm_vi 0), none, none, none, none, none, none] [] n K _ _ Q
        refine gm_sz (gm_p_const (pc := 48) (i := .iconst 0) (v := gm_vi 0) (by decide +kernel) (by decide +kernel)) ?_
        refine gm_sz (gm_p_stor (pc := 49) (i := .istore 8) (sr := 0) (j := 8) (by decide +kernel) rfl (show 9 ≤ _ from Nat.le_of_ble_eq_true rfl) rfl) ?_
        show gm_Wp X LX d _ _ 41 51 [some (gm_vr 246), some (gm_vi b), some (gm_vi e), some (gm_vr 204), some (gm_vi b), some (gm_vi (NC : Int)), some (gm_vi 0), some (gm_vi 0), some (gm_vi 0), none, none, none, none, none] [] n K _ _ Q
        refine gm_sz (gm_p_load (pc := 51) (i := .iload 4) (sr := 0) (j := 4) (by decide +kernel) rfl rfl rfl) ?_
        refine gm_sz (gm_p_stor (pc := 53) (i := .istore 9) (sr := 0) (j := 9) (by decide +kernel) rfl (show 10 ≤ _ from Nat.le_of_ble_eq_true rfl) rfl) ?_
        show gm_Wp X LX d _ _ 41 55 [some (gm_vr 246), some (gm_vi b), some (gm_vi e), some (gm_vr 204), some (gm_vi b), some (gm_vi (NC : Int)), some (gm_vi 0), some (gm_vi 0), some (gm_vi 0), some (gm_vi b), none, none, none, none] [] n K _ _ Q
        have ee : e = (NC : Int) := by omega
        subst ee
        rw [if_pos (show b < (NC : Int) by omega)] at q1 q0
        exact ho_l hE hL hM hF hC9 (by omega) (by omega) q1 q0 ((NC : Int) - b).toNat b _ _ _ _ _ _ _ (by omega) (Int.le_refl _) rfl
    · have h17 : ¬ (NC : Int) ≤ e := h17
      refine gm_sz (gm_p_load (pc := 20) (i := .iload_n 2) (sr := 0) (j := 2) (by decide +kernel) rfl rfl rfl) ?_
      refine gm_sz (gm_p_goto (pc := 21) (off := 8) (by decide +kernel) (by decide)) ?_
      refine gm_sz (gm_p_stor (pc := 29) (i := .istore 5) (sr := 0) (j := 5) (by decide +kernel) rfl (show 6 ≤ _ from Nat.le_of_ble_eq_true rfl) rfl) ?_
      show gm_Wp X LX d _ _ 41 31 [some (gm_vr 246), some (gm_vi b), some (gm_vi e), some (gm_vr 204), some (gm_vi b), some (gm_vi e), none, none, none, none, none, none, none, none] [] n K _ _ Q
      refine gm_sz (gm_p_load (pc := 31) (i := .iload 4) (sr := 0) (j := 4) (by decide +kernel) rfl rfl rfl) ?_
      refine gm_sz (gm_p_load (pc := 33) (i := .iload 5) (sr := 0) (j := 5) (by decide +kernel) rfl rfl rfl) ?_
      refine fw_ic (cc := .ge) (pc := 35) (off := 7) (by decide +kernel) (by decide) ⟨by omega, by omega⟩ ⟨by omega, by omega⟩ (fun h35 => ?_) (fun h35 => ?_)
      · have h35 : e ≤ b := h35
        refine gm_sz (gm_p_const (pc := 42) (i := .iconst 1) (v := gm_vi 1) (by decide +kernel) (by decide +kernel)) ?_
        refine gm_sz (gm_p_stor (pc := 43) (i := .istore 6) (sr := 0) (j := 6) (by decide +kernel) rfl (show 7 ≤ _ from Nat.le_of_ble_eq_true rfl) rfl) ?_
        show gm_Wp X LX d _ _ 41 45 [some (gm_vr 246), some (gm_vi b), some (gm_vi e), some (gm_vr 204), some (gm_vi b), some (gm_vi e), some (gm_vi 1), none, none, none, none, none, none, none] [] n K _ _ Q
        refine gm_sz (gm_p_const (pc := 45) (i := .iconst 0) (v := gm_vi 0) (by decide +kernel) (by decide +kernel)) ?_
        refine gm_sz (gm_p_stor (pc := 46) (i := .istore 7) (sr := 0) (j := 7) (by decide +kernel) rfl (show 8 ≤ _ from Nat.le_of_ble_eq_true rfl) rfl) ?_
        show gm_Wp X LX d _ _ 41 48 [some (gm_vr 246), some (gm_vi b), some (gm_vi e), some (gm_vr 204), some (gm_vi b), some (gm_vi e), some (gm_vi 1), some (gm_vi 0), none, none, none, none, none, none] [] n K _ _ Q
        refine gm_sz (gm_p_const (pc := 48) (i := .iconst 0) (v := gm_vi 0) (by decide +kernel) (by decide +kernel)) ?_
        refine gm_sz (gm_p_stor (pc := 49) (i := .istore 8) (sr := 0) (j := 8) (by decide +kernel) rfl (show 9 ≤ _ from Nat.le_of_ble_eq_true rfl) rfl) ?_
        show gm_Wp X LX d _ _ 41 51 [some (gm_vr 246), some (gm_vi b), some (gm_vi e), some (gm_vr 204), some (gm_vi b), some (gm_vi e), some (gm_vi 1), some (gm_vi 0), some (gm_vi 0), none, none, none, none, none] [] n K _ _ Q
        refine gm_sz (gm_p_load (pc := 51) (i := .iload 4) (sr := 0) (j := 4) (by decide +kernel) rfl rfl rfl) ?_
        refine gm_sz (gm_p_stor (pc := 53) (i := .istore 9) (sr := 0) (j := 9) (by decide +kernel) rfl (show 10 ≤ _ from Nat.le_of_ble_eq_true rfl) rfl) ?_
        show gm_Wp X LX d _ _ 41 55 [some (gm_vr 246), some (gm_vi b), some (gm_vi e), some (gm_vr 204), some (gm_vi b), some (gm_vi e), some (gm_vi 1), some (gm_vi 0), some (gm_vi 0), some (gm_vi b), none, none, none, none] [] n K _ _ Q
        rw [if_neg (show ¬ b < e by omega)] at q1 q0
        exact ho_l hE hL hM hF hC9 (by omega) (by omega) q1 q0 (e - b).toNat b _ _ _ _ _ _ _ (by omega) (Int.le_refl _) rfl
      · have h35 : ¬ e ≤ b := h35
        refine gm_sz (gm_p_const (pc := 38) (i := .iconst 0) (v := gm_vi 0) (by decide +kernel) (by decide +kernel)) ?_
        refine gm_sz (gm_p_goto (pc := 39) (off := 4) (by decide +kernel) (by decide)) ?_
        refine gm_sz (gm_p_stor (pc := 43) (i := .istore 6) (sr := 0) (j := 6) (by decide +kernel) rfl (show 7 ≤ _ from Nat.le_of_ble_eq_true rfl) rfl) ?_
        show gm_Wp X LX d _ _ 41 45 [some (gm_vr 246), some (gm_vi b), some (gm_vi e), some (gm_vr 204), some (gm_vi b), some (gm_vi e), some (gm_vi 0), none, none, none, none, none, none, none] [] n K _ _ Q
        refine gm_sz (gm_p_const (pc := 45) (i := .iconst 0) (v := gm_vi 0) (by decide +kernel) (by decide +kernel)) ?_
        refine gm_sz (gm_p_stor (pc := 46) (i := .istore 7) (sr := 0) (j := 7) (by decide +kernel) rfl (show 8 ≤ _ from Nat.le_of_ble_eq_true rfl) rfl) ?_
        show gm_Wp X LX d _ _ 41 48 [some (gm_vr 246), some (gm_vi b), some (gm_vi e), some (gm_vr 204), some (gm_vi b), some (gm_vi e), some (gm_vi 0), some (gm_vi 0), none, none, none, none, none, none] [] n K _ _ Q
        refine gm_sz (gm_p_const (pc := 48) (i := .iconst 0) (v := gm_vi 0) (by decide +kernel) (by decide +kernel)) ?_
        refine gm_sz (gm_p_stor (pc := 49) (i := .istore 8) (sr := 0) (j := 8) (by decide +kernel) rfl (show 9 ≤ _ from Nat.le_of_ble_eq_true rfl) rfl) ?_
        show gm_Wp X LX d _ _ 41 51 [some (gm_vr 246), some (gm_vi b), some (gm_vi e), some (gm_vr 204), some (gm_vi b), some (gm_vi e), some (gm_vi 0), some (gm_vi 0), some (gm_vi 0), none, none, none, none, none] [] n K _ _ Q
        refine gm_sz (gm_p_load (pc := 51) (i := .iload 4) (sr := 0) (j := 4) (by decide +kernel) rfl rfl rfl) ?_
        refine gm_sz (gm_p_stor (pc := 53) (i := .istore 9) (sr := 0) (j := 9) (by decide +kernel) rfl (show 10 ≤ _ from Nat.le_of_ble_eq_true rfl) rfl) ?_
        show gm_Wp X LX d _ _ 41 55 [some (gm_vr 246), some (gm_vi b), some (gm_vi e), some (gm_vr 204), some (gm_vi b), some (gm_vi e), some (gm_vi 0), some (gm_vi 0), some (gm_vi 0), some (gm_vi b), none, none, none, none] [] n K _ _ Q
        rw [if_pos (show b < e by omega)] at q1 q0
        exact ho_l hE hL hM hF hC9 (by omega) (by omega) q1 q0 (e - b).toNat b _ _ _ _ _ _ _ (by omega) (Int.le_refl _) rfl
/-- how much faster by k LINES -/
noncomputable def lfas (F C L : Int → Int) : Nat → Int
  | 0 => 0
  | k + 1 => lfas F C L k + (if ¬ L ((k : Int) * 4 + 0) = 2 then (@ite Int (evh F C (L ((k : Int) * 4 + 2)) (L ((k : Int) * 4 + 3))) (Classical.propDecidable _) (if L ((k : Int) * 4 + 0) = 0 then L ((k : Int) * 4 + 1) else -L ((k : Int) * 4 + 1)) 0) else 0)
/-- whether a LINE lets open -/
noncomputable def lopn (F C L : Int → Int) (n : Int) : Prop := ∃ k : Int, (0 ≤ k ∧ k < n) ∧ L (k * 4 + 0) = 2 ∧ evh F C (L (k * 4 + 2)) (L (k * 4 + 3))
theorem fa_l (hd : 1 ≤ d) (hE : E0 n K R) (hL : LE n K R NC) (hM : LM NC M) (hF : ∀ j : Int, 0 ≤ j → j < 10 → M 204 j = F j) (hC9 : ∀ j, M 247 j = C j) {L : Int → Int} {m : Int} (hL9 : ∀ j, M 249 j = L j) (hm9 : M 248 3 = m) (hq : Q (.inl (some (gm_vi (lfas F C L m.toNat)))) n K R M) : ∀ (u k : Nat) (f : Int) (z : Option gm_V), (k : Int) + (u : Int) = m → f = lfas F C L k → (-20 * (k : Int) ≤ f ∧ f ≤ 20 * (k : Int)) → gm_Wp X LX d bc bs 40 4 [some (gm_vr 246), some (gm_vr 204), some (gm_vi f), some (gm_vi (k : Int)), z] [] n K R M Q := by
  have hm1 := hM.1.2.2
  rw [hm9] at hm1
  intro u
  induction u with
  | zero =>
    intro k f z hk hf hb
    have ek : m.toNat = k := by omega
    rw [ek, ← hf] at hq
    refine gm_sz (gm_p_load (pc := 4) (i := .iload_n 3) (sr := 0) (j := 3) (by decide +kernel) rfl rfl rfl) ?_
    refine gm_sz (gm_p_load (pc := 5) (i := .aload_n 0) (sr := 2) (j := 0) (by decide +kernel) rfl rfl rfl) ?_
    refine gm_sz (fw_gr (pc := 6) (ix := 14) (ci := 10) (j := 0) (r := 248) (by decide +kernel) (lk6 hL) (by decide +kernel) (by decide +kernel) hL.2.1.1) ?_
    refine gm_c_virt (k := 248) (ci := 2) (mj := 9) (ix := 26) (pc := 9) (as := []) (st := [gm_vi (k : Int)]) (d' := d - 1) (bc' := 0) (bs' := 0) (by decide +kernel) (by decide +kernel) (by decide +kernel) (by decide +kernel) (lk8 hL).1 (lk8 hL).2 (by decide) (by decide +kernel) (show 0 = gm_na 9 by decide +kernel) fw_c0 (show 1 ≤ gm_ml 9 by decide +kernel) (Nat.le_of_ble_eq_true rfl) (by omega) (Nat.zero_le _) (Nat.zero_le _) ?_
    refine rw_size (s := m) (lk8 hL) hm9 ?_
    show gm_Wp X LX d _ _ 40 12 _ [gm_vi m, gm_vi (k : Int)] n K _ _ Q
    refine fw_ict (cc := .ge) (pc := 12) (off := 82) (by decide +kernel) (by decide) ⟨by omega, by omega⟩ ⟨by omega, by omega⟩ (show m ≤ (k : Int) by omega) ?_
    refine gm_sz (gm_p_load (pc := 94) (i := .iload_n 2) (sr := 0) (j := 2) (by decide +kernel) rfl rfl rfl) ?_
    exact gm_r_int (pc := 95) (by decide +kernel) (Or.inl (by decide +kernel)) hq
  | succ u ih =>
    intro k f z hk hf hb
    have hl := hM.2.2 (k : Int) (by omega) (by omega)
    rw [hL9, hL9, hL9, hL9] at hl
    obtain ⟨⟨l1, l2⟩, ⟨l3, l4⟩, l5, l6, l7⟩ := hl
    refine gm_sz (gm_p_load (pc := 4) (i := .iload_n 3) (sr := 0) (j := 3) (by decide +kernel) rfl rfl rfl) ?_
    refine gm_sz (gm_p_load (pc := 5) (i := .aload_n 0) (sr := 2) (j := 0) (by decide +kernel) rfl rfl rfl) ?_
    refine gm_sz (fw_gr (pc := 6) (ix := 14) (ci := 10) (j := 0) (r := 248) (by decide +kernel) (lk6 hL) (by decide +kernel) (by decide +kernel) hL.2.1.1) ?_
    refine gm_c_virt (k := 248) (ci := 2) (mj := 9) (ix := 26) (pc := 9) (as := []) (st := [gm_vi (k : Int)]) (d' := d - 1) (bc' := 0) (bs' := 0) (by decide +kernel) (by decide +kernel) (by decide +kernel) (by decide +kernel) (lk8 hL).1 (lk8 hL).2 (by decide) (by decide +kernel) (show 0 = gm_na 9 by decide +kernel) fw_c0 (show 1 ≤ gm_ml 9 by decide +kernel) (Nat.le_of_ble_eq_true rfl) (by omega) (Nat.zero_le _) (Nat.zero_le _) ?_
    refine rw_size (s := m) (lk8 hL) hm9 ?_
    show gm_Wp X LX d _ _ 40 12 _ [gm_vi m, gm_vi (k : Int)] n K _ _ Q
    refine fw_icf (cc := .ge) (pc := 12) (off := 82) (by decide +kernel) (by decide) ⟨by omega, by omega⟩ ⟨by omega, by omega⟩ (show ¬ m ≤ (k : Int) by omega) ?_
    refine gm_sz (gm_p_load (pc := 15) (i := .aload_n 0) (sr := 2) (j := 0) (by decide +kernel) rfl rfl rfl) ?_
    refine gm_sz (fw_gr (pc := 16) (ix := 14) (ci := 10) (j := 0) (r := 248) (by decide +kernel) (lk6 hL) (by decide +kernel) (by decide +kernel) hL.2.1.1) ?_
    refine gm_sz (gm_p_load (pc := 19) (i := .iload_n 3) (sr := 0) (j := 3) (by decide +kernel) rfl rfl rfl) ?_
    refine gm_sz (gm_p_const (pc := 20) (i := .iconst 0) (v := gm_vi 0) (by decide +kernel) (by decide +kernel)) ?_
    refine gm_c_virt (k := 248) (ci := 2) (mj := 10) (ix := 30) (pc := 21) (as := [gm_vi (k : Int), gm_vi 0]) (st := []) (d' := d - 1) (bc' := 0) (bs' := 0) (by decide +kernel) (by decide +kernel) (by decide +kernel) (by decide +kernel) (lk8 hL).1 (lk8 hL).2 (by decide) (by decide +kernel) (show 2 = gm_na 10 by decide +kernel) (fw_c2 fw_si fw_si) (show 3 ≤ gm_ml 10 by decide +kernel) (Nat.le_of_ble_eq_true rfl) (by omega) (Nat.zero_le _) (Nat.zero_le _) ?_
    refine rw_get (s := m) (w := 4) (x := L ((k : Int) * 4 + 0)) (lk8 hL) (lk9 hL) hL.2.1.2.2 (by decide) hm9 hM.1.2.1 ⟨by omega, by omega⟩ ⟨by omega, by omega⟩ ⟨by omega, by omega⟩ ⟨by omega, by omega⟩ (hL9 _) ?_
    show gm_Wp X LX d _ _ 40 24 _ [gm_vi (L ((k : Int) * 4 + 0))] n K _ _ Q
    refine gm_sz (gm_p_stor (pc := 24) (i := .istore 4) (sr := 0) (j := 4) (by decide +kernel) rfl (show 5 ≤ _ from Nat.le_of_ble_eq_true rfl) rfl) ?_
    refine gm_sz (gm_p_load (pc := 26) (i := .iload 4) (sr := 0) (j := 4) (by decide +kernel) rfl rfl rfl) ?_
    refine gm_sz (gm_p_const (pc := 28) (i := .iconst 2) (v := gm_vi 2) (by decide +kernel) (by decide +kernel)) ?_
    refine fw_ic (cc := .eq) (pc := 29) (off := 59) (by decide +kernel) (by decide) ⟨by omega, by omega⟩ ⟨by decide, by decide⟩ (fun h29 => ?_) (fun h29 => ?_)
    · have h29 : (L ((k : Int) * 4 + 0)) = 2 := h29
      refine gm_sz (gm_p_iinc (pc := 88) (j := 3) (z := 1) (by decide +kernel) rfl) ?_
      refine gm_sz (gm_p_goto (pc := 91) (off := (-87)) (by decide +kernel) (by decide)) ?_
      have e9 : lfas F C L (k + 1) = f := by
        show lfas F C L k + _ = _
        rw [← hf]
        first | rw [if_pos h29, if_pos v52, if_pos h61] | rw [if_pos h29, if_pos v52, if_neg h61] | rw [if_pos h29, if_neg v52] | rw [if_neg (Classical.not_not.mpr h29)]
        try omega
      exact ih (k + 1) _ _ (by omega) e9.symm ⟨by omega, by omega⟩
    · have h29 : ¬ (L ((k : Int) * 4 + 0)) = 2 := h29
      refine gm_sz (gm_p_load (pc := 32) (i := .aload_n 0) (sr := 2) (j := 0) (by decide +kernel) rfl rfl rfl) ?_
      refine gm_sz (gm_p_load (pc := 33) (i := .aload_n 0) (sr := 2) (j := 0) (by decide +kernel) rfl rfl rfl) ?_
      refine gm_sz (fw_gr (pc := 34) (ix := 14) (ci := 10) (j := 0) (r := 248) (by decide +kernel) (lk6 hL) (by decide +kernel) (by decide +kernel) hL.2.1.1) ?_
      refine gm_sz (gm_p_load (pc := 37) (i := .iload_n 3) (sr := 0) (j := 3) (by decide +kernel) rfl rfl rfl) ?_
      refine gm_sz (gm_p_const (pc := 38) (i := .iconst 2) (v := gm_vi 2) (by decide +kernel) (by decide +kernel)) ?_
      refine gm_c_virt (k := 248) (ci := 2) (mj := 10) (ix := 30) (pc := 39) (as := [gm_vi (k : Int), gm_vi 2]) (st := [gm_vr 246]) (d' := d - 1) (bc' := 0) (bs' := 0) (by decide +kernel) (by decide +kernel) (by decide +kernel) (by decide +kernel) (lk8 hL).1 (lk8 hL).2 (by decide) (by decide +kernel) (show 2 = gm_na 10 by decide +kernel) (fw_c2 fw_si fw_si) (show 3 ≤ gm_ml 10 by decide +kernel) (Nat.le_of_ble_eq_true rfl) (by omega) (Nat.zero_le _) (Nat.zero_le _) ?_
      refine rw_get (s := m) (w := 4) (x := L ((k : Int) * 4 + 2)) (lk8 hL) (lk9 hL) hL.2.1.2.2 (by decide) hm9 hM.1.2.1 ⟨by omega, by omega⟩ ⟨by omega, by omega⟩ ⟨by omega, by omega⟩ ⟨by omega, by omega⟩ (hL9 _) ?_
      show gm_Wp X LX d _ _ 40 42 _ [gm_vi (L ((k : Int) * 4 + 2)), gm_vr 246] n K _ _ Q
      refine gm_sz (gm_p_load (pc := 42) (i := .aload_n 0) (sr := 2) (j := 0) (by decide +kernel) rfl rfl rfl) ?_
      refine gm_sz (fw_gr (pc := 43) (ix := 14) (ci := 10) (j := 0) (r := 248) (by decide +kernel) (lk6 hL) (by decide +kernel) (by decide +kernel) hL.2.1.1) ?_
      refine gm_sz (gm_p_load (pc := 46) (i := .iload_n 3) (sr := 0) (j := 3) (by decide +kernel) rfl rfl rfl) ?_
      refine gm_sz (gm_p_const (pc := 47) (i := .iconst 3) (v := gm_vi 3) (by decide +kernel) (by decide +kernel)) ?_
      refine gm_c_virt (k := 248) (ci := 2) (mj := 10) (ix := 30) (pc := 48) (as := [gm_vi (k : Int), gm_vi 3]) (st := [gm_vi (L ((k : Int) * 4 + 2)), gm_vr 246]) (d' := d - 1) (bc' := 0) (bs' := 0) (by decide +kernel) (by decide +kernel) (by decide +kernel) (by decide +kernel) (lk8 hL).1 (lk8 hL).2 (by decide) (by decide +kernel) (show 2 = gm_na 10 by decide +kernel) (fw_c2 fw_si fw_si) (show 3 ≤ gm_ml 10 by decide +kernel) (Nat.le_of_ble_eq_true rfl) (by omega) (Nat.zero_le _) (Nat.zero_le _) ?_
      refine rw_get (s := m) (w := 4) (x := L ((k : Int) * 4 + 3)) (lk8 hL) (lk9 hL) hL.2.1.2.2 (by decide) hm9 hM.1.2.1 ⟨by omega, by omega⟩ ⟨by omega, by omega⟩ ⟨by omega, by omega⟩ ⟨by omega, by omega⟩ (hL9 _) ?_
      show gm_Wp X LX d _ _ 40 51 _ [gm_vi (L ((k : Int) * 4 + 3)), gm_vi (L ((k : Int) * 4 + 2)), gm_vr 246] n K _ _ Q
      refine gm_sz (gm_p_load (pc := 51) (i := .aload_n 1) (sr := 2) (j := 1) (by decide +kernel) rfl rfl rfl) ?_
      refine gm_c_virt (k := 246) (ci := 10) (mj := 41) (ix := 34) (pc := 52) (as := [gm_vi (L ((k : Int) * 4 + 2)), gm_vi (L ((k : Int) * 4 + 3)), gm_vr 204]) (st := []) (d' := d - 1) (bc' := 0) (bs' := 0) (by decide +kernel) (by decide +kernel) (by decide +kernel) (by decide +kernel) (lk6 hL).1 (lk6 hL).2 (by decide) (by decide +kernel) (show 3 = gm_na 41 by decide +kernel) (fw_c3 fw_si fw_si fw_sr) (show 4 ≤ gm_ml 41 by decide +kernel) (Nat.le_of_ble_eq_true rfl) (by omega) (Nat.zero_le _) (Nat.zero_le _) ?_
      refine ho_c41 (b := L ((k : Int) * 4 + 2)) (e := L ((k : Int) * 4 + 3)) hE hL hM hF hC9 (by omega) (by omega) (by omega) (fun v52 => ?_) (fun v52 => ?_)
      · show gm_Wp X LX d _ _ 40 55 _ [gm_vi 1] n K _ _ Q
        have v52 : evh F C (L ((k : Int) * 4 + 2)) (L ((k : Int) * 4 + 3)) := v52
        refine fw_iffd (cc := .eq) (pc := 55) (off := 33) (by decide +kernel) (by decide) ⟨by decide, by decide⟩ (by decide) ?_
        refine gm_sz (gm_p_load (pc := 58) (i := .iload_n 2) (sr := 0) (j := 2) (by decide +kernel) rfl rfl rfl) ?_
        refine gm_sz (gm_p_load (pc := 59) (i := .iload 4) (sr := 0) (j := 4) (by decide +kernel) rfl rfl rfl) ?_
        refine fw_if (cc := .ne) (pc := 61) (off := 15) (by decide +kernel) (by decide) ⟨by omega, by omega⟩ (fun h61 => ?_) (fun h61 => ?_)
        · have h61 : ¬ (L ((k : Int) * 4 + 0)) = 0 := h61
          refine gm_sz (gm_p_load (pc := 76) (i := .aload_n 0) (sr := 2) (j := 0) (by decide +kernel) rfl rfl rfl) ?_
          refine gm_sz (fw_gr (pc := 77) (ix := 14) (ci := 10) (j := 0) (r := 248) (by decide +kernel) (lk6 hL) (by decide +kernel) (by decide +kernel) hL.2.1.1) ?_
          refine gm_sz (gm_p_load (pc := 80) (i := .iload_n 3) (sr := 0) (j := 3) (by decide +kernel) rfl rfl rfl) ?_
          refine gm_sz (gm_p_const (pc := 81) (i := .iconst 1) (v := gm_vi 1) (by decide +kernel) (by decide +kernel)) ?_
          refine gm_c_virt (k := 248) (ci := 2) (mj := 10) (ix := 30) (pc := 82) (as := [gm_vi (k : Int), gm_vi 1]) (st := [gm_vi f]) (d' := d - 1) (bc' := 0) (bs' := 0) (by decide +kernel) (by decide +kernel) (by decide +kernel) (by decide +kernel) (lk8 hL).1 (lk8 hL).2 (by decide) (by decide +kernel) (show 2 = gm_na 10 by decide +kernel) (fw_c2 fw_si fw_si) (show 3 ≤ gm_ml 10 by decide +kernel) (Nat.le_of_ble_eq_true rfl) (by omega) (Nat.zero_le _) (Nat.zero_le _) ?_
          refine rw_get (s := m) (w := 4) (x := L ((k : Int) * 4 + 1)) (lk8 hL) (lk9 hL) hL.2.1.2.2 (by decide) hm9 hM.1.2.1 ⟨by omega, by omega⟩ ⟨by omega, by omega⟩ ⟨by omega, by omega⟩ ⟨by omega, by omega⟩ (hL9 _) ?_
          show gm_Wp X LX d _ _ 40 85 _ [gm_vi (L ((k : Int) * 4 + 1)), gm_vi f] n K _ _ Q
          refine gm_sz (gm_p_un (pc := 85) (i := .ineg) (f := fun x => - x) (by decide +kernel) rfl) ?_
          refine gm_sz (gm_p_bin (pc := 86) (i := .iadd) (f := fun x y => x + y) (by decide +kernel) rfl) ?_
          refine gm_sz (gm_p_stor (pc := 87) (i := .istore_n 2) (sr := 0) (j := 2) (by decide +kernel) rfl (show 3 ≤ _ from Nat.le_of_ble_eq_true rfl) rfl) ?_
          refine gm_sz (gm_p_iinc (pc := 88) (j := 3) (z := 1) (by decide +kernel) rfl) ?_
          refine gm_sz (gm_p_goto (pc := 91) (off := (-87)) (by decide +kernel) (by decide)) ?_
          have e9 : lfas F C L (k + 1) = f + (-(L ((k : Int) * 4 + 1))) := by
            show lfas F C L k + _ = _
            rw [← hf]
            first | rw [if_pos h29, if_pos v52, if_pos h61] | rw [if_pos h29, if_pos v52, if_neg h61] | rw [if_pos h29, if_neg v52] | rw [if_neg (Classical.not_not.mpr h29)]
            try omega
          exact ih (k + 1) _ _ (by omega) e9.symm ⟨by omega, by omega⟩
        · have h61 : (L ((k : Int) * 4 + 0)) = 0 := Classical.not_not.mp h61
          refine gm_sz (gm_p_load (pc := 64) (i := .aload_n 0) (sr := 2) (j := 0) (by decide +kernel) rfl rfl rfl) ?_
          refine gm_sz (fw_gr (pc := 65) (ix := 14) (ci := 10) (j := 0) (r := 248) (by decide +kernel) (lk6 hL) (by decide +kernel) (by decide +kernel) hL.2.1.1) ?_
          refine gm_sz (gm_p_load (pc := 68) (i := .iload_n 3) (sr := 0) (j := 3) (by decide +kernel) rfl rfl rfl) ?_
          refine gm_sz (gm_p_const (pc := 69) (i := .iconst 1) (v := gm_vi 1) (by decide +kernel) (by decide +kernel)) ?_
          refine gm_c_virt (k := 248) (ci := 2) (mj := 10) (ix := 30) (pc := 70) (as := [gm_vi (k : Int), gm_vi 1]) (st := [gm_vi f]) (d' := d - 1) (bc' := 0) (bs' := 0) (by decide +kernel) (by decide +kernel) (by decide +kernel) (by decide +kernel) (lk8 hL).1 (lk8 hL).2 (by decide) (by decide +kernel) (show 2 = gm_na 10 by decide +kernel) (fw_c2 fw_si fw_si) (show 3 ≤ gm_ml 10 by decide +kernel) (Nat.le_of_ble_eq_true rfl) (by omega) (Nat.zero_le _) (Nat.zero_le _) ?_
          refine rw_get (s := m) (w := 4) (x := L ((k : Int) * 4 + 1)) (lk8 hL) (lk9 hL) hL.2.1.2.2 (by decide) hm9 hM.1.2.1 ⟨by omega, by omega⟩ ⟨by omega, by omega⟩ ⟨by omega, by omega⟩ ⟨by omega, by omega⟩ (hL9 _) ?_
          show gm_Wp X LX d _ _ 40 73 _ [gm_vi (L ((k : Int) * 4 + 1)), gm_vi f] n K _ _ Q
          refine gm_sz (gm_p_goto (pc := 73) (off := 13) (by decide +kernel) (by decide)) ?_
          refine gm_sz (gm_p_bin (pc := 86) (i := .iadd) (f := fun x y => x + y) (by decide +kernel) rfl) ?_
          refine gm_sz (gm_p_stor (pc := 87) (i := .istore_n 2) (sr := 0) (j := 2) (by decide +kernel) rfl (show 3 ≤ _ from Nat.le_of_ble_eq_true rfl) rfl) ?_
          refine gm_sz (gm_p_iinc (pc := 88) (j := 3) (z := 1) (by decide +kernel) rfl) ?_
          refine gm_sz (gm_p_goto (pc := 91) (off := (-87)) (by decide +kernel) (by decide)) ?_
          have e9 : lfas F C L (k + 1) = f + (L ((k : Int) * 4 + 1)) := by
            show lfas F C L k + _ = _
            rw [← hf]
            first | rw [if_pos h29, if_pos v52, if_pos h61] | rw [if_pos h29, if_pos v52, if_neg h61] | rw [if_pos h29, if_neg v52] | rw [if_neg (Classical.not_not.mpr h29)]
            try omega
          exact ih (k + 1) _ _ (by omega) e9.symm ⟨by omega, by omega⟩
      · show gm_Wp X LX d _ _ 40 55 _ [gm_vi 0] n K _ _ Q
        have v52 : ¬ evh F C (L ((k : Int) * 4 + 2)) (L ((k : Int) * 4 + 3)) := v52
        refine fw_iftd (cc := .eq) (pc := 55) (off := 33) (by decide +kernel) (by decide) ⟨by decide, by decide⟩ (by decide) ?_
        refine gm_sz (gm_p_iinc (pc := 88) (j := 3) (z := 1) (by decide +kernel) rfl) ?_
        refine gm_sz (gm_p_goto (pc := 91) (off := (-87)) (by decide +kernel) (by decide)) ?_
        have e9 : lfas F C L (k + 1) = f := by
          show lfas F C L k + _ = _
          rw [← hf]
          first | rw [if_pos h29, if_pos v52, if_pos h61] | rw [if_pos h29, if_pos v52, if_neg h61] | rw [if_pos h29, if_neg v52] | rw [if_neg (Classical.not_not.mpr h29)]
          try omega
        exact ih (k + 1) _ _ (by omega) e9.symm ⟨by omega, by omega⟩
theorem fa_c40 (hd : 1 ≤ d) (hE : E0 n K R) (hL : LE n K R NC) (hM : LM NC M) (hF : ∀ j : Int, 0 ≤ j → j < 10 → M 204 j = F j) (hC9 : ∀ j, M 247 j = C j) {L : Int → Int} {m : Int} (hL9 : ∀ j, M 249 j = L j) (hm9 : M 248 3 = m) (hq : Q (.inl (some (gm_vi (lfas F C L m.toNat)))) n K R M) : gm_Wp X LX d bc bs 40 0 (gm_ent 40 [gm_vr 246, gm_vr 204]) [] n K R M Q := by
  have hm1 := hM.1.2.2
  rw [hm9] at hm1
  refine gm_sz (gm_p_const (pc := 0) (i := .iconst 0) (v := gm_vi 0) (by decide +kernel) (by decide +kernel)) ?_
  refine gm_sz (gm_p_stor (pc := 1) (i := .istore_n 2) (sr := 0) (j := 2) (by decide +kernel) rfl (show 3 ≤ _ from Nat.le_of_ble_eq_true rfl) rfl) ?_
  refine gm_sz (gm_p_const (pc := 2) (i := .iconst 0) (v := gm_vi 0) (by decide +kernel) (by decide +kernel)) ?_
  refine gm_sz (gm_p_stor (pc := 3) (i := .istore_n 3) (sr := 0) (j := 3) (by decide +kernel) rfl (show 4 ≤ _ from Nat.le_of_ble_eq_true rfl) rfl) ?_
  exact fa_l hd hE hL hM hF hC9 hL9 hm9 hq m.toNat 0 0 _ (by omega) rfl ⟨by omega, by omega⟩
theorem lo_l (hd : 1 ≤ d) (hE : E0 n K R) (hL : LE n K R NC) (hM : LM NC M) (hF : ∀ j : Int, 0 ≤ j → j < 10 → M 204 j = F j) (hC9 : ∀ j, M 247 j = C j) {L : Int → Int} {m : Int} (hL9 : ∀ j, M 249 j = L j) (hm9 : M 248 3 = m) (q1 : lopn F C L m → Q (.inl (some (gm_vi 1))) n K R M) (q0 : ¬ lopn F C L m → Q (.inl (some (gm_vi 0))) n K R M) : ∀ (u k : Nat) (z : Option gm_V), (k : Int) + (u : Int) = m → (∀ i : Int, 0 ≤ i → i < (k : Int) → ¬ (L (i * 4 + 0) = 2 ∧ evh F C (L (i * 4 + 2)) (L (i * 4 + 3)))) → gm_Wp X LX d bc bs 165 2 [some (gm_vr 246), some (gm_vr 204), some (gm_vi (k : Int)), z] [] n K R M Q := by
  have hm1 := hM.1.2.2
  rw [hm9] at hm1
  intro u
  induction u with
  | zero =>
    intro k z hk hb
    refine gm_sz (gm_p_load (pc := 2) (i := .iload_n 2) (sr := 0) (j := 2) (by decide +kernel) rfl rfl rfl) ?_
    refine gm_sz (gm_p_load (pc := 3) (i := .aload_n 0) (sr := 2) (j := 0) (by decide +kernel) rfl rfl rfl) ?_
    refine gm_sz (fw_gr (pc := 4) (ix := 14) (ci := 10) (j := 0) (r := 248) (by decide +kernel) (lk6 hL) (by decide +kernel) (by decide +kernel) hL.2.1.1) ?_
    refine gm_c_virt (k := 248) (ci := 2) (mj := 9) (ix := 26) (pc := 7) (as := []) (st := [gm_vi (k : Int)]) (d' := d - 1) (bc' := 0) (bs' := 0) (by decide +kernel) (by decide +kernel) (by decide +kernel) (by decide +kernel) (lk8 hL).1 (lk8 hL).2 (by decide) (by decide +kernel) (show 0 = gm_na 9 by decide +kernel) fw_c0 (show 1 ≤ gm_ml 9 by decide +kernel) (Nat.le_of_ble_eq_true rfl) (by omega) (Nat.zero_le _) (Nat.zero_le _) ?_
    refine rw_size (s := m) (lk8 hL) hm9 ?_
    show gm_Wp X LX d _ _ 165 10 _ [gm_vi m, gm_vi (k : Int)] n K _ _ Q
    refine fw_ict (cc := .ge) (pc := 10) (off := 60) (by decide +kernel) (by decide) ⟨by omega, by omega⟩ ⟨by omega, by omega⟩ (show m ≤ (k : Int) by omega) ?_
    refine gm_sz (gm_p_const (pc := 70) (i := .iconst 0) (v := gm_vi 0) (by decide +kernel) (by decide +kernel)) ?_
    exact gm_r_int (pc := 71) (by decide +kernel) (Or.inr ⟨(by decide +kernel), Or.inl rfl⟩) (q0 (fun ⟨i, h1, h2⟩ => hb i h1.1 (by omega) h2))
  | succ u ih =>
    intro k z hk hb
    have hl := hM.2.2 (k : Int) (by omega) (by omega)
    rw [hL9, hL9, hL9, hL9] at hl
    obtain ⟨⟨l1, l2⟩, ⟨l3, l4⟩, l5, l6, l7⟩ := hl
    refine gm_sz (gm_p_load (pc := 2) (i := .iload_n 2) (sr := 0) (j := 2) (by decide +kernel) rfl rfl rfl) ?_
    refine gm_sz (gm_p_load (pc := 3) (i := .aload_n 0) (sr := 2) (j := 0) (by decide +kernel) rfl rfl rfl) ?_
    refine gm_sz (fw_gr (pc := 4) (ix := 14) (ci := 10) (j := 0) (r := 248) (by decide +kernel) (lk6 hL) (by decide +kernel) (by decide +kernel) hL.2.1.1) ?_
    refine gm_c_virt (k := 248) (ci := 2) (mj := 9) (ix := 26) (pc := 7) (as := []) (st := [gm_vi (k : Int)]) (d' := d - 1) (bc' := 0) (bs' := 0) (by decide +kernel) (by decide +kernel) (by decide +kernel) (by decide +kernel) (lk8 hL).1 (lk8 hL).2 (by decide) (by decide +kernel) (show 0 = gm_na 9 by decide +kernel) fw_c0 (show 1 ≤ gm_ml 9 by decide +kernel) (Nat.le_of_ble_eq_true rfl) (by omega) (Nat.zero_le _) (Nat.zero_le _) ?_
    refine rw_size (s := m) (lk8 hL) hm9 ?_
    show gm_Wp X LX d _ _ 165 10 _ [gm_vi m, gm_vi (k : Int)] n K _ _ Q
    refine fw_icf (cc := .ge) (pc := 10) (off := 60) (by decide +kernel) (by decide) ⟨by omega, by omega⟩ ⟨by omega, by omega⟩ (show ¬ m ≤ (k : Int) by omega) ?_
    refine gm_sz (gm_p_load (pc := 13) (i := .aload_n 0) (sr := 2) (j := 0) (by decide +kernel) rfl rfl rfl) ?_
    refine gm_sz (fw_gr (pc := 14) (ix := 14) (ci := 10) (j := 0) (r := 248) (by decide +kernel) (lk6 hL) (by decide +kernel) (by decide +kernel) hL.2.1.1) ?_
    refine gm_sz (gm_p_load (pc := 17) (i := .iload_n 2) (sr := 0) (j := 2) (by decide +kernel) rfl rfl rfl) ?_
    refine gm_sz (gm_p_const (pc := 18) (i := .iconst 0) (v := gm_vi 0) (by decide +kernel) (by decide +kernel)) ?_
    refine gm_c_virt (k := 248) (ci := 2) (mj := 10) (ix := 30) (pc := 19) (as := [gm_vi (k : Int), gm_vi 0]) (st := []) (d' := d - 1) (bc' := 0) (bs' := 0) (by decide +kernel) (by decide +kernel) (by decide +kernel) (by decide +kernel) (lk8 hL).1 (lk8 hL).2 (by decide) (by decide +kernel) (show 2 = gm_na 10 by decide +kernel) (fw_c2 fw_si fw_si) (show 3 ≤ gm_ml 10 by decide +kernel) (Nat.le_of_ble_eq_true rfl) (by omega) (Nat.zero_le _) (Nat.zero_le _) ?_
    refine rw_get (s := m) (w := 4) (x := L ((k : Int) * 4 + 0)) (lk8 hL) (lk9 hL) hL.2.1.2.2 (by decide) hm9 hM.1.2.1 ⟨by omega, by omega⟩ ⟨by omega, by omega⟩ ⟨by omega, by omega⟩ ⟨by omega, by omega⟩ (hL9 _) ?_
    show gm_Wp X LX d _ _ 165 22 _ [gm_vi (L ((k : Int) * 4 + 0))] n K _ _ Q
    refine gm_sz (gm_p_const (pc := 22) (i := .iconst 2) (v := gm_vi 2) (by decide +kernel) (by decide +kernel)) ?_
    refine fw_ic (cc := .ne) (pc := 23) (off := 7) (by decide +kernel) (by decide) ⟨by omega, by omega⟩ ⟨by decide, by decide⟩ (fun h23 => ?_) (fun h23 => ?_)
    · have h23 : ¬ (L ((k : Int) * 4 + 0)) = 2 := h23
      refine gm_sz (gm_p_const (pc := 30) (i := .iconst 0) (v := gm_vi 0) (by decide +kernel) (by decide +kernel)) ?_
      refine gm_sz (gm_p_stor (pc := 31) (i := .istore_n 3) (sr := 0) (j := 3) (by decide +kernel) rfl (show 4 ≤ _ from Nat.le_of_ble_eq_true rfl) rfl) ?_
      refine gm_sz (gm_p_load (pc := 32) (i := .iload_n 3) (sr := 0) (j := 3) (by decide +kernel) rfl rfl rfl) ?_
      refine fw_iftd (cc := .eq) (pc := 33) (off := 31) (by decide +kernel) (by decide) ⟨by decide, by decide⟩ (by decide) ?_
      refine gm_sz (gm_p_iinc (pc := 64) (j := 2) (z := 1) (by decide +kernel) rfl) ?_
      refine gm_sz (gm_p_goto (pc := 67) (off := (-65)) (by decide +kernel) (by decide)) ?_
      refine ih (k + 1) _ (by omega) (fun i i1 i2 hh => ?_)
      by_cases e : i = (k : Int)
      · subst e
        first | exact h23 hh.1 | exact v56 hh.2
      · exact hb i i1 (by omega) hh
    · have h23 : (L ((k : Int) * 4 + 0)) = 2 := Classical.not_not.mp h23
      refine gm_sz (gm_p_const (pc := 26) (i := .iconst 1) (v := gm_vi 1) (by decide +kernel) (by decide +kernel)) ?_
      refine gm_sz (gm_p_goto (pc := 27) (off := 4) (by decide +kernel) (by decide)) ?_
      refine gm_sz (gm_p_stor (pc := 31) (i := .istore_n 3) (sr := 0) (j := 3) (by decide +kernel) rfl (show 4 ≤ _ from Nat.le_of_ble_eq_true rfl) rfl) ?_
      refine gm_sz (gm_p_load (pc := 32) (i := .iload_n 3) (sr := 0) (j := 3) (by decide +kernel) rfl rfl rfl) ?_
      refine fw_iffd (cc := .eq) (pc := 33) (off := 31) (by decide +kernel) (by decide) ⟨by decide, by decide⟩ (by decide) ?_
      refine gm_sz (gm_p_load (pc := 36) (i := .aload_n 0) (sr := 2) (j := 0) (by decide +kernel) rfl rfl rfl) ?_
      refine gm_sz (gm_p_load (pc := 37) (i := .aload_n 0) (sr := 2) (j := 0) (by decide +kernel) rfl rfl rfl) ?_
      refine gm_sz (fw_gr (pc := 38) (ix := 14) (ci := 10) (j := 0) (r := 248) (by decide +kernel) (lk6 hL) (by decide +kernel) (by decide +kernel) hL.2.1.1) ?_
      refine gm_sz (gm_p_load (pc := 41) (i := .iload_n 2) (sr := 0) (j := 2) (by decide +kernel) rfl rfl rfl) ?_
      refine gm_sz (gm_p_const (pc := 42) (i := .iconst 2) (v := gm_vi 2) (by decide +kernel) (by decide +kernel)) ?_
      refine gm_c_virt (k := 248) (ci := 2) (mj := 10) (ix := 30) (pc := 43) (as := [gm_vi (k : Int), gm_vi 2]) (st := [gm_vr 246]) (d' := d - 1) (bc' := 0) (bs' := 0) (by decide +kernel) (by decide +kernel) (by decide +kernel) (by decide +kernel) (lk8 hL).1 (lk8 hL).2 (by decide) (by decide +kernel) (show 2 = gm_na 10 by decide +kernel) (fw_c2 fw_si fw_si) (show 3 ≤ gm_ml 10 by decide +kernel) (Nat.le_of_ble_eq_true rfl) (by omega) (Nat.zero_le _) (Nat.zero_le _) ?_
      refine rw_get (s := m) (w := 4) (x := L ((k : Int) * 4 + 2)) (lk8 hL) (lk9 hL) hL.2.1.2.2 (by decide) hm9 hM.1.2.1 ⟨by omega, by omega⟩ ⟨by omega, by omega⟩ ⟨by omega, by omega⟩ ⟨by omega, by omega⟩ (hL9 _) ?_
      show gm_Wp X LX d _ _ 165 46 _ [gm_vi (L ((k : Int) * 4 + 2)), gm_vr 246] n K _ _ Q
      refine gm_sz (gm_p_load (pc := 46) (i := .aload_n 0) (sr := 2) (j := 0) (by decide +kernel) rfl rfl rfl) ?_
      refine gm_sz (fw_gr (pc := 47) (ix := 14) (ci := 10) (j := 0) (r := 248) (by decide +kernel) (lk6 hL) (by decide +kernel) (by decide +kernel) hL.2.1.1) ?_
      refine gm_sz (gm_p_load (pc := 50) (i := .iload_n 2) (sr := 0) (j := 2) (by decide +kernel) rfl rfl rfl) ?_
      refine gm_sz (gm_p_const (pc := 51) (i := .iconst 3) (v := gm_vi 3) (by decide +kernel) (by decide +kernel)) ?_
      refine gm_c_virt (k := 248) (ci := 2) (mj := 10) (ix := 30) (pc := 52) (as := [gm_vi (k : Int), gm_vi 3]) (st := [gm_vi (L ((k : Int) * 4 + 2)), gm_vr 246]) (d' := d - 1) (bc' := 0) (bs' := 0) (by decide +kernel) (by decide +kernel) (by decide +kernel) (by decide +kernel) (lk8 hL).1 (lk8 hL).2 (by decide) (by decide +kernel) (show 2 = gm_na 10 by decide +kernel) (fw_c2 fw_si fw_si) (show 3 ≤ gm_ml 10 by decide +kernel) (Nat.le_of_ble_eq_true rfl) (by omega) (Nat.zero_le _) (Nat.zero_le _) ?_
      refine rw_get (s := m) (w := 4) (x := L ((k : Int) * 4 + 3)) (lk8 hL) (lk9 hL) hL.2.1.2.2 (by decide) hm9 hM.1.2.1 ⟨by omega, by omega⟩ ⟨by omega, by omega⟩ ⟨by omega, by omega⟩ ⟨by omega, by omega⟩ (hL9 _) ?_
      show gm_Wp X LX d _ _ 165 55 _ [gm_vi (L ((k : Int) * 4 + 3)), gm_vi (L ((k : Int) * 4 + 2)), gm_vr 246] n K _ _ Q
      refine gm_sz (gm_p_load (pc := 55) (i := .aload_n 1) (sr := 2) (j := 1) (by decide +kernel) rfl rfl rfl) ?_
      refine gm_c_virt (k := 246) (ci := 10) (mj := 41) (ix := 34) (pc := 56) (as := [gm_vi (L ((k : Int) * 4 + 2)), gm_vi (L ((k : Int) * 4 + 3)), gm_vr 204]) (st := []) (d' := d - 1) (bc' := 0) (bs' := 0) (by decide +kernel) (by decide +kernel) (by decide +kernel) (by decide +kernel) (lk6 hL).1 (lk6 hL).2 (by decide) (by decide +kernel) (show 3 = gm_na 41 by decide +kernel) (fw_c3 fw_si fw_si fw_sr) (show 4 ≤ gm_ml 41 by decide +kernel) (Nat.le_of_ble_eq_true rfl) (by omega) (Nat.zero_le _) (Nat.zero_le _) ?_
      refine ho_c41 (b := L ((k : Int) * 4 + 2)) (e := L ((k : Int) * 4 + 3)) hE hL hM hF hC9 (by omega) (by omega) (by omega) (fun v56 => ?_) (fun v56 => ?_)
      · show gm_Wp X LX d _ _ 165 59 _ [gm_vi 1] n K _ _ Q
        have v56 : evh F C (L ((k : Int) * 4 + 2)) (L ((k : Int) * 4 + 3)) := v56
        refine fw_iffd (cc := .eq) (pc := 59) (off := 5) (by decide +kernel) (by decide) ⟨by decide, by decide⟩ (by decide) ?_
        refine gm_sz (gm_p_const (pc := 62) (i := .iconst 1) (v := gm_vi 1) (by decide +kernel) (by decide +kernel)) ?_
        exact gm_r_int (pc := 63) (by decide +kernel) (Or.inr ⟨(by decide +kernel), Or.inr rfl⟩) (q1 ⟨(k : Int), ⟨by omega, by omega⟩, h23, v56⟩)
      · show gm_Wp X LX d _ _ 165 59 _ [gm_vi 0] n K _ _ Q
        have v56 : ¬ evh F C (L ((k : Int) * 4 + 2)) (L ((k : Int) * 4 + 3)) := v56
        refine fw_iftd (cc := .eq) (pc := 59) (off := 5) (by decide +kernel) (by decide) ⟨by decide, by decide⟩ (by decide) ?_
        refine gm_sz (gm_p_iinc (pc := 64) (j := 2) (z := 1) (by decide +kernel) rfl) ?_
        refine gm_sz (gm_p_goto (pc := 67) (off := (-65)) (by decide +kernel) (by decide)) ?_
        refine ih (k + 1) _ (by omega) (fun i i1 i2 hh => ?_)
        by_cases e : i = (k : Int)
        · subst e
          first | exact h23 hh.1 | exact v56 hh.2
        · exact hb i i1 (by omega) hh
theorem lo_c165 (hd : 1 ≤ d) (hE : E0 n K R) (hL : LE n K R NC) (hM : LM NC M) (hF : ∀ j : Int, 0 ≤ j → j < 10 → M 204 j = F j) (hC9 : ∀ j, M 247 j = C j) {L : Int → Int} {m : Int} (hL9 : ∀ j, M 249 j = L j) (hm9 : M 248 3 = m) (q1 : lopn F C L m → Q (.inl (some (gm_vi 1))) n K R M) (q0 : ¬ lopn F C L m → Q (.inl (some (gm_vi 0))) n K R M) : gm_Wp X LX d bc bs 165 0 (gm_ent 165 [gm_vr 246, gm_vr 204]) [] n K R M Q := by
  have hm1 := hM.1.2.2
  rw [hm9] at hm1
  refine gm_sz (gm_p_const (pc := 0) (i := .iconst 0) (v := gm_vi 0) (by decide +kernel) (by decide +kernel)) ?_
  refine gm_sz (gm_p_stor (pc := 1) (i := .istore_n 2) (sr := 0) (j := 2) (by decide +kernel) rfl (show 3 ≤ _ from Nat.le_of_ble_eq_true rfl) rfl) ?_
  exact lo_l hd hE hL hM hF hC9 hL9 hm9 q1 q0 m.toNat 0 _ (by omega) (fun i h1 h2 => absurd h2 (by omega))
end LEV
end
