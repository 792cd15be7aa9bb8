/-! PLACES OF A STATE: what is written there changes one number of the world. -/
def pl (i : Int) : Nat × Int := if i < 15 then (if i = 0 then (0, 0) else if i = 1 then (0, 1) else if i = 2 then (1, 3) else if i = 3 then (5, 3) else if i = 4 then (7, 3) else if i = 5 then (3, 3) else if i = 6 then (9, 3) else if i = 7 then (0, 7) else if i = 9 then (0, 6) else if i = 10 then (0, 2) else if i = 11 then (0, 3) else if i = 12 then (0, 4) else if i = 13 then (0, 5) else if i = 14 then (11, 3) else (0, 9)) else if i < 71 then (2, i - 15) else if i < 95 then (4, i - 71) else if i < 119 then (6, i - 95) else if i < 287 then (8, i - 119) else if i < 323 then (10, i - 287) else (12, i - 323)
def ip (q : Nat × Int) : Int := if q.1 = 0 ∧ q.2 = 0 then 0 else if q.1 = 0 ∧ q.2 = 1 then 1 else if q.1 = 1 ∧ q.2 = 3 then 2 else if q.1 = 5 ∧ q.2 = 3 then 3 else if q.1 = 7 ∧ q.2 = 3 then 4 else if q.1 = 3 ∧ q.2 = 3 then 5 else if q.1 = 9 ∧ q.2 = 3 then 6 else if q.1 = 0 ∧ q.2 = 7 then 7 else if q.1 = 0 ∧ q.2 = 6 then 9 else if q.1 = 0 ∧ q.2 = 2 then 10 else if q.1 = 0 ∧ q.2 = 3 then 11 else if q.1 = 0 ∧ q.2 = 4 then 12 else if q.1 = 0 ∧ q.2 = 5 then 13 else if q.1 = 11 ∧ q.2 = 3 then 14 else if q.1 = 2 then q.2 + 15 else if q.1 = 4 then q.2 + 71 else if q.1 = 6 then q.2 + 95 else if q.1 = 8 then q.2 + 119 else if q.1 = 10 then q.2 + 287 else q.2 + 323
theorem pl_cases {i : Int} (h : 0 ≤ i ∧ i < 395 ∧ ¬ i = 8) : i = 0 ∨ i = 1 ∨ i = 2 ∨ i = 3 ∨ i = 4 ∨ i = 5 ∨ i = 6 ∨ i = 7 ∨ i = 9 ∨ i = 10 ∨ i = 11 ∨ i = 12 ∨ i = 13 ∨ i = 14 ∨ (15 ≤ i ∧ i < 71) ∨ (71 ≤ i ∧ i < 95) ∨ (95 ≤ i ∧ i < 119) ∨ (119 ≤ i ∧ i < 287) ∨ (287 ≤ i ∧ i < 323) ∨ (323 ≤ i ∧ i < 395) := by omega
section PL
variable {M : gm_M} {b : Nat} {i j k v : Int}
theorem cs_pl (h : 0 ≤ i ∧ i < 395 ∧ ¬ i = 8) : cs M b i = M (b + (pl i).1) (pl i).2 := by
  rcases pl_cases h with rfl | rfl | rfl | rfl | rfl | rfl | rfl | rfl | rfl | rfl | rfl | rfl | rfl | rfl | h | h | h | h | h | h
  · rfl
  · rfl
  · rfl
  · rfl
  · rfl
  · rfl
  · rfl
  · rfl
  · rfl
  · rfl
  · rfl
  · rfl
  · rfl
  · rfl
  · unfold cs pl
    rw [if_neg (show ¬ i < 0 by omega), if_neg (show ¬ i < 15 by omega), if_neg (show ¬ i < 15 by omega), if_pos (show i < 71 by omega), if_pos (show i < 71 by omega)]
  · unfold cs pl
    rw [if_neg (show ¬ i < 0 by omega), if_neg (show ¬ i < 15 by omega), if_neg (show ¬ i < 15 by omega), if_neg (show ¬ i < 71 by omega), if_neg (show ¬ i < 71 by omega), if_pos (show i < 95 by omega), if_pos (show i < 95 by omega)]
  · unfold cs pl
    rw [if_neg (show ¬ i < 0 by omega), if_neg (show ¬ i < 15 by omega), if_neg (show ¬ i < 15 by omega), if_neg (show ¬ i < 71 by omega), if_neg (show ¬ i < 71 by omega), if_neg (show ¬ i < 95 by omega), if_neg (show ¬ i < 95 by omega), if_pos (show i < 119 by omega), if_pos (show i < 119 by omega)]
  · unfold cs pl
    rw [if_neg (show ¬ i < 0 by omega), if_neg (show ¬ i < 15 by omega), if_neg (show ¬ i < 15 by omega), if_neg (show ¬ i < 71 by omega), if_neg (show ¬ i < 71 by omega), if_neg (show ¬ i < 95 by omega), if_neg (show ¬ i < 95 by omega), if_neg (show ¬ i < 119 by omega), if_neg (show ¬ i < 119 by omega), if_pos (show i < 287 by omega), if_pos (show i < 287 by omega)]
  · unfold cs pl
    rw [if_neg (show ¬ i < 0 by omega), if_neg (show ¬ i < 15 by omega), if_neg (show ¬ i < 15 by omega), if_neg (show ¬ i < 71 by omega), if_neg (show ¬ i < 71 by omega), if_neg (show ¬ i < 95 by omega), if_neg (show ¬ i < 95 by omega), if_neg (show ¬ i < 119 by omega), if_neg (show ¬ i < 119 by omega), if_neg (show ¬ i < 287 by omega), if_neg (show ¬ i < 287 by omega), if_pos (show i < 323 by omega), if_pos (show i < 323 by omega)]
  · unfold cs pl
    rw [if_neg (show ¬ i < 0 by omega), if_neg (show ¬ i < 15 by omega), if_neg (show ¬ i < 15 by omega), if_neg (show ¬ i < 71 by omega), if_neg (show ¬ i < 71 by omega), if_neg (show ¬ i < 95 by omega), if_neg (show ¬ i < 95 by omega), if_neg (show ¬ i < 119 by omega), if_neg (show ¬ i < 119 by omega), if_neg (show ¬ i < 287 by omega), if_neg (show ¬ i < 287 by omega), if_neg (show ¬ i < 323 by omega), if_neg (show ¬ i < 323 by omega), if_pos (show i < 395 by omega)]
theorem cs_no (h : ¬ (0 ≤ i ∧ i < 395 ∧ ¬ i = 8)) : cs M b i = 0 := by
  unfold cs
  by_cases h0 : i < 0
  · rw [if_pos h0]
  · rw [if_neg h0]
    by_cases h8 : i = 8
    · subst h8
      rfl
    · rw [if_neg (show ¬ i < 15 by omega), if_neg (show ¬ i < 71 by omega), if_neg (show ¬ i < 95 by omega), if_neg (show ¬ i < 119 by omega), if_neg (show ¬ i < 287 by omega), if_neg (show ¬ i < 323 by omega), if_neg (show ¬ i < 395 by omega)]
theorem ip_pl (h : 0 ≤ i ∧ i < 395 ∧ ¬ i = 8) : ip (pl i) = i := by
  rcases pl_cases h with rfl | rfl | rfl | rfl | rfl | rfl | rfl | rfl | rfl | rfl | rfl | rfl | rfl | rfl | h | h | h | h | h | h
  · rfl
  · rfl
  · rfl
  · rfl
  · rfl
  · rfl
  · rfl
  · rfl
  · rfl
  · rfl
  · rfl
  · rfl
  · rfl
  · rfl
  · have e : pl i = (2, i - 15) := by
      unfold pl
      rw [if_neg (show ¬ i < 15 by omega), if_pos (show i < 71 by omega)]
    rw [e]
    unfold ip
    dsimp only
    rw [if_neg (by omega), if_neg (by omega), if_neg (by omega), if_neg (by omega), if_neg (by omega), if_neg (by omega), if_neg (by omega), if_neg (by omega), if_neg (by omega), if_neg (by omega), if_neg (by omega), if_neg (by omega), if_neg (by omega), if_neg (by omega), if_pos rfl]
    omega
  · have e : pl i = (4, i - 71) := by
      unfold pl
      rw [if_neg (show ¬ i < 15 by omega), if_neg (show ¬ i < 71 by omega), if_pos (show i < 95 by omega)]
    rw [e]
    unfold ip
    dsimp only
    rw [if_neg (by omega), if_neg (by omega), if_neg (by omega), if_neg (by omega), if_neg (by omega), if_neg (by omega), if_neg (by omega), if_neg (by omega), if_neg (by omega), if_neg (by omega), if_neg (by omega), if_neg (by omega), if_neg (by omega), if_neg (by omega), if_neg (by omega), if_pos rfl]
    omega
  · have e : pl i = (6, i - 95) := by
      unfold pl
      rw [if_neg (show ¬ i < 15 by omega), if_neg (show ¬ i < 71 by omega), if_neg (show ¬ i < 95 by omega), if_pos (show i < 119 by omega)]
    rw [e]
    unfold ip
    dsimp only
    rw [if_neg (by omega), if_neg (by omega), if_neg (by omega), if_neg (by omega), if_neg (by omega), if_neg (by omega), if_neg (by omega), if_neg (by omega), if_neg (by omega), if_neg (by omega), if_neg (by omega), if_neg (by omega), if_neg (by omega), if_neg (by omega), if_neg (by omega), if_neg (by omega), if_pos rfl]
    omega
  · have e : pl i = (8, i - 119) := by
      unfold pl
      rw [if_neg (show ¬ i < 15 by omega), if_neg (show ¬ i < 71 by omega), if_neg (show ¬ i < 95 by omega), if_neg (show ¬ i < 119 by omega), if_pos (show i < 287 by omega)]
    rw [e]
    unfold ip
    dsimp only
    rw [if_neg (by omega), if_neg (by omega), if_neg (by omega), if_neg (by omega), if_neg (by omega), if_neg (by omega), if_neg (by omega), if_neg (by omega), if_neg (by omega), if_neg (by omega), if_neg (by omega), if_neg (by omega), if_neg (by omega), if_neg (by omega), if_neg (by omega), if_neg (by omega), if_neg (by omega), if_pos rfl]
    omega
  · have e : pl i = (10, i - 287) := by
      unfold pl
      rw [if_neg (show ¬ i < 15 by omega), if_neg (show ¬ i < 71 by omega), if_neg (show ¬ i < 95 by omega), if_neg (show ¬ i < 119 by omega), if_neg (show ¬ i < 287 by omega), if_pos (show i < 323 by omega)]
    rw [e]
    unfold ip
    dsimp only
    rw [if_neg (by omega), if_neg (by omega), if_neg (by omega), if_neg (by omega), if_neg (by omega), if_neg (by omega), if_neg (by omega), if_neg (by omega), if_neg (by omega), if_neg (by omega), if_neg (by omega), if_neg (by omega), if_neg (by omega), if_neg (by omega), if_neg (by omega), if_neg (by omega), if_neg (by omega), if_neg (by omega), if_pos rfl]
    omega
  · have e : pl i = (12, i - 323) := by
      unfold pl
      rw [if_neg (show ¬ i < 15 by omega), if_neg (show ¬ i < 71 by omega), if_neg (show ¬ i < 95 by omega), if_neg (show ¬ i < 119 by omega), if_neg (show ¬ i < 287 by omega), if_neg (show ¬ i < 323 by omega)]
    rw [e]
    unfold ip
    dsimp only
    rw [if_neg (by omega), if_neg (by omega), if_neg (by omega), if_neg (by omega), if_neg (by omega), if_neg (by omega), if_neg (by omega), if_neg (by omega), if_neg (by omega), if_neg (by omega), if_neg (by omega), if_neg (by omega), if_neg (by omega), if_neg (by omega), if_neg (by omega), if_neg (by omega), if_neg (by omega), if_neg (by omega), if_neg (by omega)]
    omega
theorem cs_put (hk : 0 ≤ k ∧ k < 395 ∧ ¬ k = 8) : cs (gm_uM M (b + (pl k).1) (pl k).2 v) b = nup (cs M b) k v := by
  funext i
  by_cases hi : 0 ≤ i ∧ i < 395 ∧ ¬ i = 8
  · by_cases e : i = k
    · subst e
      rw [cs_pl hi, nup_at]
      exact uM_at
    · rw [cs_pl hi, nup_ne e, cs_pl hi]
      refine uM_ne (fun hh => e ?_)
      have e1 : pl i = pl k := Prod.ext (by omega) hh.2
      rw [← ip_pl hi, ← ip_pl hk, e1]
  · rw [cs_no hi, nup_ne (fun e => hi (by rw [e]; exact hk)), cs_no hi]
theorem cs_f0 : cs (gm_uM M (b + 0) 0 v) b = nup (cs M b) 0 v := cs_put (k := 0) (by decide)
theorem cs_f1 : cs (gm_uM M (b + 0) 1 v) b = nup (cs M b) 1 v := cs_put (k := 1) (by decide)
theorem cs_f2 : cs (gm_uM M (b + 1) 3 v) b = nup (cs M b) 2 v := cs_put (k := 2) (by decide)
theorem cs_f3 : cs (gm_uM M (b + 5) 3 v) b = nup (cs M b) 3 v := cs_put (k := 3) (by decide)
theorem cs_f4 : cs (gm_uM M (b + 7) 3 v) b = nup (cs M b) 4 v := cs_put (k := 4) (by decide)
theorem cs_f5 : cs (gm_uM M (b + 3) 3 v) b = nup (cs M b) 5 v := cs_put (k := 5) (by decide)
theorem cs_f6 : cs (gm_uM M (b + 9) 3 v) b = nup (cs M b) 6 v := cs_put (k := 6) (by decide)
theorem cs_f7 : cs (gm_uM M (b + 0) 7 v) b = nup (cs M b) 7 v := cs_put (k := 7) (by decide)
theorem cs_f9 : cs (gm_uM M (b + 0) 6 v) b = nup (cs M b) 9 v := cs_put (k := 9) (by decide)
theorem cs_f10 : cs (gm_uM M (b + 0) 2 v) b = nup (cs M b) 10 v := cs_put (k := 10) (by decide)
theorem cs_f11 : cs (gm_uM M (b + 0) 3 v) b = nup (cs M b) 11 v := cs_put (k := 11) (by decide)
theorem cs_f12 : cs (gm_uM M (b + 0) 4 v) b = nup (cs M b) 12 v := cs_put (k := 12) (by decide)
theorem cs_f13 : cs (gm_uM M (b + 0) 5 v) b = nup (cs M b) 13 v := cs_put (k := 13) (by decide)
theorem cs_f14 : cs (gm_uM M (b + 11) 3 v) b = nup (cs M b) 14 v := cs_put (k := 14) (by decide)
theorem cs_pS (h0 : 0 ≤ j) (h1 : j < 56) : cs (gm_uM M (b + 2) j v) b = nup (cs M b) (15 + j) v := by
  have e : pl (15 + j) = (2, j) := by
    unfold pl
    rw [if_neg (show ¬ 15 + j < 15 by omega), if_pos (show 15 + j < 71 by omega), show 15 + j - 15 = j by omega]
  have := cs_put (M := M) (b := b) (k := 15 + j) (v := v) ⟨by omega, by omega, by omega⟩
  rw [e] at this
  exact this
theorem cs_pF (h0 : 0 ≤ j) (h1 : j < 24) : cs (gm_uM M (b + 4) j v) b = nup (cs M b) (71 + j) v := by
  have e : pl (71 + j) = (4, j) := by
    unfold pl
    rw [if_neg (show ¬ 71 + j < 15 by omega), if_neg (show ¬ 71 + j < 71 by omega), if_pos (show 71 + j < 95 by omega), show 71 + j - 71 = j by omega]
  have := cs_put (M := M) (b := b) (k := 71 + j) (v := v) ⟨by omega, by omega, by omega⟩
  rw [e] at this
  exact this
theorem cs_pP (h0 : 0 ≤ j) (h1 : j < 24) : cs (gm_uM M (b + 6) j v) b = nup (cs M b) (95 + j) v := by
  have e : pl (95 + j) = (6, j) := by
    unfold pl
    rw [if_neg (show ¬ 95 + j < 15 by omega), if_neg (show ¬ 95 + j < 71 by omega), if_neg (show ¬ 95 + j < 95 by omega), if_pos (show 95 + j < 119 by omega), show 95 + j - 95 = j by omega]
  have := cs_put (M := M) (b := b) (k := 95 + j) (v := v) ⟨by omega, by omega, by omega⟩
  rw [e] at this
  exact this
theorem cs_pL (h0 : 0 ≤ j) (h1 : j < 168) : cs (gm_uM M (b + 8) j v) b = nup (cs M b) (119 + j) v := by
  have e : pl (119 + j) = (8, j) := by
    unfold pl
    rw [if_neg (show ¬ 119 + j < 15 by omega), if_neg (show ¬ 119 + j < 71 by omega), if_neg (show ¬ 119 + j < 95 by omega), if_neg (show ¬ 119 + j < 119 by omega), if_pos (show 119 + j < 287 by omega), show 119 + j - 119 = j by omega]
  have := cs_put (M := M) (b := b) (k := 119 + j) (v := v) ⟨by omega, by omega, by omega⟩
  rw [e] at this
  exact this
theorem cs_pT (h0 : 0 ≤ j) (h1 : j < 36) : cs (gm_uM M (b + 10) j v) b = nup (cs M b) (287 + j) v := by
  have e : pl (287 + j) = (10, j) := by
    unfold pl
    rw [if_neg (show ¬ 287 + j < 15 by omega), if_neg (show ¬ 287 + j < 71 by omega), if_neg (show ¬ 287 + j < 95 by omega), if_neg (show ¬ 287 + j < 119 by omega), if_neg (show ¬ 287 + j < 287 by omega), if_pos (show 287 + j < 323 by omega), show 287 + j - 287 = j by omega]
  have := cs_put (M := M) (b := b) (k := 287 + j) (v := v) ⟨by omega, by omega, by omega⟩
  rw [e] at this
  exact this
theorem cs_pO (h0 : 0 ≤ j) (h1 : j < 72) : cs (gm_uM M (b + 12) j v) b = nup (cs M b) (323 + j) v := by
  have e : pl (323 + j) = (12, j) := by
    unfold pl
    rw [if_neg (show ¬ 323 + j < 15 by omega), if_neg (show ¬ 323 + j < 71 by omega), if_neg (show ¬ 323 + j < 95 by omega), if_neg (show ¬ 323 + j < 119 by omega), if_neg (show ¬ 323 + j < 287 by omega), if_neg (show ¬ 323 + j < 323 by omega), show 323 + j - 323 = j by omega]
  have := cs_put (M := M) (b := b) (k := 323 + j) (v := v) ⟨by omega, by omega, by omega⟩
  rw [e] at this
  exact this
/-- what is written elsewhere doesn't change the state at b -/
theorem cs_el {c : Nat} (h : c < b ∨ b + 12 < c) : cs (gm_uM M c j v) b = cs M b := by
  funext i
  by_cases hi : 0 ≤ i ∧ i < 395 ∧ ¬ i = 8
  · rw [cs_pl hi, cs_pl hi]
    refine uM_ne (fun hh => ?_)
    have hb : (pl i).1 ≤ 12 := by
      rcases pl_cases hi with rfl | rfl | rfl | rfl | rfl | rfl | rfl | rfl | rfl | rfl | rfl | rfl | rfl | rfl | h | h | h | h | h | h
      · decide
      · decide
      · decide
      · decide
      · decide
      · decide
      · decide
      · decide
      · decide
      · decide
      · decide
      · decide
      · decide
      · decide
      · unfold pl
        rw [if_neg (show ¬ i < 15 by omega), if_pos (show i < 71 by omega)]
        exact Nat.le_of_ble_eq_true rfl
      · unfold pl
        rw [if_neg (show ¬ i < 15 by omega), if_neg (show ¬ i < 71 by omega), if_pos (show i < 95 by omega)]
        exact Nat.le_of_ble_eq_true rfl
      · unfold pl
        rw [if_neg (show ¬ i < 15 by omega), if_neg (show ¬ i < 71 by omega), if_neg (show ¬ i < 95 by omega), if_pos (show i < 119 by omega)]
        exact Nat.le_of_ble_eq_true rfl
      · unfold pl
        rw [if_neg (show ¬ i < 15 by omega), if_neg (show ¬ i < 71 by omega), if_neg (show ¬ i < 95 by omega), if_neg (show ¬ i < 119 by omega), if_pos (show i < 287 by omega)]
        exact Nat.le_of_ble_eq_true rfl
      · unfold pl
        rw [if_neg (show ¬ i < 15 by omega), if_neg (show ¬ i < 71 by omega), if_neg (show ¬ i < 95 by omega), if_neg (show ¬ i < 119 by omega), if_neg (show ¬ i < 287 by omega), if_pos (show i < 323 by omega)]
        exact Nat.le_of_ble_eq_true rfl
      · unfold pl
        rw [if_neg (show ¬ i < 15 by omega), if_neg (show ¬ i < 71 by omega), if_neg (show ¬ i < 95 by omega), if_neg (show ¬ i < 119 by omega), if_neg (show ¬ i < 287 by omega), if_neg (show ¬ i < 323 by omega)]
        exact Nat.le_refl _
    omega
  · rw [cs_no hi, cs_no hi]
end PL
/-- a letter opened by p -/
def nopn (N : Int → Int) (l p : Int) : Int → Int := nup (nup (nup (nup (nup (nup N (119 + (l * 7 + 5)) p) (119 + (l * 7 + 6)) (N 9)) 14 (N 14 + 1)) (323 + (N 14 * 3 + 0)) (N 9)) (323 + (N 14 * 3 + 1)) l) (323 + (N 14 * 3 + 2)) p
/-- a year more -/
def nyr (N : Int → Int) : Int → Int := nup N 9 (N 9 + 1)
/-- a letter thrown in -/
def nthr (N : Int → Int) (f t l r : Int) : Int → Int := nup (nup (nup (nup (nup (nup (nup (nup N 4 (N 4 + 1)) (119 + (N 4 * 7 + 0)) f) (119 + (N 4 * 7 + 1)) t) (119 + (N 4 * 7 + 2)) l) (119 + (N 4 * 7 + 3)) (N 9)) (119 + (N 4 * 7 + 4)) r) (119 + (N 4 * 7 + 5)) (-1)) (119 + (N 4 * 7 + 6)) (-1)
/-- one who watches another lane -/
def nwat (N : Int → Int) (p w : Int) : Int → Int := nup N (95 + (p * 3 + 2)) w
theorem cs_op_n {M : gm_M} {N : Int → Int} {l p : Int} (hT : cs M 3 = N) (hl : 0 ≤ l ∧ l < 24) (ho : 0 ≤ N 14 ∧ N 14 < 24) : cs (cs_op M l p) 3 = nopn N l p := by
  have e14 : M 14 3 = N 14 := congrFun hT 14
  have e9 : M 3 6 = N 9 := congrFun hT 9
  unfold cs_op nopn
  rw [e14, e9]
  refine (cs_pO (b := 3) (by omega) (by omega)).trans ?_
  refine congrArg (fun z => nup z _ _) ((cs_pO (b := 3) (by omega) (by omega)).trans ?_)
  refine congrArg (fun z => nup z _ _) ((cs_pO (b := 3) (by omega) (by omega)).trans ?_)
  refine congrArg (fun z => nup z _ _) ((cs_f14 (b := 3)).trans ?_)
  refine congrArg (fun z => nup z _ _) ((cs_pL (b := 3) (by omega) (by omega)).trans ?_)
  refine congrArg (fun z => nup z _ _) ((cs_pL (b := 3) (by omega) (by omega)).trans ?_)
  rw [hT]
theorem cs_th_n {M : gm_M} {N : Int → Int} {f t l r : Int} (hT : cs M 3 = N) (ho : 0 ≤ N 4 ∧ N 4 < 24) : cs (cs_th3 M f t l r) 3 = nthr N f t l r := by
  have e4 : M 10 3 = N 4 := congrFun hT 4
  have e9 : M 3 6 = N 9 := congrFun hT 9
  unfold cs_th3 nthr
  rw [e4, e9]
  refine (cs_pL (b := 3) (by omega) (by omega)).trans ?_
  refine congrArg (fun z => nup z _ _) ((cs_pL (b := 3) (by omega) (by omega)).trans ?_)
  refine congrArg (fun z => nup z _ _) ((cs_pL (b := 3) (by omega) (by omega)).trans ?_)
  refine congrArg (fun z => nup z _ _) ((cs_pL (b := 3) (by omega) (by omega)).trans ?_)
  refine congrArg (fun z => nup z _ _) ((cs_pL (b := 3) (by omega) (by omega)).trans ?_)
  refine congrArg (fun z => nup z _ _) ((cs_pL (b := 3) (by omega) (by omega)).trans ?_)
  refine congrArg (fun z => nup z _ _) ((cs_pL (b := 3) (by omega) (by omega)).trans ?_)
  refine congrArg (fun z => nup z _ _) ((cs_f4 (b := 3)).trans ?_)
  rw [hT]
/-- the reference's world, one number of it written -/
theorem ws_put {W : Int → Int} {k v : Int} (h : 0 ≤ k ∧ k < 395 ∧ ¬ k = 8) : ws (nup W k v) = nup (ws W) k v := by
  funext i
  by_cases e : i = k
  · subst e
    unfold ws
    rw [if_pos h, nup_at, nup_at]
  · unfold ws
    rw [nup_ne e, nup_ne e]
