/-! THE ABSTRACT VALLEY: FLOW, OPEN, ends as functions of what is told, the same for class and reference. -/
/-- numbers are ints -/
noncomputable def irN (N : Int → Int) : Prop := ∀ i, gm_ir (N i)
noncomputable def GJ (N : Int → Int) : Prop := GI N ∧ irN N
/-- the lines of a law, laid as the reference lays them -/
noncomputable def gcl (ls : List lln) : Int → Int := fun j => match ls[((j - 396) / 4).toNat]? with
  | none => 0
  | some x => if (j - 396) % 4 = 0 then x.1 else if x.1 = 2 then 1 else x.2.1
theorem gcl_0 {ls : List lln} {k : Nat} {x : lln} (hx : ls[k]? = some x) : gcl ls (396 + 4 * (k : Int)) = x.1 := by
  unfold gcl
  rw [show ((396 + 4 * (k : Int) - 396) / 4).toNat = k by omega, hx]
  show (if (396 + 4 * (k : Int) - 396) % 4 = 0 then x.1 else _) = x.1
  rw [if_pos (by omega)]
theorem gcl_1 {ls : List lln} {k : Nat} {x : lln} (hx : ls[k]? = some x) : gcl ls (396 + 4 * (k : Int) + 1) = if x.1 = 2 then 1 else x.2.1 := by
  unfold gcl
  rw [show ((396 + 4 * (k : Int) + 1 - 396) / 4).toNat = k by omega, hx]
  show (if (396 + 4 * (k : Int) + 1 - 396) % 4 = 0 then x.1 else _) = _
  rw [if_neg (by omega)]
theorem rsum_gcl {ls : List lln} {G F : Int → Int} {kd : Int} (hR : LR ls G) : ∀ k : Nat, k ≤ ls.length → rsum (HH ls) F G kd k = rsum (HH ls) F (gcl ls) kd k := by
  intro k
  induction k with
  | zero => intro _; rfl
  | succ k ih =>
    intro hk
    obtain ⟨x, hx⟩ := lq_at (ls := ls) (k := k) (by omega)
    obtain ⟨a0, a1, -⟩ := hR k x hx
    show rsum (HH ls) F G kd k + @ite Int (G (396 + 4 * (k : Int)) = kd ∧ HH ls F (k : Int)) (Classical.propDecidable _) (G (396 + 4 * (k : Int) + 1)) 0 = rsum (HH ls) F (gcl ls) kd k + @ite Int (gcl ls (396 + 4 * (k : Int)) = kd ∧ HH ls F (k : Int)) (Classical.propDecidable _) (gcl ls (396 + 4 * (k : Int) + 1)) 0
    rw [ih (by omega), a0, a1, gcl_0 hx, gcl_1 hx]
theorem rphi_gcl {ls : List lln} {G N h : Int → Int} {l r y : Int} (hR : LR ls G) : rphi N h (HH ls) G (ls.length : Int) l r y = rphi N h (HH ls) (gcl ls) (ls.length : Int) l r y := by
  have e : ((ls.length : Int)).toNat = ls.length := by omega
  unfold rphi
  rw [e, rsum_gcl hR _ (Nat.le_refl _), rsum_gcl hR _ (Nat.le_refl _)]
/-- FLOW -/
noncomputable def aphi (lw : Option (List lln)) (N h : Int → Int) (l r y : Int) : Int := if 0 ≤ l ∧ l < 6 then (match lw with
  | none => rphi0 N l r y
  | some ls => rphi N h (HH ls) (gcl ls) (ls.length : Int) l r y) else 0
/-- FLOW as the class reckons it, beyond the valley's LANES and ROWS too -/
noncomputable def aphx (lw : Option (List lln)) (N h : Int → Int) (l r y : Int) : Int := if 0 ≤ l then (match lw with
  | none => 0
  | some ls => max 0 (min 30 ((spd N l r + rsum (HH ls) (fcts N h l r y (spd N l r) 0 0 0) (gcl ls) 0 ls.length) - rsum (HH ls) (fcts N h l r y (spd N l r) 0 0 0) (gcl ls) 1 ls.length))) else 0
theorem aphx_s {ls : List lln} {N h : Int → Int} {l r y : Int} (hl : 0 ≤ l) : aphx (some ls) N h l r y = max 0 (min 30 ((spd N l r + rsum (HH ls) (fcts N h l r y (spd N l r) 0 0 0) (gcl ls) 0 ls.length) - rsum (HH ls) (fcts N h l r y (spd N l r) 0 0 0) (gcl ls) 1 ls.length)) := by
  unfold aphx
  rw [if_pos hl]
/-- OPEN -/
noncomputable def apsi (lw : Option (List lln)) (N h : Int → Int) (p lane age deep : Int) : Prop := ∃ ls, lw = some ls ∧ rpsi N h (HH ls) (gcl ls) (ls.length : Int) p lane age deep
theorem aphi_n {N h : Int → Int} {l r y : Int} (hl : 0 ≤ l ∧ l < 6) : aphi none N h l r y = rphi0 N l r y := by
  unfold aphi
  rw [if_pos hl]
theorem aphi_s {ls : List lln} {N h : Int → Int} {l r y : Int} (hl : 0 ≤ l ∧ l < 6) : aphi (some ls) N h l r y = rphi N h (HH ls) (gcl ls) (ls.length : Int) l r y := by
  unfold aphi
  rw [if_pos hl]
theorem aphi_b {lw : Option (List lln)} {N h : Int → Int} (l r y : Int) : 0 ≤ aphi lw N h l r y ∧ aphi lw N h l r y ≤ 30 := by
  by_cases hl : 0 ≤ l ∧ l < 6
  · cases lw with
    | none =>
      rw [aphi_n hl]
      unfold rphi0
      omega
    | some ls =>
      rw [aphi_s hl]
      unfold rphi
      omega
  · unfold aphi
    rw [if_neg hl]
    decide
/-- the same valley -/
noncomputable def hgeo (N N2 : Int → Int) : Prop := ∀ i, 0 ≤ i → i < 95 → ¬ (i = 4 ∨ i = 9 ∨ i = 14) → N2 i = N i
theorem hgeo_r {N : Int → Int} : hgeo N N := fun _ _ _ _ => rfl
theorem hgeo_t {N N2 N3 : Int → Int} (a : hgeo N N2) (b : hgeo N2 N3) : hgeo N N3 := fun i h0 h1 h2 => (b i h0 h1 h2).trans (a i h0 h1 h2)
theorem hgeo_s {N N2 : Int → Int} (a : hgeo N N2) : hgeo N2 N := fun i h0 h1 h2 => (a i h0 h1 h2).symm
theorem hgeo_g {N N2 : Int → Int} (a : geo N N2) : hgeo N N2 := fun i h0 h1 h2 => a.1 i h0 h1 (fun e => h2 (Or.inr (Or.inl e))) (fun e => h2 (Or.inr (Or.inr e)))
theorem hg_rsp {N N2 : Int → Int} (a : hgeo N N2) {l r : Int} (hl : 0 ≤ l ∧ l < 6) : ∀ t : Nat, t ≤ 8 → rsp N2 l r t = rsp N l r t := by
  intro t
  induction t with
  | zero => intro _; rfl
  | succ t ih =>
    intro ht
    show (if N2 (15 + 7 * (t : Int)) ≤ r then N2 (15 + 7 * (t : Int) + 1 + l) else rsp N2 l r t) = (if N (15 + 7 * (t : Int)) ≤ r then N (15 + 7 * (t : Int) + 1 + l) else rsp N l r t)
    rw [ih (by omega), a (15 + 7 * (t : Int)) (by omega) (by omega) (by omega), a (15 + 7 * (t : Int) + 1 + l) (by omega) (by omega) (by omega)]
theorem hg_nsp {N N2 : Int → Int} (a : hgeo N N2) (h2 : 0 ≤ N 2 ∧ N 2 ≤ 8) {l r : Int} (hl : 0 ≤ l ∧ l < 6) : nsp N2 l r = nsp N l r := by
  unfold nsp
  rw [a 2 (by decide) (by decide) (by decide)]
  exact hg_rsp a hl _ (by omega)
theorem hg_fcts {N N2 h : Int → Int} (a : hgeo N N2) {l r y s p ag dp : Int} : fcts N2 h l r y s p ag dp = fcts N h l r y s p ag dp := by
  unfold fcts
  rw [a 0 (by decide) (by decide) (by decide), a 12 (by decide) (by decide) (by decide)]
theorem hg_hts {N N2 : Int → Int} (a : hgeo N N2) : hts (N2 13) = hts (N 13) := by rw [a 13 (by decide) (by decide) (by decide)]
theorem hg_aphi {N N2 h : Int → Int} {lw : Option (List lln)} (a : hgeo N N2) (h2 : 0 ≤ N 2 ∧ N 2 ≤ 8) : aphi lw N2 h = aphi lw N h := by
  funext l r y
  by_cases hl : 0 ≤ l ∧ l < 6
  · cases lw with
    | none =>
      rw [aphi_n hl, aphi_n hl]
      unfold rphi0
      rw [hg_nsp a h2 hl]
    | some ls =>
      rw [aphi_s hl, aphi_s hl]
      unfold rphi
      rw [hg_nsp a h2 hl, hg_fcts a]
  · unfold aphi
    rw [if_neg hl, if_neg hl]
theorem hg_fbit {N N2 : Int → Int} (a : hgeo N N2) {y b : Int} (h : fbit N y b) : fbit N2 y b := by
  intro f hf
  rw [h f hf, a 5 (by decide) (by decide) (by decide), a (71 + ((f : Int) * 3 + 0)) (by omega) (by omega) (by omega)]
theorem hg_spd {N N2 : Int → Int} (a : hgeo N N2) (hN : NR N) {l r : Int} (h0 : 0 ≤ l) : spd N2 l r = spd N l r := by
  have n2 := hN.2.1.1
  have n0 := hN.1.1
  unfold spd
  rw [a 0 (by decide) (by decide) (by decide), a 1 (by decide) (by decide) (by decide)]
  by_cases h : l < N 0 ∧ r < N 1
  · rw [if_pos h, if_pos h, hg_nsp a n2 ⟨h0, by omega⟩]
  · rw [if_neg h, if_neg h]
theorem hg_kfl {N N2 : Int → Int} {φ : Int → Int → Int → Int} {M : gm_M} (a : hgeo N N2) (h : KFL N φ M) : KFL N2 φ M := h
theorem hg_kfr {N N2 : Int → Int} {φ : Int → Int → Int → Int} {M : gm_M} (a : hgeo N N2) (h : KFR N φ M) : KFR N2 φ M := h
theorem hg_aphx {N N2 h : Int → Int} {lw : Option (List lln)} (a : hgeo N N2) (hN : NR N) : aphx lw N2 h = aphx lw N h := by
  funext l r y
  by_cases hl : 0 ≤ l
  · cases lw with
    | none => rfl
    | some ls => rw [aphx_s hl, aphx_s hl, hg_spd a hN hl, hg_fcts a]
  · unfold aphx
    rw [if_neg hl, if_neg hl]
/-- what is told, by other numbers of letters or watches: heats, speeds, floods stay -/
theorem hg_ti {N N2 : Int → Int} {M M2 : gm_M} (hN : NR N) (a : hgeo N N2) (hT : TI N (hts (N 13)) (spd N) M) (hC : CST M2) (hc : cs M2 3 = N2) (e : ∀ (k : Nat) (j : Int), 201 ≤ k → k ≤ 203 → M2 k j = M k j) : TI N2 (hts (N2 13)) (spd N2) M2 := by
  refine ⟨hC, hc, fun y y0 y1 => ?_, fun l r l0 l1 r0 r1 => ?_⟩
  · obtain ⟨b1, b2, b3, b4⟩ := hT.2.2.1 y y0 y1
    rw [hg_hts a, e 201 y (by decide) (by decide), e 203 y (by decide) (by decide)]
    exact ⟨b1, b2, b3, hg_fbit a b4⟩
  · rw [e 202 _ (by decide) (by decide), hg_spd a hN l0]
    exact hT.2.2.2 l r l0 l1 r0 r1
/-- ways and ends by another FLOW that is the same -/
theorem outr_g {N N2 h : Int → Int} {lw : Option (List lln)} {l o d : Int} (a : geo N N2) (hN : NR N) (hl : 0 ≤ l ∧ l < 24) (ho : OUTR N h (aphi lw N h) l o d) : OUTR N2 h (aphi lw N2 h) l o d := by
  rw [hg_aphi (hgeo_g a) hN.2.1.1]
  exact OUTR_geo a hN.2.1.2.1 hl ho
theorem ends_g {N N2 h : Int → Int} {lw : Option (List lln)} {M M2 : gm_M} (a : geo N N2) (hN : NR N) (h4 : N2 4 = N 4) (he : ENDS N h (aphi lw N h) M) (e : ∀ (k : Nat) (j : Int), k = 220 ∨ k = 221 → M2 k j = M k j) : ENDS N2 h (aphi lw N2 h) M2 := by
  refine ⟨by rw [e 220 3 (Or.inl rfl), h4]; exact he.1, fun l l0 l1 => ?_⟩
  rw [e 221 _ (Or.inr rfl), e 221 _ (Or.inr rfl)]
  exact outr_g a hN ⟨l0, by have := hN.2.1.2.2.2.1; omega⟩ (he.2 l l0 (by rw [h4] at l1; exact l1))
/-- a first one -/
theorem nat_first {P : Nat → Prop} : ∀ n : Nat, (∀ j, j < n → ¬ P j) ∨ ∃ j, j < n ∧ P j ∧ ∀ i, i < j → ¬ P i := by
  intro n
  induction n with
  | zero => exact Or.inl fun j h => absurd h (Nat.not_lt_zero _)
  | succ n ih =>
    rcases ih with h | ⟨j, h1, h2, h3⟩
    · by_cases hp : P n
      · exact Or.inr ⟨n, Nat.lt_succ_self _, hp, h⟩
      · refine Or.inl fun j hj => ?_
        by_cases e : j = n
        · rw [e]; exact hp
        · exact h j (by omega)
    · exact Or.inr ⟨j, by omega, h2, h3⟩
/-- how each ends -/
theorem outr_ex {N h : Int → Int} {φ : Int → Int → Int → Int} (l : Int) : ∃ q : Int × Int, OUTR N h φ l q.1 q.2 := by
  rcases nat_first (P := fun j => N 1 ≤ (nwy N h φ ((N (119 + (l * 7 + 2)))) (if (N (119 + (l * 7 + 0))) = -1 then 1 else 0) (-1) ((N (119 + (l * 7 + 3)))) ((N (119 + (l * 7 + 4)))) j).1) (300 - (N (119 + (l * 7 + 3)))).toNat with h1 | ⟨j, h1, h2, h3⟩
  · exact ⟨(-1, 0), Or.inl ⟨rfl, fun j hj => by have := h1 j (by omega); omega⟩⟩
  · exact ⟨((N (119 + (l * 7 + 3))) + (j : Int), _), Or.inr ⟨j, by omega, rfl, h2, fun i hi => by have := h3 i hi; omega, rfl⟩⟩
noncomputable def aout (N h : Int → Int) (φ : Int → Int → Int → Int) (l : Int) : Int := (Classical.choose (outr_ex (N := N) (h := h) (φ := φ) l)).1
noncomputable def adp (N h : Int → Int) (φ : Int → Int → Int → Int) (l : Int) : Int := (Classical.choose (outr_ex (N := N) (h := h) (φ := φ) l)).2
theorem aout_s {N h : Int → Int} {φ : Int → Int → Int → Int} (l : Int) : OUTR N h φ l (aout N h φ l) (adp N h φ l) := Classical.choose_spec (outr_ex (N := N) (h := h) (φ := φ) l)
