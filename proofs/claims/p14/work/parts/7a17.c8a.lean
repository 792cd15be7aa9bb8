/-! WHAT AN ACT LEAVES ALONE: ways don't hang on who watches, who opened, NOW. -/
/-- the same valley, the same throws -/
def geo (N N2 : Int → Int) : Prop := (∀ i, 0 ≤ i → i < 95 → ¬ i = 9 → ¬ i = 14 → N2 i = N i) ∧ ∀ l c, 0 ≤ l → l < 24 → 0 ≤ c → c < 5 → (N2 (119 + (l * 7 + c))) = (N (119 + (l * 7 + c)))
section GE
variable {N N2 N3 h : Int → Int} {sp : Int → Int → Int} {φ : Int → Int → Int → Int} {l o d : Int}
theorem geo_r : geo N N := ⟨fun _ _ _ _ _ => rfl, fun _ _ _ _ _ _ => rfl⟩
theorem geo_t (a : geo N N2) (b : geo N2 N3) : geo N N3 := ⟨fun i h1 h2 h3 h4 => (b.1 i h1 h2 h3 h4).trans (a.1 i h1 h2 h3 h4), fun l c h1 h2 h3 h4 => (b.2 l c h1 h2 h3 h4).trans (a.2 l c h1 h2 h3 h4)⟩
theorem nfl_geo (g : geo N N2) {y wo : Int} : ∀ (t : Nat) (r : Int), t ≤ 8 → nfl N2 y wo t r = nfl N y wo t r := by
  intro t
  induction t with
  | zero => intro r _; rfl
  | succ t ih =>
    intro r ht
    have e0 : (N2 (71 + ((t : Int) * 3 + 0))) = (N (71 + ((t : Int) * 3 + 0))) := g.1 _ (by omega) (by omega) (by omega) (by omega)
    have e1 : (N2 (71 + ((t : Int) * 3 + 1))) = (N (71 + ((t : Int) * 3 + 1))) := g.1 _ (by omega) (by omega) (by omega) (by omega)
    have e2 : (N2 (71 + ((t : Int) * 3 + 2))) = (N (71 + ((t : Int) * 3 + 2))) := g.1 _ (by omega) (by omega) (by omega) (by omega)
    show (if ¬ (t : Int) = wo ∧ (N2 (71 + ((t : Int) * 3 + 0))) = y ∧ (N2 (71 + ((t : Int) * 3 + 1))) ≤ nfl N2 y wo t r then nfl N2 y wo t r + (N2 (71 + ((t : Int) * 3 + 2))) else nfl N2 y wo t r) = (if ¬ (t : Int) = wo ∧ (N (71 + ((t : Int) * 3 + 0))) = y ∧ (N (71 + ((t : Int) * 3 + 1))) ≤ nfl N y wo t r then nfl N y wo t r + (N (71 + ((t : Int) * 3 + 2))) else nfl N y wo t r)
    rw [ih r (by omega), e0, e1, e2]
theorem nwy_geo (g : geo N N2) (h5 : 0 ≤ N 5 ∧ N 5 ≤ 8) {lane rk wo y0 r0 : Int} : ∀ k : Nat, nwy N2 h φ lane rk wo y0 r0 k = nwy N h φ lane rk wo y0 r0 k := by
  have e1 : N2 1 = N 1 := g.1 1 (by decide) (by decide) (by decide) (by decide)
  have e5 : N2 5 = N 5 := g.1 5 (by decide) (by decide) (by decide) (by decide)
  have e10 : N2 10 = N 10 := g.1 10 (by decide) (by decide) (by decide) (by decide)
  have e11 : N2 11 = N 11 := g.1 11 (by decide) (by decide) (by decide) (by decide)
  intro k
  induction k with
  | zero => rfl
  | succ k ih =>
    show nst N2 h φ lane rk wo (y0 + (k : Int)) (nwy N2 h φ lane rk wo y0 r0 k) = nst N h φ lane rk wo (y0 + (k : Int)) (nwy N h φ lane rk wo y0 r0 k)
    rw [ih]
    unfold nst ndp
    rw [e1, e5, e10, e11, nfl_geo g _ _ (by omega)]
theorem OUTR_geo (g : geo N N2) (h5 : 0 ≤ N 5 ∧ N 5 ≤ 8) (hl : 0 ≤ l ∧ l < 24) (a : OUTR N h φ l o d) : OUTR N2 h φ l o d := by
  have e1 : N2 1 = N 1 := g.1 1 (by decide) (by decide) (by decide) (by decide)
  have l0 := g.2 l 0 hl.1 hl.2 (by decide) (by decide)
  have l2 := g.2 l 2 hl.1 hl.2 (by decide) (by decide)
  have l3 := g.2 l 3 hl.1 hl.2 (by decide) (by decide)
  have l4 := g.2 l 4 hl.1 hl.2 (by decide) (by decide)
  unfold OUTR at a ⊢
  rw [l0, l2, l3, l4, e1]
  rcases a with ⟨a1, a2⟩ | ⟨j, a1, a2, a3, a4, a5⟩
  · exact Or.inl ⟨a1, fun j hj => by rw [nwy_geo g h5]; exact a2 j hj⟩
  · exact Or.inr ⟨j, a1, a2, by rw [nwy_geo g h5]; exact a3, fun i hi => by rw [nwy_geo g h5]; exact a4 i hi, by rw [nwy_geo g h5]; exact a5⟩
theorem fcts_geo (g : geo N N2) {l r y s p a dp : Int} : fcts N2 h l r y s p a dp = fcts N h l r y s p a dp := by
  have e0 : N2 0 = N 0 := g.1 0 (by decide) (by decide) (by decide) (by decide)
  have e12 : N2 12 = N 12 := g.1 12 (by decide) (by decide) (by decide) (by decide)
  unfold fcts
  rw [e0, e12]
theorem lphi_geo (g : geo N N2) {C Ln : Int → Int} {m : Int} : lphi N2 h sp C Ln m = lphi N h sp C Ln m := by
  funext l r y
  unfold lphi
  rw [fcts_geo g]
theorem nsp_geo (g : geo N N2) (h2 : 0 ≤ N 2 ∧ N 2 ≤ 8) (h0 : N 0 ≤ 6) {lane row : Int} (hl : 0 ≤ lane ∧ lane < N 0) : nsp N2 lane row = nsp N lane row := by
  have e2 : N2 2 = N 2 := g.1 2 (by decide) (by decide) (by decide) (by decide)
  unfold nsp
  rw [e2]
  have key : ∀ t : Nat, t ≤ 8 → rsp N2 lane row t = rsp N lane row t := by
    intro t
    induction t with
    | zero => intro _; rfl
    | succ t ih =>
      intro ht
      have a : N2 (15 + 7 * (t : Int)) = N (15 + 7 * (t : Int)) := g.1 _ (by omega) (by omega) (by omega) (by omega)
      have b : N2 (15 + 7 * (t : Int) + 1 + lane) = N (15 + 7 * (t : Int) + 1 + lane) := g.1 _ (by omega) (by omega) (by omega) (by omega)
      show (if N2 (15 + 7 * (t : Int)) ≤ row then N2 (15 + 7 * (t : Int) + 1 + lane) else rsp N2 lane row t) = (if N (15 + 7 * (t : Int)) ≤ row then N (15 + 7 * (t : Int) + 1 + lane) else rsp N lane row t)
      rw [a, b, ih (by omega)]
  exact key _ (by omega)
theorem fbit_geo (g : geo N N2) {y b : Int} (a : fbit N y b) : fbit N2 y b := by
  have e5 : N2 5 = N 5 := g.1 5 (by decide) (by decide) (by decide) (by decide)
  intro f hf
  have e : (N2 (71 + ((f : Int) * 3 + 0))) = (N (71 + ((f : Int) * 3 + 0))) := g.1 _ (by omega) (by omega) (by omega) (by omega)
  rw [e5, e]
  exact a f hf
theorem ti_geo (g : geo N N2) {M M2 : gm_M} (hT : TI N h sp M) (hC : CST M2) (hc : cs M2 3 = N2) (he : ∀ k j, 201 ≤ k → k ≤ 203 → M2 k j = M k j) : TI N2 h sp M2 := by
  refine ⟨hC, hc, fun y y1 y2 => ?_, fun l r l1 l2 r1 r2 => ?_⟩
  · rw [he 201 y (by decide) (by decide), he 203 y (by decide) (by decide)]
    obtain ⟨a, b, c, e⟩ := hT.2.2.1 y y1 y2
    exact ⟨a, b, c, fbit_geo g e⟩
  · rw [he 202 _ (by decide) (by decide)]
    exact hT.2.2.2 l r l1 l2 r1 r2
-- the acts
theorem geo_nyr : geo N (nyr N) := ⟨fun i h1 h2 h3 h4 => nup_ne h3, fun l c h1 h2 h3 h4 => nup_ne (by omega)⟩
theorem geo_nopn {p : Int} (hl : 0 ≤ l ∧ l < 24) (ho : 0 ≤ N 14 ∧ N 14 < 24) : geo N (nopn N l p) := by
  refine ⟨fun i h1 h2 h3 h4 => ?_, fun k c h1 h2 h3 h4 => ?_⟩
  · unfold nopn
    rw [nup_ne (by omega), nup_ne (by omega), nup_ne (by omega), nup_ne h4, nup_ne (by omega), nup_ne (by omega)]
  · show nopn N l p (119 + (k * 7 + c)) = N (119 + (k * 7 + c))
    unfold nopn
    rw [nup_ne (by omega), nup_ne (by omega), nup_ne (by omega), nup_ne (by omega), nup_ne (by omega), nup_ne (by omega)]
theorem geo_nwat {p w : Int} (hp : 0 ≤ p ∧ p < 8) : geo N (nwat N p w) := ⟨fun i h1 h2 h3 h4 => nup_ne (by omega), fun l c h1 h2 h3 h4 => nup_ne (by omega)⟩
theorem nopn_L {p k c : Int} (hl : 0 ≤ l ∧ l < 24) (ho : 0 ≤ N 14 ∧ N 14 < 24) (hk : 0 ≤ k ∧ k < 24) (hc : 0 ≤ c ∧ c < 7) : ((nopn N l p) (119 + (k * 7 + c))) = if k = l ∧ c = 5 then p else if k = l ∧ c = 6 then N 9 else (N (119 + (k * 7 + c))) := by
  show nopn N l p (119 + (k * 7 + c)) = _
  unfold nopn
  rw [nup_ne (by omega), nup_ne (by omega), nup_ne (by omega), nup_ne (by omega)]
  by_cases h6 : k = l ∧ c = 6
  · obtain ⟨rfl, rfl⟩ := h6
    rw [nup_at, if_neg (by omega), if_pos ⟨rfl, rfl⟩]
  · rw [nup_ne (by omega)]
    by_cases h5 : k = l ∧ c = 5
    · obtain ⟨rfl, rfl⟩ := h5
      rw [nup_at, if_pos ⟨rfl, rfl⟩]
    · rw [nup_ne (by omega), if_neg h5, if_neg h6]
theorem nopn_o {p i : Int} (h0 : 0 ≤ i ∧ i < 119) (h14 : ¬ i = 14) (hl : 0 ≤ l ∧ l < 24) (ho : 0 ≤ N 14 ∧ N 14 < 24) : nopn N l p i = N i := by
  unfold nopn
  rw [nup_ne (by omega), nup_ne (by omega), nup_ne (by omega), nup_ne h14, nup_ne (by omega), nup_ne (by omega)]
theorem nopn_14 {p : Int} (hl : 0 ≤ l ∧ l < 24) (ho : 0 ≤ N 14 ∧ N 14 < 24) : nopn N l p 14 = N 14 + 1 := by
  unfold nopn
  rw [nup_ne (by omega), nup_ne (by omega), nup_ne (by omega), nup_at]
/-- how many of the first k are opened -/
def nop (N : Int → Int) : Nat → Int
  | 0 => 0
  | k + 1 => nop N k + (if (N (119 + ((k : Int) * 7 + 5))) = -1 then 0 else 1)
/-- the log holds them all -/
def LOGI (N : Int → Int) : Prop := N 14 = nop N (N 4).toNat
theorem nop_b : ∀ k : Nat, 0 ≤ nop N k ∧ nop N k ≤ (k : Int) := by
  intro k
  induction k with
  | zero => exact ⟨Int.le_refl _, Int.le_refl _⟩
  | succ k ih =>
    unfold nop
    split <;> exact ⟨by omega, by omega⟩
theorem nop_lt {u : Nat} (h : (N (119 + ((u : Int) * 7 + 5))) = -1) : ∀ k : Nat, u < k → nop N k + 1 ≤ (k : Int) := by
  intro k
  induction k with
  | zero => intro hu; omega
  | succ k ih =>
    intro hu
    have b := nop_b (N := N) k
    unfold nop
    by_cases e : u = k
    · subst e
      rw [if_pos h]
      omega
    · have := ih (by omega)
      split <;> omega
theorem nop_e : ∀ k : Nat, (∀ u : Nat, u < k → ((N2 (119 + ((u : Int) * 7 + 5))) = -1 ↔ (N (119 + ((u : Int) * 7 + 5))) = -1)) → nop N2 k = nop N k := by
  intro k
  induction k with
  | zero => intro _; rfl
  | succ k ih =>
    intro h
    unfold nop
    rw [ih (fun u hu => h u (by omega))]
    by_cases e : (N (119 + ((k : Int) * 7 + 5))) = -1
    · rw [if_pos e, if_pos ((h k (by omega)).mpr e)]
    · rw [if_neg e, if_neg (fun hh => e ((h k (by omega)).mp hh))]
theorem nop_o {p : Int} {u : Nat} (hu : u < 24) (ho : 0 ≤ N 14 ∧ N 14 < 24) (h : (N (119 + ((u : Int) * 7 + 5))) = -1) (hp : ¬ p = -1) : ∀ k : Nat, k ≤ 24 → nop (nopn N (u : Int) p) k = nop N k + (if u < k then 1 else 0) := by
  intro k
  induction k with
  | zero => intro _; rfl
  | succ k ih =>
    intro hk
    have e := nopn_L (N := N) (l := (u : Int)) (p := p) (k := (k : Int)) (c := 5) ⟨by omega, by omega⟩ ho ⟨by omega, by omega⟩ (by decide)
    show nop (nopn N (u : Int) p) k + (if ((nopn N (u : Int) p) (119 + ((k : Int) * 7 + 5))) = -1 then 0 else 1) = nop N k + (if (N (119 + ((k : Int) * 7 + 5))) = -1 then 0 else 1) + _
    rw [ih (by omega), e]
    by_cases e9 : u = k
    · subst e9
      rw [if_pos (show (u : Int) = (u : Int) ∧ (5 : Int) = 5 from ⟨rfl, rfl⟩), if_neg hp, if_pos h, if_neg (Nat.lt_irrefl u), if_pos (Nat.lt_succ_self u)]
    · rw [if_neg (show ¬ ((k : Int) = (u : Int) ∧ (5 : Int) = 5) by omega), if_neg (show ¬ ((k : Int) = (u : Int) ∧ (5 : Int) = 6) by omega)]
      by_cases e8 : u < k
      · rw [if_pos e8, if_pos (show u < k + 1 by omega)]
        omega
      · rw [if_neg e8, if_neg (show ¬ u < k + 1 by omega)]
        omega
theorem logi_lt (hN : NR N) (hg : LOGI N) (hl : 0 ≤ l ∧ l < N 4) (h : (N (119 + (l * 7 + 5))) = -1) : 0 ≤ N 14 ∧ N 14 < 24 := by
  obtain ⟨u, rfl⟩ : ∃ u : Nat, l = (u : Int) := ⟨l.toNat, by omega⟩
  have b4 := hN.2.1.2.2.2.1
  have := nop_lt h (N 4).toNat (by omega)
  have b := nop_b (N := N) (N 4).toNat
  have hg : N 14 = nop N (N 4).toNat := hg
  exact ⟨by omega, by omega⟩
theorem logi_nopn {p : Int} (hN : NR N) (hg : LOGI N) (hl : 0 ≤ l ∧ l < N 4) (h : (N (119 + (l * 7 + 5))) = -1) (hp : ¬ p = -1) : LOGI (nopn N l p) := by
  have ho := logi_lt hN hg hl h
  have b4 := hN.2.1.2.2.2.1
  have hg : N 14 = nop N (N 4).toNat := hg
  have hl9 : 0 ≤ l ∧ l < 24 := ⟨hl.1, by omega⟩
  unfold LOGI
  rw [nopn_14 hl9 ho, nopn_o (i := 4) (by decide) (by decide) hl9 ho]
  obtain ⟨u, rfl⟩ : ∃ u : Nat, l = (u : Int) := ⟨l.toNat, by omega⟩
  rw [nop_o (by omega) ho h hp _ (by omega), if_pos (by omega)]
  omega
theorem nr_nopn {p : Int} (hN : NR N) (hl : 0 ≤ l ∧ l < N 4) (ho : 0 ≤ N 14 ∧ N 14 < 24) (hp : 0 ≤ p ∧ p < N 3) : NR (nopn N l p) := by
  have b4 := hN.2.1.2.2.2.1
  have hl9 : 0 ≤ l ∧ l < 24 := ⟨hl.1, by omega⟩
  have e : ∀ i, 0 ≤ i ∧ i < 119 → ¬ i = 14 → nopn N l p i = N i := fun i h0 h1 => nopn_o h0 h1 hl9 ho
  obtain ⟨⟨c0, c1, c10, c11, c12, c9⟩, ⟨c2, c5, c3, c4, c6, c14, c7, c13⟩, rF, rP, rL⟩ := id hN
  refine ⟨?_, ?_, fun f f0 f1 => ?_, fun q q0 q1 => ?_, fun k k0 k1 => ?_⟩
  · rw [e 0 (by decide) (by decide), e 1 (by decide) (by decide), e 10 (by decide) (by decide), e 11 (by decide) (by decide), e 12 (by decide) (by decide), e 9 (by decide) (by decide)]
    exact ⟨c0, c1, c10, c11, c12, c9⟩
  · rw [e 2 (by decide) (by decide), e 5 (by decide) (by decide), e 3 (by decide) (by decide), e 4 (by decide) (by decide), e 6 (by decide) (by decide), e 7 (by decide) (by decide), e 13 (by decide) (by decide), nopn_14 hl9 ho]
    exact ⟨c2, c5, c3, c4, c6, ⟨by omega, by omega⟩, c7, c13⟩
  · rw [e 5 (by decide) (by decide)] at f1
    show (0 ≤ nopn N l p (71 + (f * 3 + 0)) ∧ nopn N l p (71 + (f * 3 + 0)) ≤ 299) ∧ (0 ≤ nopn N l p (71 + (f * 3 + 1)) ∧ nopn N l p (71 + (f * 3 + 1)) < nopn N l p 1) ∧ (0 ≤ nopn N l p (71 + (f * 3 + 2)) ∧ nopn N l p (71 + (f * 3 + 2)) ≤ 20)
    rw [e (71 + (f * 3 + 0)) ⟨by omega, by omega⟩ (by omega), e (71 + (f * 3 + 1)) ⟨by omega, by omega⟩ (by omega), e (71 + (f * 3 + 2)) ⟨by omega, by omega⟩ (by omega), e 1 (by decide) (by decide)]
    exact rF f f0 f1
  · rw [e 3 (by decide) (by decide)] at q1
    show (0 ≤ nopn N l p (95 + (q * 3 + 0)) ∧ nopn N l p (95 + (q * 3 + 0)) < nopn N l p 0) ∧ (0 ≤ nopn N l p (95 + (q * 3 + 1)) ∧ nopn N l p (95 + (q * 3 + 1)) < nopn N l p 1) ∧ (-1 ≤ nopn N l p (95 + (q * 3 + 2)) ∧ nopn N l p (95 + (q * 3 + 2)) < nopn N l p 0)
    rw [e (95 + (q * 3 + 0)) ⟨by omega, by omega⟩ (by omega), e (95 + (q * 3 + 1)) ⟨by omega, by omega⟩ (by omega), e (95 + (q * 3 + 2)) ⟨by omega, by omega⟩ (by omega), e 0 (by decide) (by decide), e 1 (by decide) (by decide)]
    exact rP q q0 q1
  · rw [e 4 (by decide) (by decide)] at k1
    have k9 : 0 ≤ k ∧ k < 24 := ⟨k0, by omega⟩
    obtain ⟨d0, d1, d2, d3, d4, d5, d6, d7⟩ := rL k k0 k1
    rw [nopn_L hl9 ho k9 (by decide), nopn_L hl9 ho k9 (by decide), nopn_L hl9 ho k9 (by decide), nopn_L hl9 ho k9 (by decide), nopn_L hl9 ho k9 (by decide), nopn_L hl9 ho k9 (by decide), nopn_L hl9 ho k9 (by decide), e 3 (by decide) (by decide), e 0 (by decide) (by decide), e 9 (by decide) (by decide), e 1 (by decide) (by decide)]
    rw [if_neg (show ¬ (k = l ∧ (0 : Int) = 5) by omega), if_neg (show ¬ (k = l ∧ (0 : Int) = 6) by omega), if_neg (show ¬ (k = l ∧ (1 : Int) = 5) by omega), if_neg (show ¬ (k = l ∧ (1 : Int) = 6) by omega), if_neg (show ¬ (k = l ∧ (2 : Int) = 5) by omega), if_neg (show ¬ (k = l ∧ (2 : Int) = 6) by omega), if_neg (show ¬ (k = l ∧ (3 : Int) = 5) by omega), if_neg (show ¬ (k = l ∧ (3 : Int) = 6) by omega), if_neg (show ¬ (k = l ∧ (4 : Int) = 5) by omega), if_neg (show ¬ (k = l ∧ (4 : Int) = 6) by omega), if_neg (show ¬ (k = l ∧ (6 : Int) = 5) by omega)]
    refine ⟨d0, d1, d2, d3, d4, ?_, ?_, d7⟩
    · by_cases h5 : k = l ∧ (5 : Int) = 5
      · rw [if_pos h5]
        exact ⟨by omega, hp.2⟩
      · rw [if_neg h5, if_neg (show ¬ (k = l ∧ (5 : Int) = 6) by omega)]
        exact d5
    · by_cases h6 : k = l ∧ (6 : Int) = 6
      · rw [if_pos h6]
        exact ⟨by omega, c9.2⟩
      · rw [if_neg h6]
        exact d6
theorem nr_nyr (hN : NR N) (h9 : N 9 < 299) : NR (nyr N) := by
  have e : ∀ i, ¬ i = 9 → nyr N i = N i := fun i h => nup_ne h
  have e9 : nyr N 9 = N 9 + 1 := nup_at
  obtain ⟨⟨c0, c1, c10, c11, c12, c9⟩, ⟨c2, c5, c3, c4, c6, c14, c7, c13⟩, rF, rP, rL⟩ := id hN
  have eL : ∀ k c, 0 ≤ k → 0 ≤ c → ((nyr N) (119 + (k * 7 + c))) = (N (119 + (k * 7 + c))) := fun k c h1 h2 => e _ (by omega)
  have eP : ∀ k c, 0 ≤ k → 0 ≤ c → ((nyr N) (95 + (k * 3 + c))) = (N (95 + (k * 3 + c))) := fun k c h1 h2 => e _ (by omega)
  have eF : ∀ k c, 0 ≤ k → 0 ≤ c → ((nyr N) (71 + (k * 3 + c))) = (N (71 + (k * 3 + c))) := fun k c h1 h2 => e _ (by omega)
  refine ⟨?_, ?_, fun f f0 f1 => ?_, fun q q0 q1 => ?_, fun k k0 k1 => ?_⟩
  · rw [e 0 (by decide), e 1 (by decide), e 10 (by decide), e 11 (by decide), e 12 (by decide), e9]
    exact ⟨c0, c1, c10, c11, c12, by omega, by omega⟩
  · rw [e 2 (by decide), e 5 (by decide), e 3 (by decide), e 4 (by decide), e 6 (by decide), e 14 (by decide), e 7 (by decide), e 13 (by decide)]
    exact ⟨c2, c5, c3, c4, c6, c14, c7, c13⟩
  · rw [e 5 (by decide)] at f1
    rw [eF f 0 f0 (by decide), eF f 1 f0 (by decide), eF f 2 f0 (by decide), e 1 (by decide)]
    exact rF f f0 f1
  · rw [e 3 (by decide)] at q1
    rw [eP q 0 q0 (by decide), eP q 1 q0 (by decide), eP q 2 q0 (by decide), e 0 (by decide), e 1 (by decide)]
    exact rP q q0 q1
  · rw [e 4 (by decide)] at k1
    rw [eL k 0 k0 (by decide), eL k 1 k0 (by decide), eL k 2 k0 (by decide), eL k 3 k0 (by decide), eL k 4 k0 (by decide), eL k 5 k0 (by decide), eL k 6 k0 (by decide), e 3 (by decide), e 0 (by decide), e9, e 1 (by decide)]
    obtain ⟨d0, d1, d2, d3, d4, d5, d6, d7⟩ := rL k k0 k1
    exact ⟨d0, d1, d2, ⟨d3.1, by omega⟩, d4, d5, d6, d7⟩
theorem logi_nyr (hg : LOGI N) : LOGI (nyr N) := by
  have hg : N 14 = nop N (N 4).toNat := hg
  unfold LOGI
  rw [show nyr N 14 = N 14 from nup_ne (by decide), show nyr N 4 = N 4 from nup_ne (by decide), hg]
  refine (nop_e _ (fun u hu => ?_)).symm
  rw [show ((nyr N) (119 + ((u : Int) * 7 + 5))) = (N (119 + ((u : Int) * 7 + 5))) from nup_ne (by omega)]
/-- what one letter does in a year more: the world, how many opened -/
noncomputable def ystep (Ψ : (Int → Int) → Int → Int → Int → Int → Prop) (o dd : Int → Int) (l : Int) (s : (Int → Int) × Int) : (Int → Int) × Int := tif (WTS s.1 l (o l) ∧ ¬ opf s.1 (Ψ s.1) l (dd l) = -1) (nopn s.1 l (opf s.1 (Ψ s.1) l (dd l)), s.2 + 1) s
noncomputable def yrun (Ψ : (Int → Int) → Int → Int → Int → Int → Prop) (o dd : Int → Int) (s : (Int → Int) × Int) : Nat → (Int → Int) × Int
  | 0 => s
  | k + 1 => ystep Ψ o dd (k : Int) (yrun Ψ o dd s k)
end GE
