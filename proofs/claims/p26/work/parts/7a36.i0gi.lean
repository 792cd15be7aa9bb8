/-! 7a36.i0gi -/
section
/-! WHAT STAYS TRUE OF WHAT IS TOLD (laid by wip/core/i0.py). -/
/-- what always holds of what is told -/
def GI (N : Int → Int) : Prop := NR N ∧ NS N ∧ LOGI N
section GI0
variable {N N2 : Int → Int} {f t l r p w a b e v j : Int}
/-- what was thrown in last -/
theorem nthr_o (h : 0 ≤ j ∧ j < 119) (h4 : ¬ j = 4) (hn : 0 ≤ N 4) : nthr N f t l r j = N j := by
  unfold nthr
  rw [nup_ne (by omega), nup_ne (by omega), nup_ne (by omega), nup_ne (by omega), nup_ne (by omega), nup_ne (by omega), nup_ne (by omega), nup_ne h4]
theorem nthr_p (h : 287 ≤ j) (hn : 0 ≤ N 4 ∧ N 4 < 24) : nthr N f t l r j = N j := by
  unfold nthr
  rw [nup_ne (by omega), nup_ne (by omega), nup_ne (by omega), nup_ne (by omega), nup_ne (by omega), nup_ne (by omega), nup_ne (by omega), nup_ne (by omega)]
theorem nthr_n (hn : 0 ≤ N 4) : nthr N f t l r 4 = N 4 + 1 := by
  unfold nthr
  rw [nup_ne (by omega), nup_ne (by omega), nup_ne (by omega), nup_ne (by omega), nup_ne (by omega), nup_ne (by omega), nup_ne (by omega), nup_at]
theorem nthr_x {k c : Int} (hk : 0 ≤ k ∧ k < N 4) (hc : 0 ≤ c ∧ c < 7) : nthr N f t l r (119 + (k * 7 + c)) = N (119 + (k * 7 + c)) := by
  unfold nthr
  rw [nup_ne (by omega), nup_ne (by omega), nup_ne (by omega), nup_ne (by omega), nup_ne (by omega), nup_ne (by omega), nup_ne (by omega), nup_ne (by omega)]
theorem nthr_a : nthr N f t l r (119 + (N 4 * 7 + 0)) = f := by
  unfold nthr
  rw [nup_ne (by omega), nup_ne (by omega), nup_ne (by omega), nup_ne (by omega), nup_ne (by omega), nup_ne (by omega), nup_at]
theorem nthr_b : nthr N f t l r (119 + (N 4 * 7 + 1)) = t := by
  unfold nthr
  rw [nup_ne (by omega), nup_ne (by omega), nup_ne (by omega), nup_ne (by omega), nup_ne (by omega), nup_at]
theorem nthr_c : nthr N f t l r (119 + (N 4 * 7 + 2)) = l := by
  unfold nthr
  rw [nup_ne (by omega), nup_ne (by omega), nup_ne (by omega), nup_ne (by omega), nup_at]
theorem nthr_d : nthr N f t l r (119 + (N 4 * 7 + 3)) = N 9 := by
  unfold nthr
  rw [nup_ne (by omega), nup_ne (by omega), nup_ne (by omega), nup_at]
theorem nthr_e : nthr N f t l r (119 + (N 4 * 7 + 4)) = r := by
  unfold nthr
  rw [nup_ne (by omega), nup_ne (by omega), nup_at]
theorem nthr_f : nthr N f t l r (119 + (N 4 * 7 + 5)) = -1 := by
  unfold nthr
  rw [nup_ne (by omega), nup_at]
theorem nthr_g : nthr N f t l r (119 + (N 4 * 7 + 6)) = -1 := by
  unfold nthr
  rw [nup_at]
theorem nr_nthr (hN : NR N) (h4 : N 4 < 24) (hf : -1 ≤ f ∧ f < N 3) (ht : -1 ≤ t ∧ t < N 3) (hl : 0 ≤ l ∧ l < N 0) (hr : 0 ≤ r ∧ r < N 1) (hft : 0 ≤ f → 0 ≤ t) : NR (nthr N f t l r) := by
  obtain ⟨⟨⟨a0, b0⟩, ⟨a1, b1⟩, ⟨a10, b10⟩, ⟨a11, b11⟩, ⟨a12, b12⟩, a9, b9⟩, ⟨⟨a2, b2⟩, ⟨a5, b5⟩, ⟨a3, b3⟩, ⟨a4, b4⟩, ⟨a6, b6⟩, ⟨a14, b14⟩, ⟨a7, b7⟩, a13, b13⟩, rF, rP, rL⟩ := id hN
  have e : ∀ j, 0 ≤ j ∧ j < 119 → ¬ j = 4 → nthr N f t l r j = N j := fun j h h2 => nthr_o h h2 a4
  have e4 : nthr N f t l r 4 = N 4 + 1 := nthr_n a4
  have e14 : nthr N f t l r 14 = N 14 := e 14 (by decide) (by decide)
  unfold NR
  rw [e4, e 0 (by decide) (by decide), e 1 (by decide) (by decide), e 10 (by decide) (by decide), e 11 (by decide) (by decide), e 12 (by decide) (by decide), e 9 (by decide) (by decide), e 2 (by decide) (by decide), e 5 (by decide) (by decide), e 3 (by decide) (by decide), e 6 (by decide) (by decide), e14, e 7 (by decide) (by decide), e 13 (by decide) (by decide)]
  refine ⟨⟨⟨a0, b0⟩, ⟨a1, b1⟩, ⟨a10, b10⟩, ⟨a11, b11⟩, ⟨a12, b12⟩, a9, b9⟩, ⟨⟨a2, b2⟩, ⟨a5, b5⟩, ⟨a3, b3⟩, ⟨by omega, by omega⟩, ⟨a6, b6⟩, ⟨a14, b14⟩, ⟨a7, b7⟩, a13, b13⟩, fun q h0 h1 => ?_, fun q h0 h1 => ?_, fun q h0 h1 => ?_⟩
  · rw [e (71 + (q * 3 + 0)) (by omega) (by omega), e (71 + (q * 3 + 1)) (by omega) (by omega), e (71 + (q * 3 + 2)) (by omega) (by omega)]
    exact rF q h0 h1
  · rw [e (95 + (q * 3 + 0)) (by omega) (by omega), e (95 + (q * 3 + 1)) (by omega) (by omega), e (95 + (q * 3 + 2)) (by omega) (by omega)]
    exact rP q h0 h1
  · by_cases hq : q = N 4
    · subst hq
      rw [nthr_a, nthr_b, nthr_c, nthr_d, nthr_e, nthr_f, nthr_g]
      exact ⟨hf, ht, hl, ⟨a9, Int.le_refl _⟩, hr, ⟨by omega, by omega⟩, ⟨by omega, by omega⟩, hft⟩
    · have k : 0 ≤ q ∧ q < N 4 := ⟨h0, by omega⟩
      rw [nthr_x k (by decide), nthr_x k (by decide), nthr_x k (by decide), nthr_x k (by decide), nthr_x k (by decide), nthr_x k (by decide), nthr_x k (by decide)]
      exact rL q h0 k.2
theorem ns_same (hS : NS N) (h0 : N2 0 = N 0) (h2 : N2 2 = N 2) (h : ∀ j, 15 ≤ j → j < 71 → N2 j = N j) (hm : N 2 ≤ 8) (hl : N 0 ≤ 6) : NS N2 := by
  intro s s0 s1
  rw [h2] at s1
  obtain ⟨k1, k2⟩ := hS s s0 s1
  refine ⟨by rw [h _ (by omega) (by omega)]; exact k1, fun l l0 l1 => ?_⟩
  rw [h0] at l1
  rw [h _ (by omega) (by omega)]
  exact k2 l l0 l1
theorem ns_nthr (hN : NR N) (hS : NS N) : NS (nthr N f t l r) := ns_same hS (nthr_o (by decide) (by decide) hN.2.1.2.2.2.1.1) (nthr_o (by decide) (by decide) hN.2.1.2.2.2.1.1) (fun j h1 h2 => nthr_o (by omega) (by omega) hN.2.1.2.2.2.1.1) hN.2.1.1.2 hN.1.1.2
theorem logi_nthr (hN : NR N) (hg : LOGI N) : LOGI (nthr N f t l r) := by
  have a4 := hN.2.1.2.2.2.1.1
  show nthr N f t l r 14 = nop (nthr N f t l r) (nthr N f t l r 4).toNat
  rw [nthr_o (by decide) (by decide) a4, nthr_n a4, show (N 4 + 1).toNat = (N 4).toNat + 1 by omega]
  show N 14 = nop (nthr N f t l r) (N 4).toNat + (if nthr N f t l r (119 + ((((N 4).toNat : Nat) : Int) * 7 + 5)) = -1 then 0 else 1)
  rw [Int.toNat_of_nonneg a4, nthr_f, if_pos rfl, nop_e (N := N) (N 4).toNat (fun u hu => by rw [nthr_x ⟨by omega, by omega⟩ (by decide)])]
  have hg : N 14 = nop N (N 4).toNat := hg
  omega
theorem gi_nthr (h : GI N) (h4 : N 4 < 24) (hf : -1 ≤ f ∧ f < N 3) (ht : -1 ≤ t ∧ t < N 3) (hl : 0 ≤ l ∧ l < N 0) (hr : 0 ≤ r ∧ r < N 1) (hft : 0 ≤ f → 0 ≤ t) : GI (nthr N f t l r) := ⟨nr_nthr h.1 h4 hf ht hl hr hft, ns_nthr h.1 h.2.1, logi_nthr h.1 h.2.2⟩
/-- who watches -/
theorem nwat_o (h : ¬ j = 95 + (p * 3 + 2)) : nwat N p w j = N j := nup_ne h
theorem gi_nwat (h : GI N) (hp : 0 ≤ p ∧ p < N 3) (hw : -1 ≤ w ∧ w < N 0) : GI (nwat N p w) := by
  obtain ⟨hN, hS, hg⟩ := h
  obtain ⟨⟨⟨a0, b0⟩, ⟨a1, b1⟩, ⟨a10, b10⟩, ⟨a11, b11⟩, ⟨a12, b12⟩, a9, b9⟩, ⟨⟨a2, b2⟩, ⟨a5, b5⟩, ⟨a3, b3⟩, ⟨a4, b4⟩, ⟨a6, b6⟩, ⟨a14, b14⟩, ⟨a7, b7⟩, a13, b13⟩, rF, rP, rL⟩ := id hN
  have e : ∀ j, j < 95 ∨ 119 ≤ j → nwat N p w j = N j := fun j h => nwat_o (by omega)
  refine ⟨?_, ns_same hS (e 0 (by decide)) (e 2 (by decide)) (fun j h1 h2 => e j (by omega)) b2 b0, ?_⟩
  · unfold NR
    rw [e 4 (by decide), e 0 (by decide), e 1 (by decide), e 10 (by decide), e 11 (by decide), e 12 (by decide), e 9 (by decide), e 2 (by decide), e 5 (by decide), e 3 (by decide), e 6 (by decide), e 14 (by decide), e 7 (by decide), e 13 (by decide)]
    refine ⟨⟨⟨a0, b0⟩, ⟨a1, b1⟩, ⟨a10, b10⟩, ⟨a11, b11⟩, ⟨a12, b12⟩, a9, b9⟩, ⟨⟨a2, b2⟩, ⟨a5, b5⟩, ⟨a3, b3⟩, ⟨a4, b4⟩, ⟨a6, b6⟩, ⟨a14, b14⟩, ⟨a7, b7⟩, a13, b13⟩, fun q h0 h1 => ?_, fun q h0 h1 => ?_, fun q h0 h1 => ?_⟩
    · rw [e (71 + (q * 3 + 0)) (by omega), e (71 + (q * 3 + 1)) (by omega), e (71 + (q * 3 + 2)) (by omega)]
      exact rF q h0 h1
    · rw [nwat_o (j := 95 + (q * 3 + 0)) (by omega), nwat_o (j := 95 + (q * 3 + 1)) (by omega)]
      obtain ⟨k1, k2, k3⟩ := rP q h0 h1
      refine ⟨k1, k2, ?_⟩
      by_cases hq : q = p
      · subst hq
        have : nwat N q w (95 + (q * 3 + 2)) = w := nup_at
        rw [this]
        exact hw
      · rw [nwat_o (j := 95 + (q * 3 + 2)) (by omega)]
        exact k3
    · rw [e (119 + (q * 7 + 0)) (by omega), e (119 + (q * 7 + 1)) (by omega), e (119 + (q * 7 + 2)) (by omega), e (119 + (q * 7 + 3)) (by omega), e (119 + (q * 7 + 4)) (by omega), e (119 + (q * 7 + 5)) (by omega), e (119 + (q * 7 + 6)) (by omega)]
      exact rL q h0 h1
  · show nwat N p w 14 = nop (nwat N p w) (nwat N p w 4).toNat
    rw [e 14 (by decide), e 4 (by decide), nop_e (N := N) (N 4).toNat (fun u hu => by rw [e _ (by omega)])]
    exact hg
end GI0
/-! A TEXT OF A VALLEY: where it ends, what stays true. -/
section VB
variable {f : Int → Int} {e b : Int} {N : Int → Int}
theorem tif_i {α : Type} {C : α → Prop} {P : Prop} {a b : α} (ha : C a) (hb : C b) : C (tif P a b) := by
  by_cases h : P
  · rw [tif_t h]; exact ha
  · rw [tif_f h]; exact hb
theorem v_sp_b : ∀ (t : Nat) (N : Int → Int) (a b : Int), 0 ≤ b ∧ b ≤ e → b ≤ (v_sp f e t N a b).2.1 ∧ (v_sp f e t N a b).2.1 ≤ e := by
  intro t
  induction t with
  | zero => exact fun N a b h => ⟨Int.le_refl _, h.2⟩
  | succ t ih =>
    intro N a b h
    by_cases h1 : vn f e 0 20 b
    · rw [show v_sp f e (t + 1) N a b = v_sp f e t (nup N a (tx_v f e 4 b)) (a + 1) (tx_n f e b) from tif_t h1]
      have n1 := tx_nb (f := f) h.2
      have := ih (nup N a (tx_v f e 4 b)) (a + 1) (tx_n f e b) ⟨by omega, n1.2.1⟩
      exact ⟨by omega, this.2⟩
    · rw [show v_sp f e (t + 1) N a b = (false, b, N) from tif_f h1]
      exact ⟨Int.le_refl _, h.2⟩
/-- speeds: what is written, what is not -/
theorem v_sp_w : ∀ (t : Nat) (N : Int → Int) (a b : Int), (v_sp f e t N a b).1 = true → (∀ j, j < a ∨ a + (t : Int) ≤ j → (v_sp f e t N a b).2.2 j = N j) ∧ ∀ j, a ≤ j → j < a + (t : Int) → 0 ≤ (v_sp f e t N a b).2.2 j ∧ (v_sp f e t N a b).2.2 j ≤ 20 := by
  intro t
  induction t with
  | zero => exact fun N a b _ => ⟨fun j _ => rfl, fun j h0 h1 => absurd h1 (by omega)⟩
  | succ t ih =>
    intro N a b h
    by_cases h1 : vn f e 0 20 b
    · rw [show v_sp f e (t + 1) N a b = v_sp f e t (nup N a (tx_v f e 4 b)) (a + 1) (tx_n f e b) from tif_t h1] at h ⊢
      obtain ⟨i1, i2⟩ := ih _ _ _ h
      refine ⟨fun j hj => ?_, fun j h0 h2 => ?_⟩
      · rw [i1 j (by omega), nup_ne (by omega)]
      · by_cases e9 : j = a
        · rw [i1 j (by omega), e9, nup_at]
          exact h1.2
        · exact i2 j (by omega) (by omega)
    · rw [show v_sp f e (t + 1) N a b = (false, b, N) from tif_f h1] at h
      cases h
theorem v_lanes_b (h : 0 ≤ b ∧ b ≤ e) : b ≤ (v_lanes f e N b).2.1 ∧ (v_lanes f e N b).2.1 ≤ e := by
  obtain ⟨p1, p2, -⟩ := tx_nb (f := f) h.2
  obtain ⟨p3, p4, -⟩ := tx_nb (f := f) p2
  obtain ⟨p5, p6, -⟩ := tx_nb (f := f) p4
  obtain ⟨p7, p8, -⟩ := tx_nb (f := f) p6
  obtain ⟨p9, p10, -⟩ := tx_nb (f := f) p8
  unfold v_lanes tif
  repeat' split
  all_goals first | exact ⟨by dsimp only; omega, by dsimp only; omega⟩
theorem v_last_b (h : 0 ≤ b ∧ b ≤ e) : b ≤ (v_last f e N b).2.1 ∧ (v_last f e N b).2.1 ≤ e := by
  obtain ⟨p1, p2, -⟩ := tx_nb (f := f) h.2
  obtain ⟨p3, p4, -⟩ := tx_nb (f := f) p2
  obtain ⟨p5, p6, -⟩ := tx_nb (f := f) p4
  obtain ⟨p7, p8, -⟩ := tx_nb (f := f) p6
  obtain ⟨p9, p10, -⟩ := tx_nb (f := f) p8
  unfold v_last tif
  repeat' split
  all_goals first | exact ⟨by dsimp only; omega, by dsimp only; omega⟩
theorem v_snow_b (h : 0 ≤ b ∧ b ≤ e) : b ≤ (v_snow f e N b).2.1 ∧ (v_snow f e N b).2.1 ≤ e := by
  obtain ⟨p1, p2, -⟩ := tx_nb (f := f) h.2
  obtain ⟨p3, p4, -⟩ := tx_nb (f := f) p2
  obtain ⟨p5, p6, -⟩ := tx_nb (f := f) p4
  obtain ⟨p7, p8, -⟩ := tx_nb (f := f) p6
  obtain ⟨p9, p10, -⟩ := tx_nb (f := f) p8
  unfold v_snow tif
  repeat' split
  all_goals first | exact ⟨by dsimp only; omega, by dsimp only; omega⟩
theorem v_stripe_b (h : 0 ≤ b ∧ b ≤ e) : b ≤ (v_stripe f e N b).2.1 ∧ (v_stripe f e N b).2.1 ≤ e := by
  obtain ⟨p1, p2, -⟩ := tx_nb (f := f) h.2
  obtain ⟨p3, p4, -⟩ := tx_nb (f := f) p2
  obtain ⟨p5, p6, -⟩ := tx_nb (f := f) p4
  obtain ⟨p7, p8, -⟩ := tx_nb (f := f) p6
  obtain ⟨p9, p10, -⟩ := tx_nb (f := f) p8
  unfold v_stripe tif
  repeat' split
  all_goals first | exact ⟨by dsimp only; omega, by dsimp only; omega⟩
theorem v_seed_b (h : 0 ≤ b ∧ b ≤ e) : b ≤ (v_seed f e N b).2.1 ∧ (v_seed f e N b).2.1 ≤ e := by
  obtain ⟨p1, p2, -⟩ := tx_nb (f := f) h.2
  obtain ⟨p3, p4, -⟩ := tx_nb (f := f) p2
  obtain ⟨p5, p6, -⟩ := tx_nb (f := f) p4
  obtain ⟨p7, p8, -⟩ := tx_nb (f := f) p6
  obtain ⟨p9, p10, -⟩ := tx_nb (f := f) p8
  unfold v_seed tif
  repeat' split
  all_goals first | exact ⟨by dsimp only; omega, by dsimp only; omega⟩
theorem v_flood_b (h : 0 ≤ b ∧ b ≤ e) : b ≤ (v_flood f e N b).2.1 ∧ (v_flood f e N b).2.1 ≤ e := by
  obtain ⟨p1, p2, -⟩ := tx_nb (f := f) h.2
  obtain ⟨p3, p4, -⟩ := tx_nb (f := f) p2
  obtain ⟨p5, p6, -⟩ := tx_nb (f := f) p4
  obtain ⟨p7, p8, -⟩ := tx_nb (f := f) p6
  obtain ⟨p9, p10, -⟩ := tx_nb (f := f) p8
  unfold v_flood tif
  repeat' split
  all_goals first | exact ⟨by dsimp only; omega, by dsimp only; omega⟩
theorem v_person_b (h : 0 ≤ b ∧ b ≤ e) : b ≤ (v_person f e N b).2.1 ∧ (v_person f e N b).2.1 ≤ e := by
  obtain ⟨p1, p2, -⟩ := tx_nb (f := f) h.2
  obtain ⟨p3, p4, -⟩ := tx_nb (f := f) p2
  obtain ⟨p5, p6, -⟩ := tx_nb (f := f) p4
  obtain ⟨p7, p8, -⟩ := tx_nb (f := f) p6
  obtain ⟨p9, p10, -⟩ := tx_nb (f := f) p8
  unfold v_person tif
  repeat' split
  all_goals first | exact ⟨by dsimp only; omega, by dsimp only; omega⟩
theorem v_rock_b (h : 0 ≤ b ∧ b ≤ e) : b ≤ (v_rock f e N b).2.1 ∧ (v_rock f e N b).2.1 ≤ e := by
  obtain ⟨p1, p2, -⟩ := tx_nb (f := f) h.2
  obtain ⟨p3, p4, -⟩ := tx_nb (f := f) p2
  obtain ⟨p5, p6, -⟩ := tx_nb (f := f) p4
  obtain ⟨p7, p8, -⟩ := tx_nb (f := f) p6
  obtain ⟨p9, p10, -⟩ := tx_nb (f := f) p8
  unfold v_rock tif
  repeat' split
  all_goals first | exact ⟨by dsimp only; omega, by dsimp only; omega⟩
theorem v_section_b (h : 0 ≤ b ∧ b ≤ e) : b ≤ (v_section f e N b).2.1 ∧ (v_section f e N b).2.1 ≤ e := by
  obtain ⟨p1, p2, -⟩ := tx_nb (f := f) h.2
  obtain ⟨p3, p4, -⟩ := tx_nb (f := f) p2
  obtain ⟨p5, p6, -⟩ := tx_nb (f := f) p4
  obtain ⟨p7, p8, -⟩ := tx_nb (f := f) p6
  obtain ⟨p9, p10, -⟩ := tx_nb (f := f) p8
  have sp := fun t N2 a => v_sp_b (f := f) (e := e) t N2 a (tx_n f e (tx_n f e b)) ⟨by omega, by omega⟩
  refine tif_i (C := fun (q : Bool × Int × (Int → Int)) => b ≤ q.2.1 ∧ q.2.1 ≤ e) ⟨Int.le_refl _, h.2⟩ (tif_i (C := fun (q : Bool × Int × (Int → Int)) => b ≤ q.2.1 ∧ q.2.1 ≤ e) ?_ ⟨p1, p2⟩)
  exact ⟨Int.le_trans (by omega) (sp _ _ _).1, (sp _ _ _).2⟩
theorem v_table_b (h : 0 ≤ b ∧ b ≤ e) : b ≤ (v_table f e N b).2.1 ∧ (v_table f e N b).2.1 ≤ e := by
  obtain ⟨p1, p2, -⟩ := tx_nb (f := f) h.2
  obtain ⟨p3, p4, -⟩ := tx_nb (f := f) p2
  obtain ⟨p5, p6, -⟩ := tx_nb (f := f) p4
  obtain ⟨p7, p8, -⟩ := tx_nb (f := f) p6
  obtain ⟨p9, p10, -⟩ := tx_nb (f := f) p8
  have sp := fun t N2 a => v_sp_b (f := f) (e := e) t N2 a (tx_n f e b) ⟨by omega, by omega⟩
  unfold v_table tif
  repeat' split
  all_goals first | exact ⟨by dsimp only; omega, by dsimp only; omega⟩ | exact ⟨Int.le_trans (by omega) (sp _ _ _).1, (sp _ _ _).2⟩
theorem v_line_b (h : 0 ≤ b ∧ b ≤ e) : b ≤ (v_line f e N b).2.1 ∧ (v_line f e N b).2.1 ≤ e := by
  unfold v_line tif
  repeat' split
  · exact v_lanes_b h
  · exact v_last_b h
  · exact v_section_b h
  · exact v_snow_b h
  · exact v_stripe_b h
  · exact v_seed_b h
  · exact v_flood_b h
  · exact v_person_b h
  · exact v_rock_b h
  · exact v_table_b h
  · exact ⟨Int.le_refl _, h.2⟩
end VB
section VG
variable {f : Int → Int} {e b v w : Int} {N N2 : Int → Int}
theorem logi_same (hg : LOGI N) (h14 : N2 14 = N 14) (h4 : N2 4 = N 4) (h : ∀ j, 119 ≤ j → j < 287 → N2 j = N j) (b4 : N 4 ≤ 24) : LOGI N2 := by
  show N2 14 = nop N2 (N2 4).toNat
  rw [h14, h4, nop_e (N := N) (N 4).toNat (fun u hu => by rw [h _ (by omega) (by omega)])]
  exact hg
theorem v_emp0 (hN : NR N) (h : v_emp N) : N 2 = 0 ∧ N 5 = 0 ∧ N 3 = 0 ∧ N 4 = 0 ∧ N 6 = 0 := by
  obtain ⟨-, ⟨⟨a2, -⟩, ⟨a5, -⟩, ⟨a3, -⟩, ⟨a4, -⟩, ⟨a6, -⟩, -⟩, -⟩ := hN
  have h : N 2 + N 5 + N 3 + N 4 + N 6 = 0 := h
  omega
theorem gi_lanes (h : GI N) (hv : 1 ≤ v ∧ v ≤ 6) (he : v_emp N) : GI (nup (nup N 0 v) 12 v) := by
  obtain ⟨hN, hS, hg⟩ := h
  obtain ⟨⟨⟨a0, b0⟩, ⟨a1, b1⟩, ⟨a10, b10⟩, ⟨a11, b11⟩, ⟨a12, b12⟩, a9, b9⟩, ⟨⟨a2, b2⟩, ⟨a5, b5⟩, ⟨a3, b3⟩, ⟨a4, b4⟩, ⟨a6, b6⟩, ⟨a14, b14⟩, ⟨a7, b7⟩, a13, b13⟩, rF, rP, rL⟩ := id hN
  obtain ⟨z2, z5, z3, z4, z6⟩ := v_emp0 hN he
  have eg : ∀ j, 15 ≤ j → (nup (nup N 0 v) 12 v) j = N j := fun j h => by rw [nup_ne (by omega), nup_ne (by omega)]
  have e4 : (nup (nup N 0 v) 12 v) 4 = N 4 := by rw [nup_ne (by decide), nup_ne (by decide)]
  have e0 : (nup (nup N 0 v) 12 v) 0 = v := by rw [nup_ne (by decide), nup_at]
  have e1 : (nup (nup N 0 v) 12 v) 1 = N 1 := by rw [nup_ne (by decide), nup_ne (by decide)]
  have e10 : (nup (nup N 0 v) 12 v) 10 = N 10 := by rw [nup_ne (by decide), nup_ne (by decide)]
  have e11 : (nup (nup N 0 v) 12 v) 11 = N 11 := by rw [nup_ne (by decide), nup_ne (by decide)]
  have e12 : (nup (nup N 0 v) 12 v) 12 = v := by rw [nup_at]
  have e9 : (nup (nup N 0 v) 12 v) 9 = N 9 := by rw [nup_ne (by decide), nup_ne (by decide)]
  have e2 : (nup (nup N 0 v) 12 v) 2 = N 2 := by rw [nup_ne (by decide), nup_ne (by decide)]
  have e5 : (nup (nup N 0 v) 12 v) 5 = N 5 := by rw [nup_ne (by decide), nup_ne (by decide)]
  have e3 : (nup (nup N 0 v) 12 v) 3 = N 3 := by rw [nup_ne (by decide), nup_ne (by decide)]
  have e6 : (nup (nup N 0 v) 12 v) 6 = N 6 := by rw [nup_ne (by decide), nup_ne (by decide)]
  have e14 : (nup (nup N 0 v) 12 v) 14 = N 14 := by rw [nup_ne (by decide), nup_ne (by decide)]
  have e7 : (nup (nup N 0 v) 12 v) 7 = N 7 := by rw [nup_ne (by decide), nup_ne (by decide)]
  have e13 : (nup (nup N 0 v) 12 v) 13 = N 13 := by rw [nup_ne (by decide), nup_ne (by decide)]
  refine ⟨?_, ?_, ?_⟩
  · unfold NR
    rw [e4, e0, e1, e10, e11, e12, e9, e2, e5, e3, e6, e14, e7, e13]
    refine ⟨⟨⟨by omega, by omega⟩, ⟨by omega, by omega⟩, ⟨by omega, by omega⟩, ⟨by omega, by omega⟩, ⟨by omega, by omega⟩, by omega, by omega⟩, ⟨⟨by omega, by omega⟩, ⟨by omega, by omega⟩, ⟨by omega, by omega⟩, ⟨by omega, by omega⟩, ⟨by omega, by omega⟩, ⟨by omega, by omega⟩, ⟨by omega, by omega⟩, by omega, by omega⟩, ?_, ?_, ?_⟩
    · exact fun q h0 h1 => absurd h1 (by omega)
    · exact fun q h0 h1 => absurd h1 (by omega)
    · exact fun q h0 h1 => absurd h1 (by omega)
  · intro s s0 s1
    rw [e2] at s1
    exact absurd s1 (by omega)
  · exact logi_same hg e14 e4 (fun j h1 h2 => eg j (by omega)) b4
theorem gi_last (h : GI N) (hv : 10 ≤ v ∧ v ≤ 99) (he : v_emp N) : GI (nup (nup N 1 v) 10 10) := by
  obtain ⟨hN, hS, hg⟩ := h
  obtain ⟨⟨⟨a0, b0⟩, ⟨a1, b1⟩, ⟨a10, b10⟩, ⟨a11, b11⟩, ⟨a12, b12⟩, a9, b9⟩, ⟨⟨a2, b2⟩, ⟨a5, b5⟩, ⟨a3, b3⟩, ⟨a4, b4⟩, ⟨a6, b6⟩, ⟨a14, b14⟩, ⟨a7, b7⟩, a13, b13⟩, rF, rP, rL⟩ := id hN
  obtain ⟨z2, z5, z3, z4, z6⟩ := v_emp0 hN he
  have eg : ∀ j, 15 ≤ j → (nup (nup N 1 v) 10 10) j = N j := fun j h => by rw [nup_ne (by omega), nup_ne (by omega)]
  have e4 : (nup (nup N 1 v) 10 10) 4 = N 4 := by rw [nup_ne (by decide), nup_ne (by decide)]
  have e0 : (nup (nup N 1 v) 10 10) 0 = N 0 := by rw [nup_ne (by decide), nup_ne (by decide)]
  have e1 : (nup (nup N 1 v) 10 10) 1 = v := by rw [nup_ne (by decide), nup_at]
  have e10 : (nup (nup N 1 v) 10 10) 10 = 10 := by rw [nup_at]
  have e11 : (nup (nup N 1 v) 10 10) 11 = N 11 := by rw [nup_ne (by decide), nup_ne (by decide)]
  have e12 : (nup (nup N 1 v) 10 10) 12 = N 12 := by rw [nup_ne (by decide), nup_ne (by decide)]
  have e9 : (nup (nup N 1 v) 10 10) 9 = N 9 := by rw [nup_ne (by decide), nup_ne (by decide)]
  have e2 : (nup (nup N 1 v) 10 10) 2 = N 2 := by rw [nup_ne (by decide), nup_ne (by decide)]
  have e5 : (nup (nup N 1 v) 10 10) 5 = N 5 := by rw [nup_ne (by decide), nup_ne (by decide)]
  have e3 : (nup (nup N 1 v) 10 10) 3 = N 3 := by rw [nup_ne (by decide), nup_ne (by decide)]
  have e6 : (nup (nup N 1 v) 10 10) 6 = N 6 := by rw [nup_ne (by decide), nup_ne (by decide)]
  have e14 : (nup (nup N 1 v) 10 10) 14 = N 14 := by rw [nup_ne (by decide), nup_ne (by decide)]
  have e7 : (nup (nup N 1 v) 10 10) 7 = N 7 := by rw [nup_ne (by decide), nup_ne (by decide)]
  have e13 : (nup (nup N 1 v) 10 10) 13 = N 13 := by rw [nup_ne (by decide), nup_ne (by decide)]
  refine ⟨?_, ?_, ?_⟩
  · unfold NR
    rw [e4, e0, e1, e10, e11, e12, e9, e2, e5, e3, e6, e14, e7, e13]
    refine ⟨⟨⟨by omega, by omega⟩, ⟨by omega, by omega⟩, ⟨by omega, by omega⟩, ⟨by omega, by omega⟩, ⟨by omega, by omega⟩, by omega, by omega⟩, ⟨⟨by omega, by omega⟩, ⟨by omega, by omega⟩, ⟨by omega, by omega⟩, ⟨by omega, by omega⟩, ⟨by omega, by omega⟩, ⟨by omega, by omega⟩, ⟨by omega, by omega⟩, by omega, by omega⟩, ?_, ?_, ?_⟩
    · exact fun q h0 h1 => absurd h1 (by omega)
    · exact fun q h0 h1 => absurd h1 (by omega)
    · exact fun q h0 h1 => absurd h1 (by omega)
  · intro s s0 s1
    rw [e2] at s1
    exact absurd s1 (by omega)
  · exact logi_same hg e14 e4 (fun j h1 h2 => eg j (by omega)) b4
theorem gi_snow (h : GI N) (hv : 0 ≤ v ∧ v ≤ N 1 - 1) (hw : 0 ≤ w ∧ w ≤ 9) : GI (nup (nup N 10 v) 11 w) := by
  obtain ⟨hN, hS, hg⟩ := h
  obtain ⟨⟨⟨a0, b0⟩, ⟨a1, b1⟩, ⟨a10, b10⟩, ⟨a11, b11⟩, ⟨a12, b12⟩, a9, b9⟩, ⟨⟨a2, b2⟩, ⟨a5, b5⟩, ⟨a3, b3⟩, ⟨a4, b4⟩, ⟨a6, b6⟩, ⟨a14, b14⟩, ⟨a7, b7⟩, a13, b13⟩, rF, rP, rL⟩ := id hN
  have eg : ∀ j, 15 ≤ j → (nup (nup N 10 v) 11 w) j = N j := fun j h => by rw [nup_ne (by omega), nup_ne (by omega)]
  have e4 : (nup (nup N 10 v) 11 w) 4 = N 4 := by rw [nup_ne (by decide), nup_ne (by decide)]
  have e0 : (nup (nup N 10 v) 11 w) 0 = N 0 := by rw [nup_ne (by decide), nup_ne (by decide)]
  have e1 : (nup (nup N 10 v) 11 w) 1 = N 1 := by rw [nup_ne (by decide), nup_ne (by decide)]
  have e10 : (nup (nup N 10 v) 11 w) 10 = v := by rw [nup_ne (by decide), nup_at]
  have e11 : (nup (nup N 10 v) 11 w) 11 = w := by rw [nup_at]
  have e12 : (nup (nup N 10 v) 11 w) 12 = N 12 := by rw [nup_ne (by decide), nup_ne (by decide)]
  have e9 : (nup (nup N 10 v) 11 w) 9 = N 9 := by rw [nup_ne (by decide), nup_ne (by decide)]
  have e2 : (nup (nup N 10 v) 11 w) 2 = N 2 := by rw [nup_ne (by decide), nup_ne (by decide)]
  have e5 : (nup (nup N 10 v) 11 w) 5 = N 5 := by rw [nup_ne (by decide), nup_ne (by decide)]
  have e3 : (nup (nup N 10 v) 11 w) 3 = N 3 := by rw [nup_ne (by decide), nup_ne (by decide)]
  have e6 : (nup (nup N 10 v) 11 w) 6 = N 6 := by rw [nup_ne (by decide), nup_ne (by decide)]
  have e14 : (nup (nup N 10 v) 11 w) 14 = N 14 := by rw [nup_ne (by decide), nup_ne (by decide)]
  have e7 : (nup (nup N 10 v) 11 w) 7 = N 7 := by rw [nup_ne (by decide), nup_ne (by decide)]
  have e13 : (nup (nup N 10 v) 11 w) 13 = N 13 := by rw [nup_ne (by decide), nup_ne (by decide)]
  refine ⟨?_, ?_, ?_⟩
  · unfold NR
    rw [e4, e0, e1, e10, e11, e12, e9, e2, e5, e3, e6, e14, e7, e13]
    refine ⟨⟨⟨by omega, by omega⟩, ⟨by omega, by omega⟩, ⟨by omega, by omega⟩, ⟨by omega, by omega⟩, ⟨by omega, by omega⟩, by omega, by omega⟩, ⟨⟨by omega, by omega⟩, ⟨by omega, by omega⟩, ⟨by omega, by omega⟩, ⟨by omega, by omega⟩, ⟨by omega, by omega⟩, ⟨by omega, by omega⟩, ⟨by omega, by omega⟩, by omega, by omega⟩, ?_, ?_, ?_⟩
    · intro q h0 h1
      rw [eg (71 + (q * 3 + 0)) (by omega), eg (71 + (q * 3 + 1)) (by omega), eg (71 + (q * 3 + 2)) (by omega)]
      exact rF q h0 h1
    · intro q h0 h1
      rw [eg (95 + (q * 3 + 0)) (by omega), eg (95 + (q * 3 + 1)) (by omega), eg (95 + (q * 3 + 2)) (by omega)]
      exact rP q h0 h1
    · intro q h0 h1
      rw [eg (119 + (q * 7 + 0)) (by omega), eg (119 + (q * 7 + 1)) (by omega), eg (119 + (q * 7 + 2)) (by omega), eg (119 + (q * 7 + 3)) (by omega), eg (119 + (q * 7 + 4)) (by omega), eg (119 + (q * 7 + 5)) (by omega), eg (119 + (q * 7 + 6)) (by omega)]
      exact rL q h0 h1
  · exact ns_same hS e0 e2 (fun j h1 h2 => eg j (by omega)) b2 b0
  · exact logi_same hg e14 e4 (fun j h1 h2 => eg j (by omega)) b4
theorem gi_stripe (h : GI N) (hv : 0 ≤ v ∧ v ≤ N 0) : GI (nup N 12 v) := by
  obtain ⟨hN, hS, hg⟩ := h
  obtain ⟨⟨⟨a0, b0⟩, ⟨a1, b1⟩, ⟨a10, b10⟩, ⟨a11, b11⟩, ⟨a12, b12⟩, a9, b9⟩, ⟨⟨a2, b2⟩, ⟨a5, b5⟩, ⟨a3, b3⟩, ⟨a4, b4⟩, ⟨a6, b6⟩, ⟨a14, b14⟩, ⟨a7, b7⟩, a13, b13⟩, rF, rP, rL⟩ := id hN
  have eg : ∀ j, 15 ≤ j → (nup N 12 v) j = N j := fun j h => by rw [nup_ne (by omega)]
  have e4 : (nup N 12 v) 4 = N 4 := by rw [nup_ne (by decide)]
  have e0 : (nup N 12 v) 0 = N 0 := by rw [nup_ne (by decide)]
  have e1 : (nup N 12 v) 1 = N 1 := by rw [nup_ne (by decide)]
  have e10 : (nup N 12 v) 10 = N 10 := by rw [nup_ne (by decide)]
  have e11 : (nup N 12 v) 11 = N 11 := by rw [nup_ne (by decide)]
  have e12 : (nup N 12 v) 12 = v := by rw [nup_at]
  have e9 : (nup N 12 v) 9 = N 9 := by rw [nup_ne (by decide)]
  have e2 : (nup N 12 v) 2 = N 2 := by rw [nup_ne (by decide)]
  have e5 : (nup N 12 v) 5 = N 5 := by rw [nup_ne (by decide)]
  have e3 : (nup N 12 v) 3 = N 3 := by rw [nup_ne (by decide)]
  have e6 : (nup N 12 v) 6 = N 6 := by rw [nup_ne (by decide)]
  have e14 : (nup N 12 v) 14 = N 14 := by rw [nup_ne (by decide)]
  have e7 : (nup N 12 v) 7 = N 7 := by rw [nup_ne (by decide)]
  have e13 : (nup N 12 v) 13 = N 13 := by rw [nup_ne (by decide)]
  refine ⟨?_, ?_, ?_⟩
  · unfold NR
    rw [e4, e0, e1, e10, e11, e12, e9, e2, e5, e3, e6, e14, e7, e13]
    refine ⟨⟨⟨by omega, by omega⟩, ⟨by omega, by omega⟩, ⟨by omega, by omega⟩, ⟨by omega, by omega⟩, ⟨by omega, by omega⟩, by omega, by omega⟩, ⟨⟨by omega, by omega⟩, ⟨by omega, by omega⟩, ⟨by omega, by omega⟩, ⟨by omega, by omega⟩, ⟨by omega, by omega⟩, ⟨by omega, by omega⟩, ⟨by omega, by omega⟩, by omega, by omega⟩, ?_, ?_, ?_⟩
    · intro q h0 h1
      rw [eg (71 + (q * 3 + 0)) (by omega), eg (71 + (q * 3 + 1)) (by omega), eg (71 + (q * 3 + 2)) (by omega)]
      exact rF q h0 h1
    · intro q h0 h1
      rw [eg (95 + (q * 3 + 0)) (by omega), eg (95 + (q * 3 + 1)) (by omega), eg (95 + (q * 3 + 2)) (by omega)]
      exact rP q h0 h1
    · intro q h0 h1
      rw [eg (119 + (q * 7 + 0)) (by omega), eg (119 + (q * 7 + 1)) (by omega), eg (119 + (q * 7 + 2)) (by omega), eg (119 + (q * 7 + 3)) (by omega), eg (119 + (q * 7 + 4)) (by omega), eg (119 + (q * 7 + 5)) (by omega), eg (119 + (q * 7 + 6)) (by omega)]
      exact rL q h0 h1
  · exact ns_same hS e0 e2 (fun j h1 h2 => eg j (by omega)) b2 b0
  · exact logi_same hg e14 e4 (fun j h1 h2 => eg j (by omega)) b4
theorem gi_seed (h : GI N) (hv : 0 ≤ v ∧ v ≤ 9999) : GI (nup N 13 v) := by
  obtain ⟨hN, hS, hg⟩ := h
  obtain ⟨⟨⟨a0, b0⟩, ⟨a1, b1⟩, ⟨a10, b10⟩, ⟨a11, b11⟩, ⟨a12, b12⟩, a9, b9⟩, ⟨⟨a2, b2⟩, ⟨a5, b5⟩, ⟨a3, b3⟩, ⟨a4, b4⟩, ⟨a6, b6⟩, ⟨a14, b14⟩, ⟨a7, b7⟩, a13, b13⟩, rF, rP, rL⟩ := id hN
  have eg : ∀ j, 15 ≤ j → (nup N 13 v) j = N j := fun j h => by rw [nup_ne (by omega)]
  have e4 : (nup N 13 v) 4 = N 4 := by rw [nup_ne (by decide)]
  have e0 : (nup N 13 v) 0 = N 0 := by rw [nup_ne (by decide)]
  have e1 : (nup N 13 v) 1 = N 1 := by rw [nup_ne (by decide)]
  have e10 : (nup N 13 v) 10 = N 10 := by rw [nup_ne (by decide)]
  have e11 : (nup N 13 v) 11 = N 11 := by rw [nup_ne (by decide)]
  have e12 : (nup N 13 v) 12 = N 12 := by rw [nup_ne (by decide)]
  have e9 : (nup N 13 v) 9 = N 9 := by rw [nup_ne (by decide)]
  have e2 : (nup N 13 v) 2 = N 2 := by rw [nup_ne (by decide)]
  have e5 : (nup N 13 v) 5 = N 5 := by rw [nup_ne (by decide)]
  have e3 : (nup N 13 v) 3 = N 3 := by rw [nup_ne (by decide)]
  have e6 : (nup N 13 v) 6 = N 6 := by rw [nup_ne (by decide)]
  have e14 : (nup N 13 v) 14 = N 14 := by rw [nup_ne (by decide)]
  have e7 : (nup N 13 v) 7 = N 7 := by rw [nup_ne (by decide)]
  have e13 : (nup N 13 v) 13 = v := by rw [nup_at]
  refine ⟨?_, ?_, ?_⟩
  · unfold NR
    rw [e4, e0, e1, e10, e11, e12, e9, e2, e5, e3, e6, e14, e7, e13]
    refine ⟨⟨⟨by omega, by omega⟩, ⟨by omega, by omega⟩, ⟨by omega, by omega⟩, ⟨by omega, by omega⟩, ⟨by omega, by omega⟩, by omega, by omega⟩, ⟨⟨by omega, by omega⟩, ⟨by omega, by omega⟩, ⟨by omega, by omega⟩, ⟨by omega, by omega⟩, ⟨by omega, by omega⟩, ⟨by omega, by omega⟩, ⟨by omega, by omega⟩, by omega, by omega⟩, ?_, ?_, ?_⟩
    · intro q h0 h1
      rw [eg (71 + (q * 3 + 0)) (by omega), eg (71 + (q * 3 + 1)) (by omega), eg (71 + (q * 3 + 2)) (by omega)]
      exact rF q h0 h1
    · intro q h0 h1
      rw [eg (95 + (q * 3 + 0)) (by omega), eg (95 + (q * 3 + 1)) (by omega), eg (95 + (q * 3 + 2)) (by omega)]
      exact rP q h0 h1
    · intro q h0 h1
      rw [eg (119 + (q * 7 + 0)) (by omega), eg (119 + (q * 7 + 1)) (by omega), eg (119 + (q * 7 + 2)) (by omega), eg (119 + (q * 7 + 3)) (by omega), eg (119 + (q * 7 + 4)) (by omega), eg (119 + (q * 7 + 5)) (by omega), eg (119 + (q * 7 + 6)) (by omega)]
      exact rL q h0 h1
  · exact ns_same hS e0 e2 (fun j h1 h2 => eg j (by omega)) b2 b0
  · exact logi_same hg e14 e4 (fun j h1 h2 => eg j (by omega)) b4
variable {a r m : Int}
theorem gi_flood (h : GI N) (h8 : ¬ N 5 = 8) (ha : N 9 ≤ a ∧ a ≤ 299) (hr : 0 ≤ r ∧ r ≤ N 1 - 1) (hm : 1 ≤ m ∧ m ≤ 20) : GI (nup (nup (nup (nup N 5 (N 5 + 1)) (71 + (N 5 * 3 + 0)) a) (71 + (N 5 * 3 + 1)) r) (71 + (N 5 * 3 + 2)) m) := by
  obtain ⟨hN, hS, hg⟩ := h
  obtain ⟨⟨⟨a0, b0⟩, ⟨a1, b1⟩, ⟨a10, b10⟩, ⟨a11, b11⟩, ⟨a12, b12⟩, a9, b9⟩, ⟨⟨a2, b2⟩, ⟨a5, b5⟩, ⟨a3, b3⟩, ⟨a4, b4⟩, ⟨a6, b6⟩, ⟨a14, b14⟩, ⟨a7, b7⟩, a13, b13⟩, rF, rP, rL⟩ := id hN
  have eg : ∀ j, 95 ≤ j ∨ (15 ≤ j ∧ j < 71) → (nup (nup (nup (nup N 5 (N 5 + 1)) (71 + (N 5 * 3 + 0)) a) (71 + (N 5 * 3 + 1)) r) (71 + (N 5 * 3 + 2)) m) j = N j := fun j h => by rw [nup_ne (by omega), nup_ne (by omega), nup_ne (by omega), nup_ne (by omega)]
  have eq : ∀ q, 0 ≤ q → q < N 5 → ∀ c, 0 ≤ c ∧ c < 3 → (nup (nup (nup (nup N 5 (N 5 + 1)) (71 + (N 5 * 3 + 0)) a) (71 + (N 5 * 3 + 1)) r) (71 + (N 5 * 3 + 2)) m) (71 + (q * 3 + c)) = N (71 + (q * 3 + c)) := fun q q0 q1 c hc => by rw [nup_ne (by omega), nup_ne (by omega), nup_ne (by omega), nup_ne (by omega)]
  have e4 : (nup (nup (nup (nup N 5 (N 5 + 1)) (71 + (N 5 * 3 + 0)) a) (71 + (N 5 * 3 + 1)) r) (71 + (N 5 * 3 + 2)) m) 4 = N 4 := by rw [nup_ne (by omega), nup_ne (by omega), nup_ne (by omega), nup_ne (by decide)]
  have e0 : (nup (nup (nup (nup N 5 (N 5 + 1)) (71 + (N 5 * 3 + 0)) a) (71 + (N 5 * 3 + 1)) r) (71 + (N 5 * 3 + 2)) m) 0 = N 0 := by rw [nup_ne (by omega), nup_ne (by omega), nup_ne (by omega), nup_ne (by decide)]
  have e1 : (nup (nup (nup (nup N 5 (N 5 + 1)) (71 + (N 5 * 3 + 0)) a) (71 + (N 5 * 3 + 1)) r) (71 + (N 5 * 3 + 2)) m) 1 = N 1 := by rw [nup_ne (by omega), nup_ne (by omega), nup_ne (by omega), nup_ne (by decide)]
  have e10 : (nup (nup (nup (nup N 5 (N 5 + 1)) (71 + (N 5 * 3 + 0)) a) (71 + (N 5 * 3 + 1)) r) (71 + (N 5 * 3 + 2)) m) 10 = N 10 := by rw [nup_ne (by omega), nup_ne (by omega), nup_ne (by omega), nup_ne (by decide)]
  have e11 : (nup (nup (nup (nup N 5 (N 5 + 1)) (71 + (N 5 * 3 + 0)) a) (71 + (N 5 * 3 + 1)) r) (71 + (N 5 * 3 + 2)) m) 11 = N 11 := by rw [nup_ne (by omega), nup_ne (by omega), nup_ne (by omega), nup_ne (by decide)]
  have e12 : (nup (nup (nup (nup N 5 (N 5 + 1)) (71 + (N 5 * 3 + 0)) a) (71 + (N 5 * 3 + 1)) r) (71 + (N 5 * 3 + 2)) m) 12 = N 12 := by rw [nup_ne (by omega), nup_ne (by omega), nup_ne (by omega), nup_ne (by decide)]
  have e9 : (nup (nup (nup (nup N 5 (N 5 + 1)) (71 + (N 5 * 3 + 0)) a) (71 + (N 5 * 3 + 1)) r) (71 + (N 5 * 3 + 2)) m) 9 = N 9 := by rw [nup_ne (by omega), nup_ne (by omega), nup_ne (by omega), nup_ne (by decide)]
  have e2 : (nup (nup (nup (nup N 5 (N 5 + 1)) (71 + (N 5 * 3 + 0)) a) (71 + (N 5 * 3 + 1)) r) (71 + (N 5 * 3 + 2)) m) 2 = N 2 := by rw [nup_ne (by omega), nup_ne (by omega), nup_ne (by omega), nup_ne (by decide)]
  have e5 : (nup (nup (nup (nup N 5 (N 5 + 1)) (71 + (N 5 * 3 + 0)) a) (71 + (N 5 * 3 + 1)) r) (71 + (N 5 * 3 + 2)) m) 5 = N 5 + 1 := by rw [nup_ne (by omega), nup_ne (by omega), nup_ne (by omega), nup_at]
  have e3 : (nup (nup (nup (nup N 5 (N 5 + 1)) (71 + (N 5 * 3 + 0)) a) (71 + (N 5 * 3 + 1)) r) (71 + (N 5 * 3 + 2)) m) 3 = N 3 := by rw [nup_ne (by omega), nup_ne (by omega), nup_ne (by omega), nup_ne (by decide)]
  have e6 : (nup (nup (nup (nup N 5 (N 5 + 1)) (71 + (N 5 * 3 + 0)) a) (71 + (N 5 * 3 + 1)) r) (71 + (N 5 * 3 + 2)) m) 6 = N 6 := by rw [nup_ne (by omega), nup_ne (by omega), nup_ne (by omega), nup_ne (by decide)]
  have e14 : (nup (nup (nup (nup N 5 (N 5 + 1)) (71 + (N 5 * 3 + 0)) a) (71 + (N 5 * 3 + 1)) r) (71 + (N 5 * 3 + 2)) m) 14 = N 14 := by rw [nup_ne (by omega), nup_ne (by omega), nup_ne (by omega), nup_ne (by decide)]
  have e7 : (nup (nup (nup (nup N 5 (N 5 + 1)) (71 + (N 5 * 3 + 0)) a) (71 + (N 5 * 3 + 1)) r) (71 + (N 5 * 3 + 2)) m) 7 = N 7 := by rw [nup_ne (by omega), nup_ne (by omega), nup_ne (by omega), nup_ne (by decide)]
  have e13 : (nup (nup (nup (nup N 5 (N 5 + 1)) (71 + (N 5 * 3 + 0)) a) (71 + (N 5 * 3 + 1)) r) (71 + (N 5 * 3 + 2)) m) 13 = N 13 := by rw [nup_ne (by omega), nup_ne (by omega), nup_ne (by omega), nup_ne (by decide)]
  refine ⟨?_, ?_, ?_⟩
  · unfold NR
    rw [e4, e0, e1, e10, e11, e12, e9, e2, e5, e3, e6, e14, e7, e13]
    refine ⟨⟨⟨by omega, by omega⟩, ⟨by omega, by omega⟩, ⟨by omega, by omega⟩, ⟨by omega, by omega⟩, ⟨by omega, by omega⟩, by omega, by omega⟩, ⟨⟨by omega, by omega⟩, ⟨by omega, by omega⟩, ⟨by omega, by omega⟩, ⟨by omega, by omega⟩, ⟨by omega, by omega⟩, ⟨by omega, by omega⟩, ⟨by omega, by omega⟩, by omega, by omega⟩, ?_, ?_, ?_⟩
    · intro q h0 h1
      by_cases hq : q = N 5
      · subst hq
        rw [show (nup (nup (nup (nup N 5 (N 5 + 1)) (71 + (N 5 * 3 + 0)) a) (71 + (N 5 * 3 + 1)) r) (71 + (N 5 * 3 + 2)) m) (71 + (N 5 * 3 + 0)) = a by rw [nup_ne (by omega), nup_ne (by omega), nup_at], show (nup (nup (nup (nup N 5 (N 5 + 1)) (71 + (N 5 * 3 + 0)) a) (71 + (N 5 * 3 + 1)) r) (71 + (N 5 * 3 + 2)) m) (71 + (N 5 * 3 + 1)) = r by rw [nup_ne (by omega), nup_at], show (nup (nup (nup (nup N 5 (N 5 + 1)) (71 + (N 5 * 3 + 0)) a) (71 + (N 5 * 3 + 1)) r) (71 + (N 5 * 3 + 2)) m) (71 + (N 5 * 3 + 2)) = m by rw [nup_at]]
        exact ⟨⟨by omega, by omega⟩, ⟨by omega, by omega⟩, ⟨by omega, by omega⟩⟩
      · rw [eq q h0 (by omega) 0 (by decide), eq q h0 (by omega) 1 (by decide), eq q h0 (by omega) 2 (by decide)]
        exact rF q h0 (by omega)
    · intro q h0 h1
      rw [eg (95 + (q * 3 + 0)) (by omega), eg (95 + (q * 3 + 1)) (by omega), eg (95 + (q * 3 + 2)) (by omega)]
      exact rP q h0 h1
    · intro q h0 h1
      rw [eg (119 + (q * 7 + 0)) (by omega), eg (119 + (q * 7 + 1)) (by omega), eg (119 + (q * 7 + 2)) (by omega), eg (119 + (q * 7 + 3)) (by omega), eg (119 + (q * 7 + 4)) (by omega), eg (119 + (q * 7 + 5)) (by omega), eg (119 + (q * 7 + 6)) (by omega)]
      exact rL q h0 h1
  · exact ns_same hS e0 e2 (fun j h1 h2 => eg j (by omega)) b2 b0
  · exact logi_same hg e14 e4 (fun j h1 h2 => eg j (by omega)) b4
theorem gi_person (h : GI N) (h8 : ¬ N 3 = 8) (ha : 0 ≤ a ∧ a ≤ N 0 - 1) (hr : 0 ≤ r ∧ r ≤ N 1 - 1) (hw : -1 ≤ w ∧ w ≤ N 0 - 1) : GI (nper N a r w) := by
  obtain ⟨hN, hS, hg⟩ := h
  obtain ⟨⟨⟨a0, b0⟩, ⟨a1, b1⟩, ⟨a10, b10⟩, ⟨a11, b11⟩, ⟨a12, b12⟩, a9, b9⟩, ⟨⟨a2, b2⟩, ⟨a5, b5⟩, ⟨a3, b3⟩, ⟨a4, b4⟩, ⟨a6, b6⟩, ⟨a14, b14⟩, ⟨a7, b7⟩, a13, b13⟩, rF, rP, rL⟩ := id hN
  have eg : ∀ j, 119 ≤ j ∨ (15 ≤ j ∧ j < 95) → (nper N a r w) j = N j := fun j h => by unfold nper; rw [nup_ne (by omega), nup_ne (by omega), nup_ne (by omega), nup_ne (by omega)]
  have eq : ∀ q, 0 ≤ q → q < N 3 → ∀ c, 0 ≤ c ∧ c < 3 → (nper N a r w) (95 + (q * 3 + c)) = N (95 + (q * 3 + c)) := fun q q0 q1 c hc => by unfold nper; rw [nup_ne (by omega), nup_ne (by omega), nup_ne (by omega), nup_ne (by omega)]
  have e4 : (nper N a r w) 4 = N 4 := by unfold nper; rw [nup_ne (by omega), nup_ne (by omega), nup_ne (by omega), nup_ne (by decide)]
  have e0 : (nper N a r w) 0 = N 0 := by unfold nper; rw [nup_ne (by omega), nup_ne (by omega), nup_ne (by omega), nup_ne (by decide)]
  have e1 : (nper N a r w) 1 = N 1 := by unfold nper; rw [nup_ne (by omega), nup_ne (by omega), nup_ne (by omega), nup_ne (by decide)]
  have e10 : (nper N a r w) 10 = N 10 := by unfold nper; rw [nup_ne (by omega), nup_ne (by omega), nup_ne (by omega), nup_ne (by decide)]
  have e11 : (nper N a r w) 11 = N 11 := by unfold nper; rw [nup_ne (by omega), nup_ne (by omega), nup_ne (by omega), nup_ne (by decide)]
  have e12 : (nper N a r w) 12 = N 12 := by unfold nper; rw [nup_ne (by omega), nup_ne (by omega), nup_ne (by omega), nup_ne (by decide)]
  have e9 : (nper N a r w) 9 = N 9 := by unfold nper; rw [nup_ne (by omega), nup_ne (by omega), nup_ne (by omega), nup_ne (by decide)]
  have e2 : (nper N a r w) 2 = N 2 := by unfold nper; rw [nup_ne (by omega), nup_ne (by omega), nup_ne (by omega), nup_ne (by decide)]
  have e5 : (nper N a r w) 5 = N 5 := by unfold nper; rw [nup_ne (by omega), nup_ne (by omega), nup_ne (by omega), nup_ne (by decide)]
  have e3 : (nper N a r w) 3 = N 3 + 1 := by unfold nper; rw [nup_ne (by omega), nup_ne (by omega), nup_ne (by omega), nup_at]
  have e6 : (nper N a r w) 6 = N 6 := by unfold nper; rw [nup_ne (by omega), nup_ne (by omega), nup_ne (by omega), nup_ne (by decide)]
  have e14 : (nper N a r w) 14 = N 14 := by unfold nper; rw [nup_ne (by omega), nup_ne (by omega), nup_ne (by omega), nup_ne (by decide)]
  have e7 : (nper N a r w) 7 = N 7 := by unfold nper; rw [nup_ne (by omega), nup_ne (by omega), nup_ne (by omega), nup_ne (by decide)]
  have e13 : (nper N a r w) 13 = N 13 := by unfold nper; rw [nup_ne (by omega), nup_ne (by omega), nup_ne (by omega), nup_ne (by decide)]
  refine ⟨?_, ?_, ?_⟩
  · unfold NR
    rw [e4, e0, e1, e10, e11, e12, e9, e2, e5, e3, e6, e14, e7, e13]
    refine ⟨⟨⟨by omega, by omega⟩, ⟨by omega, by omega⟩, ⟨by omega, by omega⟩, ⟨by omega, by omega⟩, ⟨by omega, by omega⟩, by omega, by omega⟩, ⟨⟨by omega, by omega⟩, ⟨by omega, by omega⟩, ⟨by omega, by omega⟩, ⟨by omega, by omega⟩, ⟨by omega, by omega⟩, ⟨by omega, by omega⟩, ⟨by omega, by omega⟩, by omega, by omega⟩, ?_, ?_, ?_⟩
    · intro q h0 h1
      rw [eg (71 + (q * 3 + 0)) (by omega), eg (71 + (q * 3 + 1)) (by omega), eg (71 + (q * 3 + 2)) (by omega)]
      exact rF q h0 h1
    · intro q h0 h1
      by_cases hq : q = N 3
      · subst hq
        rw [show (nper N a r w) (95 + (N 3 * 3 + 0)) = a by unfold nper; rw [nup_ne (by omega), nup_ne (by omega), nup_at], show (nper N a r w) (95 + (N 3 * 3 + 1)) = r by unfold nper; rw [nup_ne (by omega), nup_at], show (nper N a r w) (95 + (N 3 * 3 + 2)) = w by unfold nper; rw [nup_at]]
        exact ⟨⟨by omega, by omega⟩, ⟨by omega, by omega⟩, ⟨by omega, by omega⟩⟩
      · rw [eq q h0 (by omega) 0 (by decide), eq q h0 (by omega) 1 (by decide), eq q h0 (by omega) 2 (by decide)]
        exact rP q h0 (by omega)
    · intro q h0 h1
      rw [eg (119 + (q * 7 + 0)) (by omega), eg (119 + (q * 7 + 1)) (by omega), eg (119 + (q * 7 + 2)) (by omega), eg (119 + (q * 7 + 3)) (by omega), eg (119 + (q * 7 + 4)) (by omega), eg (119 + (q * 7 + 5)) (by omega), eg (119 + (q * 7 + 6)) (by omega)]
      obtain ⟨k1, k2, k3, k4, k5, k6, k7, k8⟩ := rL q h0 h1
      exact ⟨⟨k1.1, by omega⟩, ⟨k2.1, by omega⟩, k3, k4, k5, ⟨k6.1, by omega⟩, k7, k8⟩
  · exact ns_same hS e0 e2 (fun j h1 h2 => eg j (by omega)) b2 b0
  · exact logi_same hg e14 e4 (fun j h1 h2 => eg j (by omega)) b4
theorem gi_section (h : GI N) (h8 : ¬ N 2 = 8) (h2 : N2 2 = N 2 + 1) (hrow : N2 (15 + (N 2 * 7 + 0)) = v) (hv : 0 ≤ v ∧ v ≤ 98) (hsp : ∀ j, 15 + (N 2 * 7 + (1 + 0)) ≤ j → j < 15 + (N 2 * 7 + (1 + 0)) + N 0 → 0 ≤ N2 j ∧ N2 j ≤ 20) (ho : ∀ j, ¬ j = 2 → j < 15 + (N 2 * 7 + 0) ∨ 71 ≤ j → N2 j = N j) : GI (N2) := by
  obtain ⟨hN, hS, hg⟩ := h
  obtain ⟨⟨⟨a0, b0⟩, ⟨a1, b1⟩, ⟨a10, b10⟩, ⟨a11, b11⟩, ⟨a12, b12⟩, a9, b9⟩, ⟨⟨a2, b2⟩, ⟨a5, b5⟩, ⟨a3, b3⟩, ⟨a4, b4⟩, ⟨a6, b6⟩, ⟨a14, b14⟩, ⟨a7, b7⟩, a13, b13⟩, rF, rP, rL⟩ := id hN
  have eg : ∀ j, 71 ≤ j → N2 j = N j := fun j h => ho j (by omega) (Or.inr h)
  have eo : ∀ j, 15 ≤ j → j < 15 + (N 2 * 7 + 0) → N2 j = N j := fun j h h9 => ho j (by omega) (Or.inl h9)
  have e4 : (N2) 4 = N 4 := ho _ (by decide) (by omega)
  have e0 : (N2) 0 = N 0 := ho _ (by decide) (by omega)
  have e1 : (N2) 1 = N 1 := ho _ (by decide) (by omega)
  have e10 : (N2) 10 = N 10 := ho _ (by decide) (by omega)
  have e11 : (N2) 11 = N 11 := ho _ (by decide) (by omega)
  have e12 : (N2) 12 = N 12 := ho _ (by decide) (by omega)
  have e9 : (N2) 9 = N 9 := ho _ (by decide) (by omega)
  have e2 : (N2) 2 = N 2 + 1 := h2
  have e5 : (N2) 5 = N 5 := ho _ (by decide) (by omega)
  have e3 : (N2) 3 = N 3 := ho _ (by decide) (by omega)
  have e6 : (N2) 6 = N 6 := ho _ (by decide) (by omega)
  have e14 : (N2) 14 = N 14 := ho _ (by decide) (by omega)
  have e7 : (N2) 7 = N 7 := ho _ (by decide) (by omega)
  have e13 : (N2) 13 = N 13 := ho _ (by decide) (by omega)
  refine ⟨?_, ?_, ?_⟩
  · unfold NR
    rw [e4, e0, e1, e10, e11, e12, e9, e2, e5, e3, e6, e14, e7, e13]
    refine ⟨⟨⟨by omega, by omega⟩, ⟨by omega, by omega⟩, ⟨by omega, by omega⟩, ⟨by omega, by omega⟩, ⟨by omega, by omega⟩, by omega, by omega⟩, ⟨⟨by omega, by omega⟩, ⟨by omega, by omega⟩, ⟨by omega, by omega⟩, ⟨by omega, by omega⟩, ⟨by omega, by omega⟩, ⟨by omega, by omega⟩, ⟨by omega, by omega⟩, by omega, by omega⟩, ?_, ?_, ?_⟩
    · intro q h0 h1
      rw [eg (71 + (q * 3 + 0)) (by omega), eg (71 + (q * 3 + 1)) (by omega), eg (71 + (q * 3 + 2)) (by omega)]
      exact rF q h0 h1
    · intro q h0 h1
      rw [eg (95 + (q * 3 + 0)) (by omega), eg (95 + (q * 3 + 1)) (by omega), eg (95 + (q * 3 + 2)) (by omega)]
      exact rP q h0 h1
    · intro q h0 h1
      rw [eg (119 + (q * 7 + 0)) (by omega), eg (119 + (q * 7 + 1)) (by omega), eg (119 + (q * 7 + 2)) (by omega), eg (119 + (q * 7 + 3)) (by omega), eg (119 + (q * 7 + 4)) (by omega), eg (119 + (q * 7 + 5)) (by omega), eg (119 + (q * 7 + 6)) (by omega)]
      exact rL q h0 h1
  · intro s s0 s1
    rw [e2] at s1
    by_cases hs : s = N 2
    · subst hs
      refine ⟨?_, fun l l0 l1 => ?_⟩
      · rw [show (15 : Int) + 7 * N 2 = 15 + (N 2 * 7 + 0) by omega, hrow]
        exact ⟨by omega, by omega⟩
      · rw [e0] at l1
        rw [show (15 : Int) + 7 * N 2 + 1 + l = 15 + (N 2 * 7 + (1 + 0)) + l by omega]
        exact hsp _ (by omega) (by omega)
    · obtain ⟨k1, k2⟩ := hS s s0 (by omega)
      refine ⟨by rw [eo _ (by omega) (by omega)]; exact k1, fun l l0 l1 => ?_⟩
      rw [e0] at l1
      rw [eo _ (by omega) (by omega)]
      exact k2 l l0 l1
  · exact logi_same hg e14 e4 (fun j h1 h2 => eg j (by omega)) b4
theorem gi_table (h : GI N) (h8 : ¬ N 6 = 6) (h6 : N2 6 = N 6 + 1) (ho : ∀ j, ¬ j = 6 → j < 287 → N2 j = N j) : GI (N2) := by
  obtain ⟨hN, hS, hg⟩ := h
  obtain ⟨⟨⟨a0, b0⟩, ⟨a1, b1⟩, ⟨a10, b10⟩, ⟨a11, b11⟩, ⟨a12, b12⟩, a9, b9⟩, ⟨⟨a2, b2⟩, ⟨a5, b5⟩, ⟨a3, b3⟩, ⟨a4, b4⟩, ⟨a6, b6⟩, ⟨a14, b14⟩, ⟨a7, b7⟩, a13, b13⟩, rF, rP, rL⟩ := id hN
  have eg : ∀ j, 71 ≤ j ∧ j < 287 → N2 j = N j := fun j h => ho j (by omega) h.2
  have e4 : (N2) 4 = N 4 := ho _ (by decide) (by decide)
  have e0 : (N2) 0 = N 0 := ho _ (by decide) (by decide)
  have e1 : (N2) 1 = N 1 := ho _ (by decide) (by decide)
  have e10 : (N2) 10 = N 10 := ho _ (by decide) (by decide)
  have e11 : (N2) 11 = N 11 := ho _ (by decide) (by decide)
  have e12 : (N2) 12 = N 12 := ho _ (by decide) (by decide)
  have e9 : (N2) 9 = N 9 := ho _ (by decide) (by decide)
  have e2 : (N2) 2 = N 2 := ho _ (by decide) (by decide)
  have e5 : (N2) 5 = N 5 := ho _ (by decide) (by decide)
  have e3 : (N2) 3 = N 3 := ho _ (by decide) (by decide)
  have e6 : (N2) 6 = N 6 + 1 := h6
  have e14 : (N2) 14 = N 14 := ho _ (by decide) (by decide)
  have e7 : (N2) 7 = N 7 := ho _ (by decide) (by decide)
  have e13 : (N2) 13 = N 13 := ho _ (by decide) (by decide)
  refine ⟨?_, ?_, ?_⟩
  · unfold NR
    rw [e4, e0, e1, e10, e11, e12, e9, e2, e5, e3, e6, e14, e7, e13]
    refine ⟨⟨⟨by omega, by omega⟩, ⟨by omega, by omega⟩, ⟨by omega, by omega⟩, ⟨by omega, by omega⟩, ⟨by omega, by omega⟩, by omega, by omega⟩, ⟨⟨by omega, by omega⟩, ⟨by omega, by omega⟩, ⟨by omega, by omega⟩, ⟨by omega, by omega⟩, ⟨by omega, by omega⟩, ⟨by omega, by omega⟩, ⟨by omega, by omega⟩, by omega, by omega⟩, ?_, ?_, ?_⟩
    · intro q h0 h1
      rw [eg (71 + (q * 3 + 0)) (by omega), eg (71 + (q * 3 + 1)) (by omega), eg (71 + (q * 3 + 2)) (by omega)]
      exact rF q h0 h1
    · intro q h0 h1
      rw [eg (95 + (q * 3 + 0)) (by omega), eg (95 + (q * 3 + 1)) (by omega), eg (95 + (q * 3 + 2)) (by omega)]
      exact rP q h0 h1
    · intro q h0 h1
      rw [eg (119 + (q * 7 + 0)) (by omega), eg (119 + (q * 7 + 1)) (by omega), eg (119 + (q * 7 + 2)) (by omega), eg (119 + (q * 7 + 3)) (by omega), eg (119 + (q * 7 + 4)) (by omega), eg (119 + (q * 7 + 5)) (by omega), eg (119 + (q * 7 + 6)) (by omega)]
      exact rL q h0 h1
  · exact ns_same hS e0 e2 (fun j h1 h2 => ho j (by omega) (by omega)) b2 b0
  · exact logi_same hg e14 e4 (fun j h1 h2 => ho j (by omega) (by omega)) b4
/-- a LINE keeps what always holds -/
theorem v_line_g (h : GI N) (hb : 0 ≤ b ∧ b ≤ e) (ht : (v_line f e N b).1 = true) : GI (v_line f e N b).2.2 := by
  have hN := h.1
  have hS := h.2.1
  have b0 := hN.1.1
  have b2 := hN.2.1.1
  revert ht
  unfold v_line
  by_cases w_lanes : tx_is f e b wv_lanes
  · rw [tif_t w_lanes]
    unfold v_lanes
    by_cases h1 : v_emp N
    · rw [tif_t h1]
      by_cases h2 : vn f e 1 6 (tx_n f e b)
      · rw [tif_t h2]
        exact fun _ => gi_lanes h h2.2 h1
      · rw [tif_f h2]
        exact fun h => by cases h
    · rw [tif_f h1]
      exact fun h => by cases h
  rw [tif_f w_lanes]
  by_cases w_last : tx_is f e b wv_last
  · rw [tif_t w_last]
    unfold v_last
    by_cases h1 : v_emp N
    · rw [tif_t h1]
      by_cases h2 : vn f e 10 99 (tx_n f e b)
      · rw [tif_t h2]
        exact fun _ => gi_last h h2.2 h1
      · rw [tif_f h2]
        exact fun h => by cases h
    · rw [tif_f h1]
      exact fun h => by cases h
  rw [tif_f w_last]
  by_cases w_section : tx_is f e b wv_section
  · rw [tif_t w_section]
    unfold v_section
    by_cases h1 : N 2 = 8
    · rw [tif_t h1]
      exact fun h => by cases h
    · rw [tif_f h1]
      by_cases h2 : vn f e (if N 2 = 0 then 0 else N (15 + ((N 2 - 1) * 7 + 0)) + 1) (if N 2 = 0 then 0 else N 1 - 1) (tx_n f e b)
      · rw [tif_t h2]
        intro ht
        obtain ⟨s1, s2⟩ := v_sp_w _ _ _ _ ht
        have hv : 0 ≤ tx_v f e 4 (tx_n f e b) ∧ tx_v f e 4 (tx_n f e b) ≤ 98 := by
          obtain ⟨-, k1, k2⟩ := h2
          have b1 := hN.1.2.1
          by_cases hz : N 2 = 0
          · rw [if_pos hz] at k1 k2
            omega
          · rw [if_neg hz] at k1 k2
            have := (hS (N 2 - 1) (by omega) (by omega)).1
            rw [show (15 : Int) + 7 * (N 2 - 1) = 15 + ((N 2 - 1) * 7 + 0) by omega] at this
            omega
        refine gi_section h h1 ?_ ?_ hv (fun j j0 j1 => s2 j j0 (by omega)) (fun j j2 jo => ?_)
        · rw [s1 2 (by omega), nup_ne (by omega), nup_at]
        · rw [s1 _ (by omega), nup_at]
        · rw [s1 j (by omega), nup_ne (by omega), nup_ne j2]
      · rw [tif_f h2]
        exact fun h => by cases h
  rw [tif_f w_section]
  by_cases w_snow : tx_is f e b wv_snow
  · rw [tif_t w_snow]
    unfold v_snow
    by_cases h1 : vn f e 0 (N 1 - 1) (tx_n f e b)
    · rw [tif_t h1]
      by_cases h2 : tx_is f e (tx_n f e (tx_n f e b)) wv_fall
      · rw [tif_t h2]
        by_cases h3 : vn f e 0 9 (tx_n f e (tx_n f e (tx_n f e b)))
        · rw [tif_t h3]
          exact fun _ => gi_snow h h1.2 h3.2
        · rw [tif_f h3]
          exact fun h => by cases h
      · rw [tif_f h2]
        exact fun h => by cases h
    · rw [tif_f h1]
      exact fun h => by cases h
  rw [tif_f w_snow]
  by_cases w_stripe : tx_is f e b wv_stripe
  · rw [tif_t w_stripe]
    unfold v_stripe
    by_cases h1 : vn f e 0 (N 0) (tx_n f e b)
    · rw [tif_t h1]
      exact fun _ => gi_stripe h h1.2
    · rw [tif_f h1]
      exact fun h => by cases h
  rw [tif_f w_stripe]
  by_cases w_seed : tx_is f e b wv_seed
  · rw [tif_t w_seed]
    unfold v_seed
    by_cases h1 : vn f e 0 9999 (tx_n f e b)
    · rw [tif_t h1]
      exact fun _ => gi_seed h h1.2
    · rw [tif_f h1]
      exact fun h => by cases h
  rw [tif_f w_seed]
  by_cases w_flood : tx_is f e b wv_flood
  · rw [tif_t w_flood]
    unfold v_flood
    by_cases h1 : N 5 = 8
    · rw [tif_t h1]
      exact fun h => by cases h
    · rw [tif_f h1]
      by_cases h2 : vn f e (N 9) 299 (tx_n f e b)
      · rw [tif_t h2]
        by_cases h3 : vn f e 0 (N 1 - 1) (tx_n f e (tx_n f e b))
        · rw [tif_t h3]
          by_cases h4 : vn f e 1 20 (tx_n f e (tx_n f e (tx_n f e b)))
          · rw [tif_t h4]
            exact fun _ => gi_flood h h1 h2.2 h3.2 h4.2
          · rw [tif_f h4]
            exact fun h => by cases h
        · rw [tif_f h3]
          exact fun h => by cases h
      · rw [tif_f h2]
        exact fun h => by cases h
  rw [tif_f w_flood]
  by_cases w_person : tx_is f e b wv_person
  · rw [tif_t w_person]
    unfold v_person
    by_cases h1 : N 3 = 8
    · rw [tif_t h1]
      exact fun h => by cases h
    · rw [tif_f h1]
      by_cases h2 : vn f e 0 (N 0 - 1) (tx_n f e b)
      · rw [tif_t h2]
        by_cases h3 : vn f e 0 (N 1 - 1) (tx_n f e (tx_n f e b))
        · rw [tif_t h3]
          by_cases h4 : tx_is f e (tx_n f e (tx_n f e (tx_n f e b))) wv_watch
          · rw [tif_t h4]
            by_cases h5 : vn f e 0 (N 0 - 1) (tx_n f e (tx_n f e (tx_n f e (tx_n f e b))))
            · rw [tif_t h5]
              exact fun _ => gi_person h h1 h2.2 h3.2 ⟨by have := h5.2.1; omega, h5.2.2⟩
            · rw [tif_f h5]
              exact fun h => by cases h
          · rw [tif_f h4]
            exact fun _ => gi_person h h1 h2.2 h3.2 ⟨by omega, by omega⟩
        · rw [tif_f h3]
          exact fun h => by cases h
      · rw [tif_f h2]
        exact fun h => by cases h
  rw [tif_f w_person]
  by_cases w_rock : tx_is f e b wv_rock
  · rw [tif_t w_rock]
    unfold v_rock
    by_cases h1 : N 4 = 24
    · rw [tif_t h1]
      exact fun h => by cases h
    · rw [tif_f h1]
      by_cases h2 : vn f e 0 (N 0 - 1) (tx_n f e b)
      · rw [tif_t h2]
        by_cases h3 : vn f e 0 (N 1 - 1) (tx_n f e (tx_n f e b))
        · rw [tif_t h3]
          have b4 := hN.2.1.2.2.2.1
          have b3 := hN.2.1.2.2.1
          have k2 := h2.2
          have k3 := h3.2
          exact fun _ => gi_nthr h (by omega) ⟨by omega, by omega⟩ ⟨by omega, by omega⟩ ⟨by omega, by omega⟩ ⟨by omega, by omega⟩ (fun h => by omega)
        · rw [tif_f h3]
          exact fun h => by cases h
      · rw [tif_f h2]
        exact fun h => by cases h
  rw [tif_f w_rock]
  by_cases w_table : tx_is f e b wv_table
  · rw [tif_t w_table]
    unfold v_table
    by_cases h1 : N 6 = 6
    · rw [tif_t h1]
      exact fun h => by cases h
    · rw [tif_f h1]
      intro ht
      obtain ⟨s1, s2⟩ := v_sp_w _ _ _ _ ht
      have b6 := hN.2.1.2.2.2.2.1
      refine gi_table h h1 ?_ (fun j j6 jo => ?_)
      · rw [s1 6 (by omega), nup_at]
      · rw [s1 j (by omega), nup_ne j6]
  rw [tif_f w_table]
  exact fun h => by cases h
theorem v_txt_g : ∀ (t : Nat) (N : Int → Int) (b : Int), GI N → 0 ≤ b ∧ b ≤ e → (v_txt f e t N b).1 = true → GI (v_txt f e t N b).2.2 := by
  intro t
  induction t with
  | zero => exact fun N b _ _ h => by cases h
  | succ t ih =>
    intro N b h hb ht
    have q := v_line_b (f := f) (N := N) hb
    by_cases h1 : (v_line f e N b).1 = true
    · by_cases h2 : tx_k f e (v_line f e N b).2.1 = 256
      · rw [show v_txt f e (t + 1) N b = v_line f e N b by show tif _ _ _ = _; rw [tif_t h1, tif_t h2]]
        exact v_line_g h hb h1
      · by_cases h3 : tx_k f e (v_line f e N b).2.1 = 59
        · rw [show v_txt f e (t + 1) N b = v_txt f e t (v_line f e N b).2.2 (tx_n f e (v_line f e N b).2.1) by show tif _ _ _ = _; rw [tif_t h1, tif_f h2, tif_t h3]] at ht ⊢
          have n1 := tx_nb (f := f) q.2
          exact ih _ _ (v_line_g h hb h1) ⟨by omega, n1.2.1⟩ ht
        · rw [show v_txt f e (t + 1) N b = (false, (v_line f e N b).2.1, N) by show tif _ _ _ = _; rw [tif_t h1, tif_f h2, tif_f h3]] at ht
          cases ht
    · rw [show v_txt f e (t + 1) N b = (false, (v_line f e N b).2.1, N) from tif_f h1] at ht
      cases ht
theorem v_val_g (h : GI N) (he : 0 ≤ e) (ht : (v_val f e N).1 = true) : GI (v_val f e N).2.2 := by
  obtain ⟨g1, g2, -⟩ := tx_gb (f := f) he
  by_cases h1 : tx_k f e (tx_g f e 0) = 256
  · rw [show v_val f e N = (true, tx_g f e 0, N) from tif_t h1]
    exact h
  · rw [show v_val f e N = v_txt f e 14 N (tx_g f e 0) from tif_f h1] at ht ⊢
    exact v_txt_g _ _ _ h ⟨g1, g2⟩ ht
end VG
end
/-! 7a37.v1wd -/
section
/-! THE WORDS OF THE CLASS'S READER OF A VALLEY (laid by wip/core/v1.py out of p5's texts). -/
def vm (M : gm_M) (p b w k v : Int) : gm_M := fun a j => if a = 214 then (if j = 3 then p else if j = 4 then b else if j = 5 then w else if j = 6 then k else if j = 7 then v else M a j) else M a j
/-- as it stands on a token -/
def vt (M : gm_M) (e b w : Int) : gm_M := vm M (tx_s (M 2) e b) b w (tx_k (M 2) e b) (tx_v (M 2) e 4 b)
section VM
variable {M : gm_M} {e p b w k v x : Int}
theorem vm_p : gm_uM (vm M p b w k v) 214 ((3 : Nat) : Int) x = vm M x b w k v := by
  show gm_uM (vm M p b w k v) 214 3 x = vm M x b w k v
  funext a j
  by_cases ha : a = 214 <;> by_cases hj : j = 3 <;> simp [gm_uM, vm, ha, hj]
theorem vm_b : gm_uM (vm M p b w k v) 214 ((4 : Nat) : Int) x = vm M p x w k v := by
  show gm_uM (vm M p b w k v) 214 4 x = vm M p x w k v
  funext a j
  by_cases ha : a = 214 <;> by_cases hj : j = 4 <;> simp [gm_uM, vm, ha, hj]
theorem vm_w : gm_uM (vm M p b w k v) 214 ((5 : Nat) : Int) x = vm M p b x k v := by
  show gm_uM (vm M p b w k v) 214 5 x = vm M p b x k v
  funext a j
  by_cases ha : a = 214 <;> by_cases hj : j = 5 <;> simp [gm_uM, vm, ha, hj]
theorem vm_k : gm_uM (vm M p b w k v) 214 ((6 : Nat) : Int) x = vm M p b w x v := by
  show gm_uM (vm M p b w k v) 214 6 x = vm M p b w x v
  funext a j
  by_cases ha : a = 214 <;> by_cases hj : j = 6 <;> simp [gm_uM, vm, ha, hj]
theorem vm_v : gm_uM (vm M p b w k v) 214 ((7 : Nat) : Int) x = vm M p b w k x := by
  show gm_uM (vm M p b w k v) 214 7 x = vm M p b w k x
  funext a j
  by_cases ha : a = 214 <;> by_cases hj : j = 7 <;> simp [gm_uM, vm, ha, hj]
theorem vt_w : gm_uM (vt M e b w) 214 ((5 : Nat) : Int) x = vt M e b x := vm_w
theorem vm_id : vm M (M 214 3) (M 214 4) (M 214 5) (M 214 6) (M 214 7) = M := by
  funext a j
  unfold vm
  by_cases h1 : a = 214
  · subst h1
    by_cases g1 : j = 3
    · subst g1; rfl
    by_cases g2 : j = 4
    · subst g2; rfl
    by_cases g3 : j = 5
    · subst g3; rfl
    by_cases g4 : j = 6
    · subst g4; rfl
    by_cases g5 : j = 7
    · subst g5; rfl
    rw [if_pos rfl, if_neg g1, if_neg g2, if_neg g3, if_neg g4, if_neg g5]
  · rw [if_neg h1]
end VM
/-- what stays while a valley's text is read -/
def vE (n : Nat) (K : gm_K) (R : gm_R) (M : gm_M) (e : Int) : Prop := (((1 ≤ 2 ∧ 2 ≤ n) ∧ K 2 = (1, 400)) ∧ (1 ≤ 214 ∧ 214 ≤ n) ∧ K 214 = (12, 0)) ∧ (R 214 0 = 2 ∧ M 214 1 = 4) ∧ (M 214 2 = e ∧ 0 ≤ e ∧ e ≤ 400) ∧ ∀ j, 0 ≤ j → j < 400 → -128 ≤ M 2 j ∧ M 2 j ≤ 127
section VE
variable {n : Nat} {K : gm_K} {R : gm_R} {M : gm_M} {e : Int}
theorem vE2 (h : vE n K R M e) : (1 ≤ 2 ∧ 2 ≤ n) ∧ K 2 = (1, 400) := h.1.1
theorem vE214 (h : vE n K R M e) : (1 ≤ 214 ∧ 214 ≤ n) ∧ (K 214).1 = 8 + 4 := ⟨h.1.2.1, by rw [h.1.2.2]⟩
theorem vEe (h : vE n K R M e) : M 214 2 = e ∧ 0 ≤ e ∧ e ≤ 400 := h.2.2.1
theorem vEb (h : vE n K R M e) {j : Int} (h1 : 0 ≤ j) (h2 : j < 400) : -128 ≤ M 2 j ∧ M 2 j ≤ 127 := h.2.2.2 j h1 h2
end VE
section VW
variable {X : Int → Int} {LX d bc bs n : Nat} {K : gm_K} {R : gm_R} {M : gm_M} {Q : gm_Q} {e p b w k v x : Int}
theorem vx_n0 (hd : 1 ≤ d) (hE : vE n K R M e) : ∀ p, 0 ≤ p → p ≤ e → gm_Wp X LX d bc bs 76 38 [some (gm_vr 214), none] [] n K R (vm M (tx_g (M 2) e p) b w k v) Q → gm_Wp X LX d bc bs 76 0 [some (gm_vr 214), none] [] n K R (vm M p b w k v) Q := by
  obtain ⟨-, he0, he4⟩ := vEe hE
  refine fw_ind (fun p hp0 hpe ih kq => ?_)
  refine gm_sz (gm_p_load (pc := 0) (i := .aload_n 0) (sr := 2) (j := 0) (by decide +kernel) rfl rfl rfl) ?_
  refine gm_sz (fw_gi (pc := 1) (ix := 15) (ci := 8) (j := 3) (x := p) (by decide +kernel) (vE214 hE) (by decide +kernel) (by decide +kernel) rfl) ?_
  refine gm_sz (gm_p_load (pc := 4) (i := .aload_n 0) (sr := 2) (j := 0) (by decide +kernel) rfl rfl rfl) ?_
  refine gm_sz (fw_gi (pc := 5) (ix := 9) (ci := 8) (j := 2) (x := e) (by decide +kernel) (vE214 hE) (by decide +kernel) (by decide +kernel) (vEe hE).1) ?_
  refine fw_ic (cc := .ge) (pc := 8) (off := 30) (by decide +kernel) (by decide) ⟨by omega, by omega⟩ ⟨by omega, by omega⟩ (fun j1 => ?_) (fun j1 => ?_)
  · have j1 : e ≤ p := j1
    rw [tx_gg (fun h => by omega)] at kq
    exact kq
  · have j1 : ¬ e ≤ p := j1
    refine gm_sz (gm_p_load (pc := 11) (i := .aload_n 0) (sr := 2) (j := 0) (by decide +kernel) rfl rfl rfl) ?_
    refine gm_sz (fw_gr (pc := 12) (ix := 30) (ci := 8) (j := 0) (r := 2) (by decide +kernel) (vE214 hE) (by decide +kernel) (by decide +kernel) (show R 214 0 = 2 ∧ M 214 1 = 4 from hE.2.1).1) ?_
    refine gm_sz (gm_p_load (pc := 15) (i := .aload_n 0) (sr := 2) (j := 0) (by decide +kernel) rfl rfl rfl) ?_
    refine gm_sz (fw_gi (pc := 16) (ix := 15) (ci := 8) (j := 3) (x := p) (by decide +kernel) (vE214 hE) (by decide +kernel) (by decide +kernel) rfl) ?_
    refine gm_sz (fw_ba (pc := 19) (k := 2) (len := 400) (e0 := p) (x := M 2 p) (by decide +kernel) (vE2 hE).1 (vE2 hE).2 (by decide) ⟨by omega, by omega⟩ rfl) ?_
    have y2 := vEb hE (j := p) (by omega) (by omega)
    refine gm_sz (gm_p_const (pc := 20) (i := .bipush 32) (v := gm_vi 32) (by decide +kernel) (by decide +kernel)) ?_
    refine fw_ic (cc := .ne) (pc := 22) (off := 16) (by decide +kernel) (by decide) ⟨by omega, by omega⟩ ⟨by decide, by decide⟩ (fun j3 => ?_) (fun j3 => ?_)
    · have j3 : ¬ (M 2 p) = 32 := j3
      rw [tx_gg (fun h => by omega)] at kq
      exact kq
    · have j3 : (M 2 p) = 32 := Classical.not_not.mp j3
      refine gm_sz (gm_p_load (pc := 25) (i := .aload_n 0) (sr := 2) (j := 0) (by decide +kernel) rfl rfl rfl) ?_
      refine gm_sz (gm_p_dup (pc := 26) (by decide +kernel) fw_sr) ?_
      refine gm_sz (fw_gi (pc := 27) (ix := 15) (ci := 8) (j := 3) (x := p) (by decide +kernel) (vE214 hE) (by decide +kernel) (by decide +kernel) rfl) ?_
      refine gm_sz (gm_p_const (pc := 30) (i := .iconst 1) (v := gm_vi 1) (by decide +kernel) (by decide +kernel)) ?_
      refine gm_sz (gm_p_bin (pc := 31) (i := .iadd) (f := fun x y => x + y) (by decide +kernel) rfl) ?_
      refine gm_sz (fw_pi (pc := 32) (ix := 15) (ci := 8) (j := 3) (M' := vm M (p + 1) b w k v) (by decide +kernel) (vE214 hE) (by decide +kernel) (by decide +kernel) (by decide +kernel) vm_p) ?_
      refine gm_sz (gm_p_goto (pc := 35) (off := (-35)) (by decide +kernel) (by decide)) ?_
      rw [tx_gt (by omega) (by omega)] at kq
      exact ih (by omega) kq

theorem vx_n1 (hd : 1 ≤ d) (hE : vE n K R M e) : ∀ p, 0 ≤ p → p ≤ e → gm_Wp X LX d bc bs 76 288 [some (gm_vr 214), none] [] n K R (vm M (tx_r (tx_l (M 2)) e p) b w k v) Q → gm_Wp X LX d bc bs 76 94 [some (gm_vr 214), none] [] n K R (vm M p b w k v) Q := by
  obtain ⟨-, he0, he4⟩ := vEe hE
  refine fw_ind (fun p hp0 hpe ih kq => ?_)
  refine gm_sz (gm_p_load (pc := 94) (i := .aload_n 0) (sr := 2) (j := 0) (by decide +kernel) rfl rfl rfl) ?_
  refine gm_sz (fw_gi (pc := 95) (ix := 15) (ci := 8) (j := 3) (x := p) (by decide +kernel) (vE214 hE) (by decide +kernel) (by decide +kernel) rfl) ?_
  refine gm_sz (gm_p_load (pc := 98) (i := .aload_n 0) (sr := 2) (j := 0) (by decide +kernel) rfl rfl rfl) ?_
  refine gm_sz (fw_gi (pc := 99) (ix := 9) (ci := 8) (j := 2) (x := e) (by decide +kernel) (vE214 hE) (by decide +kernel) (by decide +kernel) (vEe hE).1) ?_
  refine fw_ic (cc := .ge) (pc := 102) (off := 186) (by decide +kernel) (by decide) ⟨by omega, by omega⟩ ⟨by omega, by omega⟩ (fun j1 => ?_) (fun j1 => ?_)
  · have j1 : e ≤ p := j1
    rw [tx_rf (fun h h2 => by have := of_decide_eq_true h2; omega)] at kq
    exact kq
  · have j1 : ¬ e ≤ p := j1
    refine gm_sz (gm_p_load (pc := 105) (i := .aload_n 0) (sr := 2) (j := 0) (by decide +kernel) rfl rfl rfl) ?_
    refine gm_sz (fw_gr (pc := 106) (ix := 30) (ci := 8) (j := 0) (r := 2) (by decide +kernel) (vE214 hE) (by decide +kernel) (by decide +kernel) (show R 214 0 = 2 ∧ M 214 1 = 4 from hE.2.1).1) ?_
    refine gm_sz (gm_p_load (pc := 109) (i := .aload_n 0) (sr := 2) (j := 0) (by decide +kernel) rfl rfl rfl) ?_
    refine gm_sz (fw_gi (pc := 110) (ix := 15) (ci := 8) (j := 3) (x := p) (by decide +kernel) (vE214 hE) (by decide +kernel) (by decide +kernel) rfl) ?_
    refine gm_sz (fw_ba (pc := 113) (k := 2) (len := 400) (e0 := p) (x := M 2 p) (by decide +kernel) (vE2 hE).1 (vE2 hE).2 (by decide) ⟨by omega, by omega⟩ rfl) ?_
    have y2 := vEb hE (j := p) (by omega) (by omega)
    refine gm_c_stat (mj := 77) (ix := 46) (pc := 114) (as := [gm_vi (M 2 p)]) (st := []) (d' := d - 1) (bc' := 0) (bs' := 0) (by decide +kernel) (by decide +kernel) (by decide +kernel) (by decide +kernel) (show 1 = gm_na 77 by decide +kernel) (fw_c1 fw_si) (show 1 ≤ gm_ml 77 by decide +kernel) (Nat.le_of_ble_eq_true rfl) (by omega) (Nat.zero_le _) (Nat.zero_le _) ?_
    refine tx_c77 ⟨by omega, by omega⟩ (fun j3 => ?_) (fun j3 => ?_)
    · show gm_Wp X LX d _ _ 76 117 _ [gm_vi 1] n K R _ Q
      have j3 : 97 ≤ M 2 p ∧ M 2 p ≤ 122 := j3
      refine fw_iffd (cc := .eq) (pc := 117) (off := 171) (by decide +kernel) (by decide) ⟨by decide, by decide⟩ (by decide) ?_
      refine gm_sz (gm_p_load (pc := 120) (i := .aload_n 0) (sr := 2) (j := 0) (by decide +kernel) rfl rfl rfl) ?_
      refine gm_sz (gm_p_dup (pc := 121) (by decide +kernel) fw_sr) ?_
      refine gm_sz (fw_gi (pc := 122) (ix := 15) (ci := 8) (j := 3) (x := p) (by decide +kernel) (vE214 hE) (by decide +kernel) (by decide +kernel) rfl) ?_
      refine gm_sz (gm_p_const (pc := 125) (i := .iconst 1) (v := gm_vi 1) (by decide +kernel) (by decide +kernel)) ?_
      refine gm_sz (gm_p_bin (pc := 126) (i := .iadd) (f := fun x y => x + y) (by decide +kernel) rfl) ?_
      refine gm_sz (fw_pi (pc := 127) (ix := 15) (ci := 8) (j := 3) (M' := vm M (p + 1) b w k v) (by decide +kernel) (vE214 hE) (by decide +kernel) (by decide +kernel) (by decide +kernel) vm_p) ?_
      refine gm_sz (gm_p_goto (pc := 130) (off := (-36)) (by decide +kernel) (by decide)) ?_
      rw [tx_rt (by omega) (decide_eq_true (by omega))] at kq
      exact ih (by omega) kq
    · show gm_Wp X LX d _ _ 76 117 _ [gm_vi 0] n K R _ Q
      have j3 : ¬ (97 ≤ M 2 p ∧ M 2 p ≤ 122) := j3
      refine fw_iftd (cc := .eq) (pc := 117) (off := 171) (by decide +kernel) (by decide) ⟨by decide, by decide⟩ (by decide) ?_
      rw [tx_rf (fun h h2 => by have := of_decide_eq_true h2; omega)] at kq
      exact kq

theorem vx_n2 (hd : 1 ≤ d) (hE : vE n K R M e) : ∀ p, 0 ≤ p → p ≤ e → ∀ (v : Int) (z : Option gm_V), b ≤ p → 0 ≤ b → (v = -1 ∨ (0 ≤ v ∧ v < tx_t (p - b))) → (∀ z, gm_Wp X LX d bc bs 76 288 [some (gm_vr 214), z] [] n K R (vm M (tx_r (tx_d (M 2)) e p) b w k (tx_u (M 2) e 4 b (e - p).toNat p v)) Q) → gm_Wp X LX d bc bs 76 160 [some (gm_vr 214), z] [] n K R (vm M p b w k v) Q := by
  obtain ⟨-, he0, he4⟩ := vEe hE
  refine fw_ind (fun p hp0 hpe ih v z hbp hb0 hv kq => ?_)
  have htb := tx_tb (k := p - b)
  refine gm_sz (gm_p_load (pc := 160) (i := .aload_n 0) (sr := 2) (j := 0) (by decide +kernel) rfl rfl rfl) ?_
  refine gm_sz (fw_gi (pc := 161) (ix := 15) (ci := 8) (j := 3) (x := p) (by decide +kernel) (vE214 hE) (by decide +kernel) (by decide +kernel) rfl) ?_
  refine gm_sz (gm_p_load (pc := 164) (i := .aload_n 0) (sr := 2) (j := 0) (by decide +kernel) rfl rfl rfl) ?_
  refine gm_sz (fw_gi (pc := 165) (ix := 9) (ci := 8) (j := 2) (x := e) (by decide +kernel) (vE214 hE) (by decide +kernel) (by decide +kernel) (vEe hE).1) ?_
  refine fw_ic (cc := .ge) (pc := 168) (off := 120) (by decide +kernel) (by decide) ⟨by omega, by omega⟩ ⟨by omega, by omega⟩ (fun j1 => ?_) (fun j1 => ?_)
  · have j1 : e ≤ p := j1
    have kq := kq z
    rw [tx_rf (fun h h2 => by have := of_decide_eq_true h2; omega), tx_uf (fun h h2 => by have := of_decide_eq_true h2; omega)] at kq
    exact kq
  · have j1 : ¬ e ≤ p := j1
    refine gm_sz (gm_p_load (pc := 171) (i := .aload_n 0) (sr := 2) (j := 0) (by decide +kernel) rfl rfl rfl) ?_
    refine gm_sz (fw_gr (pc := 172) (ix := 30) (ci := 8) (j := 0) (r := 2) (by decide +kernel) (vE214 hE) (by decide +kernel) (by decide +kernel) (show R 214 0 = 2 ∧ M 214 1 = 4 from hE.2.1).1) ?_
    refine gm_sz (gm_p_load (pc := 175) (i := .aload_n 0) (sr := 2) (j := 0) (by decide +kernel) rfl rfl rfl) ?_
    refine gm_sz (fw_gi (pc := 176) (ix := 15) (ci := 8) (j := 3) (x := p) (by decide +kernel) (vE214 hE) (by decide +kernel) (by decide +kernel) rfl) ?_
    refine gm_sz (fw_ba (pc := 179) (k := 2) (len := 400) (e0 := p) (x := M 2 p) (by decide +kernel) (vE2 hE).1 (vE2 hE).2 (by decide) ⟨by omega, by omega⟩ rfl) ?_
    have y2 := vEb hE (j := p) (by omega) (by omega)
    refine gm_c_stat (mj := 78) (ix := 50) (pc := 180) (as := [gm_vi (M 2 p)]) (st := []) (d' := d - 1) (bc' := 0) (bs' := 0) (by decide +kernel) (by decide +kernel) (by decide +kernel) (by decide +kernel) (show 1 = gm_na 78 by decide +kernel) (fw_c1 fw_si) (show 1 ≤ gm_ml 78 by decide +kernel) (Nat.le_of_ble_eq_true rfl) (by omega) (Nat.zero_le _) (Nat.zero_le _) ?_
    refine tx_c78 ⟨by omega, by omega⟩ (fun j3 => ?_) (fun j3 => ?_)
    · show gm_Wp X LX d _ _ 76 183 _ [gm_vi 1] n K R _ Q
      have j3 : 48 ≤ M 2 p ∧ M 2 p ≤ 57 := j3
      refine fw_iffd (cc := .eq) (pc := 183) (off := 105) (by decide +kernel) (by decide) ⟨by decide, by decide⟩ (by decide) ?_
      refine gm_sz (gm_p_load (pc := 186) (i := .aload_n 0) (sr := 2) (j := 0) (by decide +kernel) rfl rfl rfl) ?_
      refine gm_sz (fw_gi (pc := 187) (ix := 15) (ci := 8) (j := 3) (x := p) (by decide +kernel) (vE214 hE) (by decide +kernel) (by decide +kernel) rfl) ?_
      refine gm_sz (gm_p_load (pc := 190) (i := .aload_n 0) (sr := 2) (j := 0) (by decide +kernel) rfl rfl rfl) ?_
      refine gm_sz (fw_gi (pc := 191) (ix := 18) (ci := 8) (j := 4) (x := b) (by decide +kernel) (vE214 hE) (by decide +kernel) (by decide +kernel) rfl) ?_
      refine gm_sz (gm_p_bin (pc := 194) (i := .isub) (f := fun x y => x - y) (by decide +kernel) rfl) ?_
      refine gm_sz (gm_p_load (pc := 195) (i := .aload_n 0) (sr := 2) (j := 0) (by decide +kernel) rfl rfl rfl) ?_
      refine gm_sz (fw_gi (pc := 196) (ix := 34) (ci := 8) (j := 1) (x := 4) (by decide +kernel) (vE214 hE) (by decide +kernel) (by decide +kernel) (show R 214 0 = 2 ∧ M 214 1 = 4 from hE.2.1).2) ?_
      refine fw_ic (cc := .ge) (pc := 199) (off := 15) (by decide +kernel) (by decide) ⟨by omega, by omega⟩ ⟨by decide, by decide⟩ (fun j4 => ?_) (fun j4 => ?_)
      · have j4 : 4 ≤ (p - b) := j4
        refine gm_sz (gm_p_const (pc := 214) (i := .iconst 0) (v := gm_vi 0) (by decide +kernel) (by decide +kernel)) ?_
        refine gm_sz (gm_p_stor (pc := 215) (i := .istore_n 1) (sr := 0) (j := 1) (by decide +kernel) rfl (show 2 ≤ _ from Nat.le_of_ble_eq_true rfl) rfl) ?_
        refine gm_sz (gm_p_load (pc := 216) (i := .aload_n 0) (sr := 2) (j := 0) (by decide +kernel) rfl rfl rfl) ?_
        refine gm_sz (gm_p_load (pc := 217) (i := .iload_n 1) (sr := 0) (j := 1) (by decide +kernel) rfl rfl rfl) ?_
        refine fw_iftd (cc := .eq) (pc := 218) (off := 26) (by decide +kernel) (by decide) ⟨by decide, by decide⟩ (by decide) ?_
        refine gm_sz (gm_p_const (pc := 244) (i := .iconst (-1)) (v := gm_vi (-1)) (by decide +kernel) (by decide +kernel)) ?_
        refine gm_sz (fw_pi (pc := 245) (ix := 27) (ci := 8) (j := 7) (M' := vm M p b w k (-1)) (by decide +kernel) (vE214 hE) (by decide +kernel) (by decide +kernel) (by decide +kernel) vm_v) ?_
        refine gm_sz (gm_p_load (pc := 248) (i := .aload_n 0) (sr := 2) (j := 0) (by decide +kernel) rfl rfl rfl) ?_
        refine gm_sz (gm_p_dup (pc := 249) (by decide +kernel) fw_sr) ?_
        refine gm_sz (fw_gi (pc := 250) (ix := 15) (ci := 8) (j := 3) (x := p) (by decide +kernel) (vE214 hE) (by decide +kernel) (by decide +kernel) rfl) ?_
        refine gm_sz (gm_p_const (pc := 253) (i := .iconst 1) (v := gm_vi 1) (by decide +kernel) (by decide +kernel)) ?_
        refine gm_sz (gm_p_bin (pc := 254) (i := .iadd) (f := fun x y => x + y) (by decide +kernel) rfl) ?_
        refine gm_sz (fw_pi (pc := 255) (ix := 15) (ci := 8) (j := 3) (M' := vm M (p + 1) b w k (-1)) (by decide +kernel) (vE214 hE) (by decide +kernel) (by decide +kernel) (by decide +kernel) vm_p) ?_
        refine gm_sz (gm_p_goto (pc := 258) (off := (-98)) (by decide +kernel) (by decide)) ?_
        have hdg : tx_d (M 2) p = true := decide_eq_true (by omega)
        rw [tx_rt (by omega) hdg, tx_ut (by omega) hdg] at kq
        rw [if_neg (show ¬ (p - b < 4 ∧ ¬ v = -1) by omega)] at kq
        exact ih (by omega) _ _ (by omega) hb0 (Or.inl rfl) kq
      · have j4 : ¬ 4 ≤ (p - b) := j4
        refine gm_sz (gm_p_load (pc := 202) (i := .aload_n 0) (sr := 2) (j := 0) (by decide +kernel) rfl rfl rfl) ?_
        refine gm_sz (fw_gi (pc := 203) (ix := 27) (ci := 8) (j := 7) (x := v) (by decide +kernel) (vE214 hE) (by decide +kernel) (by decide +kernel) rfl) ?_
        refine gm_sz (gm_p_const (pc := 206) (i := .iconst (-1)) (v := gm_vi (-1)) (by decide +kernel) (by decide +kernel)) ?_
        refine fw_ic (cc := .eq) (pc := 207) (off := 7) (by decide +kernel) (by decide) ⟨by omega, by omega⟩ ⟨by decide, by decide⟩ (fun j5 => ?_) (fun j5 => ?_)
        · have j5 : v = (-1) := j5
          refine gm_sz (gm_p_const (pc := 214) (i := .iconst 0) (v := gm_vi 0) (by decide +kernel) (by decide +kernel)) ?_
          refine gm_sz (gm_p_stor (pc := 215) (i := .istore_n 1) (sr := 0) (j := 1) (by decide +kernel) rfl (show 2 ≤ _ from Nat.le_of_ble_eq_true rfl) rfl) ?_
          refine gm_sz (gm_p_load (pc := 216) (i := .aload_n 0) (sr := 2) (j := 0) (by decide +kernel) rfl rfl rfl) ?_
          refine gm_sz (gm_p_load (pc := 217) (i := .iload_n 1) (sr := 0) (j := 1) (by decide +kernel) rfl rfl rfl) ?_
          refine fw_iftd (cc := .eq) (pc := 218) (off := 26) (by decide +kernel) (by decide) ⟨by decide, by decide⟩ (by decide) ?_
          refine gm_sz (gm_p_const (pc := 244) (i := .iconst (-1)) (v := gm_vi (-1)) (by decide +kernel) (by decide +kernel)) ?_
          refine gm_sz (fw_pi (pc := 245) (ix := 27) (ci := 8) (j := 7) (M' := vm M p b w k (-1)) (by decide +kernel) (vE214 hE) (by decide +kernel) (by decide +kernel) (by decide +kernel) vm_v) ?_
          refine gm_sz (gm_p_load (pc := 248) (i := .aload_n 0) (sr := 2) (j := 0) (by decide +kernel) rfl rfl rfl) ?_
          refine gm_sz (gm_p_dup (pc := 249) (by decide +kernel) fw_sr) ?_
          refine gm_sz (fw_gi (pc := 250) (ix := 15) (ci := 8) (j := 3) (x := p) (by decide +kernel) (vE214 hE) (by decide +kernel) (by decide +kernel) rfl) ?_
          refine gm_sz (gm_p_const (pc := 253) (i := .iconst 1) (v := gm_vi 1) (by decide +kernel) (by decide +kernel)) ?_
          refine gm_sz (gm_p_bin (pc := 254) (i := .iadd) (f := fun x y => x + y) (by decide +kernel) rfl) ?_
          refine gm_sz (fw_pi (pc := 255) (ix := 15) (ci := 8) (j := 3) (M' := vm M (p + 1) b w k (-1)) (by decide +kernel) (vE214 hE) (by decide +kernel) (by decide +kernel) (by decide +kernel) vm_p) ?_
          refine gm_sz (gm_p_goto (pc := 258) (off := (-98)) (by decide +kernel) (by decide)) ?_
          have hdg : tx_d (M 2) p = true := decide_eq_true (by omega)
          rw [tx_rt (by omega) hdg, tx_ut (by omega) hdg] at kq
          rw [if_neg (show ¬ (p - b < 4 ∧ ¬ v = -1) by omega)] at kq
          exact ih (by omega) _ _ (by omega) hb0 (Or.inl rfl) kq
        · have j5 : ¬ v = (-1) := j5
          refine gm_sz (gm_p_const (pc := 210) (i := .iconst 1) (v := gm_vi 1) (by decide +kernel) (by decide +kernel)) ?_
          refine gm_sz (gm_p_goto (pc := 211) (off := 4) (by decide +kernel) (by decide)) ?_
          refine gm_sz (gm_p_stor (pc := 215) (i := .istore_n 1) (sr := 0) (j := 1) (by decide +kernel) rfl (show 2 ≤ _ from Nat.le_of_ble_eq_true rfl) rfl) ?_
          refine gm_sz (gm_p_load (pc := 216) (i := .aload_n 0) (sr := 2) (j := 0) (by decide +kernel) rfl rfl rfl) ?_
          refine gm_sz (gm_p_load (pc := 217) (i := .iload_n 1) (sr := 0) (j := 1) (by decide +kernel) rfl rfl rfl) ?_
          refine fw_iffd (cc := .eq) (pc := 218) (off := 26) (by decide +kernel) (by decide) ⟨by decide, by decide⟩ (by decide) ?_
          refine gm_sz (gm_p_load (pc := 221) (i := .aload_n 0) (sr := 2) (j := 0) (by decide +kernel) rfl rfl rfl) ?_
          refine gm_sz (fw_gi (pc := 222) (ix := 27) (ci := 8) (j := 7) (x := v) (by decide +kernel) (vE214 hE) (by decide +kernel) (by decide +kernel) rfl) ?_
          refine gm_sz (gm_p_const (pc := 225) (i := .bipush 10) (v := gm_vi 10) (by decide +kernel) (by decide +kernel)) ?_
          refine gm_sz (gm_p_bin (pc := 227) (i := .imul) (f := fun x y => x * y) (by decide +kernel) rfl) ?_
          refine gm_sz (gm_p_load (pc := 228) (i := .aload_n 0) (sr := 2) (j := 0) (by decide +kernel) rfl rfl rfl) ?_
          refine gm_sz (fw_gr (pc := 229) (ix := 30) (ci := 8) (j := 0) (r := 2) (by decide +kernel) (vE214 hE) (by decide +kernel) (by decide +kernel) (show R 214 0 = 2 ∧ M 214 1 = 4 from hE.2.1).1) ?_
          refine gm_sz (gm_p_load (pc := 232) (i := .aload_n 0) (sr := 2) (j := 0) (by decide +kernel) rfl rfl rfl) ?_
          refine gm_sz (fw_gi (pc := 233) (ix := 15) (ci := 8) (j := 3) (x := p) (by decide +kernel) (vE214 hE) (by decide +kernel) (by decide +kernel) rfl) ?_
          refine gm_sz (fw_ba (pc := 236) (k := 2) (len := 400) (e0 := p) (x := M 2 p) (by decide +kernel) (vE2 hE).1 (vE2 hE).2 (by decide) ⟨by omega, by omega⟩ rfl) ?_
          have y6 := vEb hE (j := p) (by omega) (by omega)
          refine gm_sz (gm_p_bin (pc := 237) (i := .iadd) (f := fun x y => x + y) (by decide +kernel) rfl) ?_
          refine gm_sz (gm_p_const (pc := 238) (i := .bipush 48) (v := gm_vi 48) (by decide +kernel) (by decide +kernel)) ?_
          refine gm_sz (gm_p_bin (pc := 240) (i := .isub) (f := fun x y => x - y) (by decide +kernel) rfl) ?_
          refine gm_sz (gm_p_goto (pc := 241) (off := 4) (by decide +kernel) (by decide)) ?_
          refine gm_sz (fw_pi (pc := 245) (ix := 27) (ci := 8) (j := 7) (M' := vm M p b w k (((v * 10) + (M 2 p)) - 48)) (by decide +kernel) (vE214 hE) (by decide +kernel) (by decide +kernel) (by decide +kernel) vm_v) ?_
          refine gm_sz (gm_p_load (pc := 248) (i := .aload_n 0) (sr := 2) (j := 0) (by decide +kernel) rfl rfl rfl) ?_
          refine gm_sz (gm_p_dup (pc := 249) (by decide +kernel) fw_sr) ?_
          refine gm_sz (fw_gi (pc := 250) (ix := 15) (ci := 8) (j := 3) (x := p) (by decide +kernel) (vE214 hE) (by decide +kernel) (by decide +kernel) rfl) ?_
          refine gm_sz (gm_p_const (pc := 253) (i := .iconst 1) (v := gm_vi 1) (by decide +kernel) (by decide +kernel)) ?_
          refine gm_sz (gm_p_bin (pc := 254) (i := .iadd) (f := fun x y => x + y) (by decide +kernel) rfl) ?_
          refine gm_sz (fw_pi (pc := 255) (ix := 15) (ci := 8) (j := 3) (M' := vm M (p + 1) b w k (((v * 10) + (M 2 p)) - 48)) (by decide +kernel) (vE214 hE) (by decide +kernel) (by decide +kernel) (by decide +kernel) vm_p) ?_
          refine gm_sz (gm_p_goto (pc := 258) (off := (-98)) (by decide +kernel) (by decide)) ?_
          have hdg : tx_d (M 2) p = true := decide_eq_true (by omega)
          rw [tx_rt (by omega) hdg, tx_ut (by omega) hdg] at kq
          rw [if_pos (show p - b < 4 ∧ ¬ v = -1 by omega)] at kq
          have t := tx_tv (v := v) (k := p - b) (c := M 2 p) (by omega) (by omega) (by omega)
          exact ih (by omega) _ _ (by omega) hb0 (Or.inr (by rw [show p + 1 - b = p - b + 1 by omega]; exact t)) kq
    · show gm_Wp X LX d _ _ 76 183 _ [gm_vi 0] n K R _ Q
      have j3 : ¬ (48 ≤ M 2 p ∧ M 2 p ≤ 57) := j3
      refine fw_iftd (cc := .eq) (pc := 183) (off := 105) (by decide +kernel) (by decide) ⟨by decide, by decide⟩ (by decide) ?_
      have kq := kq z
      rw [tx_rf (fun h h2 => by have := of_decide_eq_true h2; omega), tx_uf (fun h h2 => by have := of_decide_eq_true h2; omega)] at kq
      exact kq

theorem vx_nx (hd : 1 ≤ d) (hE : vE n K R M e) (hp : 0 ≤ p ∧ p ≤ e) (hq : Q (.inl none) n K R (vt M e (tx_g (M 2) e p) w)) : gm_Wp X LX d bc bs 76 0 (gm_ent 76 [gm_vr 214]) [] n K R (vm M p b w k v) Q := by
  obtain ⟨-, he0, he4⟩ := vEe hE
  refine vx_n0 hd hE p hp.1 hp.2 ?_
  obtain ⟨g1, g2, -⟩ := tx_gb (f := M 2) hp.2
  generalize tx_g (M 2) e p = q at *
  refine gm_sz (gm_p_load (pc := 38) (i := .aload_n 0) (sr := 2) (j := 0) (by decide +kernel) rfl rfl rfl) ?_
  refine gm_sz (gm_p_load (pc := 39) (i := .aload_n 0) (sr := 2) (j := 0) (by decide +kernel) rfl rfl rfl) ?_
  refine gm_sz (fw_gi (pc := 40) (ix := 15) (ci := 8) (j := 3) (x := q) (by decide +kernel) (vE214 hE) (by decide +kernel) (by decide +kernel) rfl) ?_
  refine gm_sz (fw_pi (pc := 43) (ix := 18) (ci := 8) (j := 4) (M' := vm M q q w k v) (by decide +kernel) (vE214 hE) (by decide +kernel) (by decide +kernel) (by decide +kernel) vm_b) ?_
  refine gm_sz (gm_p_load (pc := 46) (i := .aload_n 0) (sr := 2) (j := 0) (by decide +kernel) rfl rfl rfl) ?_
  refine gm_sz (gm_p_const (pc := 47) (i := .iconst (-1)) (v := gm_vi (-1)) (by decide +kernel) (by decide +kernel)) ?_
  refine gm_sz (fw_pi (pc := 48) (ix := 27) (ci := 8) (j := 7) (M' := vm M q q w k (-1)) (by decide +kernel) (vE214 hE) (by decide +kernel) (by decide +kernel) (by decide +kernel) vm_v) ?_
  refine gm_sz (gm_p_load (pc := 51) (i := .aload_n 0) (sr := 2) (j := 0) (by decide +kernel) rfl rfl rfl) ?_
  refine gm_sz (fw_gi (pc := 52) (ix := 15) (ci := 8) (j := 3) (x := q) (by decide +kernel) (vE214 hE) (by decide +kernel) (by decide +kernel) rfl) ?_
  refine gm_sz (gm_p_load (pc := 55) (i := .aload_n 0) (sr := 2) (j := 0) (by decide +kernel) rfl rfl rfl) ?_
  refine gm_sz (fw_gi (pc := 56) (ix := 9) (ci := 8) (j := 2) (x := e) (by decide +kernel) (vE214 hE) (by decide +kernel) (by decide +kernel) (vEe hE).1) ?_
  refine fw_ic (cc := .lt) (pc := 59) (off := 13) (by decide +kernel) (by decide) ⟨by omega, by omega⟩ ⟨by omega, by omega⟩ (fun j1 => ?_) (fun j1 => ?_)
  · have j1 : q < e := j1
    refine gm_sz (gm_p_load (pc := 72) (i := .aload_n 0) (sr := 2) (j := 0) (by decide +kernel) rfl rfl rfl) ?_
    refine gm_sz (fw_gr (pc := 73) (ix := 30) (ci := 8) (j := 0) (r := 2) (by decide +kernel) (vE214 hE) (by decide +kernel) (by decide +kernel) (show R 214 0 = 2 ∧ M 214 1 = 4 from hE.2.1).1) ?_
    refine gm_sz (gm_p_load (pc := 76) (i := .aload_n 0) (sr := 2) (j := 0) (by decide +kernel) rfl rfl rfl) ?_
    refine gm_sz (fw_gi (pc := 77) (ix := 15) (ci := 8) (j := 3) (x := q) (by decide +kernel) (vE214 hE) (by decide +kernel) (by decide +kernel) rfl) ?_
    refine gm_sz (fw_ba (pc := 80) (k := 2) (len := 400) (e0 := q) (x := M 2 q) (by decide +kernel) (vE2 hE).1 (vE2 hE).2 (by decide) ⟨by omega, by omega⟩ rfl) ?_
    have y2 := vEb hE (j := q) (by omega) (by omega)
    refine gm_c_stat (mj := 77) (ix := 46) (pc := 81) (as := [gm_vi (M 2 q)]) (st := []) (d' := d - 1) (bc' := 0) (bs' := 0) (by decide +kernel) (by decide +kernel) (by decide +kernel) (by decide +kernel) (show 1 = gm_na 77 by decide +kernel) (fw_c1 fw_si) (show 1 ≤ gm_ml 77 by decide +kernel) (Nat.le_of_ble_eq_true rfl) (by omega) (Nat.zero_le _) (Nat.zero_le _) ?_
    refine tx_c77 ⟨by omega, by omega⟩ (fun j3 => ?_) (fun j3 => ?_)
    · show gm_Wp X LX d _ _ 76 84 _ [gm_vi 1] n K R _ Q
      have j3 : 97 ≤ M 2 q ∧ M 2 q ≤ 122 := j3
      refine fw_iffd (cc := .eq) (pc := 84) (off := 49) (by decide +kernel) (by decide) ⟨by decide, by decide⟩ (by decide) ?_
      refine gm_sz (gm_p_load (pc := 87) (i := .aload_n 0) (sr := 2) (j := 0) (by decide +kernel) rfl rfl rfl) ?_
      refine gm_sz (gm_p_const (pc := 88) (i := .sipush 257) (v := gm_vi 257) (by decide +kernel) (by decide +kernel)) ?_
      refine gm_sz (fw_pi (pc := 91) (ix := 24) (ci := 8) (j := 6) (M' := vm M q q w 257 (-1)) (by decide +kernel) (vE214 hE) (by decide +kernel) (by decide +kernel) (by decide +kernel) vm_k) ?_
      refine vx_n1 hd hE q (by omega) (by omega) ?_
      obtain ⟨t1, t2, t3⟩ := tx_k1 (f := M 2) (e := e) (b := q) (m := 4) (by omega) (by omega)
      unfold vt at hq
      rw [t1, t2, t3] at hq
      exact gm_r_void (pc := 288) (by decide +kernel) (by decide +kernel) hq
    · show gm_Wp X LX d _ _ 76 84 _ [gm_vi 0] n K R _ Q
      have j3 : ¬ (97 ≤ M 2 q ∧ M 2 q ≤ 122) := j3
      refine fw_iftd (cc := .eq) (pc := 84) (off := 49) (by decide +kernel) (by decide) ⟨by decide, by decide⟩ (by decide) ?_
      refine gm_sz (gm_p_load (pc := 133) (i := .aload_n 0) (sr := 2) (j := 0) (by decide +kernel) rfl rfl rfl) ?_
      refine gm_sz (fw_gr (pc := 134) (ix := 30) (ci := 8) (j := 0) (r := 2) (by decide +kernel) (vE214 hE) (by decide +kernel) (by decide +kernel) (show R 214 0 = 2 ∧ M 214 1 = 4 from hE.2.1).1) ?_
      refine gm_sz (gm_p_load (pc := 137) (i := .aload_n 0) (sr := 2) (j := 0) (by decide +kernel) rfl rfl rfl) ?_
      refine gm_sz (fw_gi (pc := 138) (ix := 15) (ci := 8) (j := 3) (x := q) (by decide +kernel) (vE214 hE) (by decide +kernel) (by decide +kernel) rfl) ?_
      refine gm_sz (fw_ba (pc := 141) (k := 2) (len := 400) (e0 := q) (x := M 2 q) (by decide +kernel) (vE2 hE).1 (vE2 hE).2 (by decide) ⟨by omega, by omega⟩ rfl) ?_
      have y4 := vEb hE (j := q) (by omega) (by omega)
      refine gm_c_stat (mj := 78) (ix := 50) (pc := 142) (as := [gm_vi (M 2 q)]) (st := []) (d' := d - 1) (bc' := 0) (bs' := 0) (by decide +kernel) (by decide +kernel) (by decide +kernel) (by decide +kernel) (show 1 = gm_na 78 by decide +kernel) (fw_c1 fw_si) (show 1 ≤ gm_ml 78 by decide +kernel) (Nat.le_of_ble_eq_true rfl) (by omega) (Nat.zero_le _) (Nat.zero_le _) ?_
      refine tx_c78 ⟨by omega, by omega⟩ (fun j5 => ?_) (fun j5 => ?_)
      · show gm_Wp X LX d _ _ 76 145 _ [gm_vi 1] n K R _ Q
        have j5 : 48 ≤ M 2 q ∧ M 2 q ≤ 57 := j5
        refine fw_iffd (cc := .eq) (pc := 145) (off := 116) (by decide +kernel) (by decide) ⟨by decide, by decide⟩ (by decide) ?_
        refine gm_sz (gm_p_load (pc := 148) (i := .aload_n 0) (sr := 2) (j := 0) (by decide +kernel) rfl rfl rfl) ?_
        refine gm_sz (gm_p_const (pc := 149) (i := .sipush 258) (v := gm_vi 258) (by decide +kernel) (by decide +kernel)) ?_
        refine gm_sz (fw_pi (pc := 152) (ix := 24) (ci := 8) (j := 6) (M' := vm M q q w 258 (-1)) (by decide +kernel) (vE214 hE) (by decide +kernel) (by decide +kernel) (by decide +kernel) vm_k) ?_
        refine gm_sz (gm_p_load (pc := 155) (i := .aload_n 0) (sr := 2) (j := 0) (by decide +kernel) rfl rfl rfl) ?_
        refine gm_sz (gm_p_const (pc := 156) (i := .iconst 0) (v := gm_vi 0) (by decide +kernel) (by decide +kernel)) ?_
        refine gm_sz (fw_pi (pc := 157) (ix := 27) (ci := 8) (j := 7) (M' := vm M q q w 258 0) (by decide +kernel) (vE214 hE) (by decide +kernel) (by decide +kernel) (by decide +kernel) vm_v) ?_
        refine vx_n2 hd hE q (by omega) (by omega) 0 none (Int.le_refl _) (by omega) (Or.inr ⟨Int.le_refl _, by have := (tx_tb (k := q - q)).1; omega⟩) (fun z => ?_)
        obtain ⟨t1, t2, t3⟩ := tx_k2 (f := M 2) (e := e) (b := q) (m := 4) (by omega) (by omega)
        unfold vt at hq
        rw [t1, t2, t3] at hq
        exact gm_r_void (pc := 288) (by decide +kernel) (by decide +kernel) hq
      · show gm_Wp X LX d _ _ 76 145 _ [gm_vi 0] n K R _ Q
        have j5 : ¬ (48 ≤ M 2 q ∧ M 2 q ≤ 57) := j5
        refine fw_iftd (cc := .eq) (pc := 145) (off := 116) (by decide +kernel) (by decide) ⟨by decide, by decide⟩ (by decide) ?_
        refine gm_sz (gm_p_load (pc := 261) (i := .aload_n 0) (sr := 2) (j := 0) (by decide +kernel) rfl rfl rfl) ?_
        refine gm_sz (gm_p_load (pc := 262) (i := .aload_n 0) (sr := 2) (j := 0) (by decide +kernel) rfl rfl rfl) ?_
        refine gm_sz (fw_gr (pc := 263) (ix := 30) (ci := 8) (j := 0) (r := 2) (by decide +kernel) (vE214 hE) (by decide +kernel) (by decide +kernel) (show R 214 0 = 2 ∧ M 214 1 = 4 from hE.2.1).1) ?_
        refine gm_sz (gm_p_load (pc := 266) (i := .aload_n 0) (sr := 2) (j := 0) (by decide +kernel) rfl rfl rfl) ?_
        refine gm_sz (fw_gi (pc := 267) (ix := 15) (ci := 8) (j := 3) (x := q) (by decide +kernel) (vE214 hE) (by decide +kernel) (by decide +kernel) rfl) ?_
        refine gm_sz (fw_ba (pc := 270) (k := 2) (len := 400) (e0 := q) (x := M 2 q) (by decide +kernel) (vE2 hE).1 (vE2 hE).2 (by decide) ⟨by omega, by omega⟩ rfl) ?_
        have y6 := vEb hE (j := q) (by omega) (by omega)
        refine gm_sz (gm_p_const (pc := 271) (i := .sipush 255) (v := gm_vi 255) (by decide +kernel) (by decide +kernel)) ?_
        refine gm_sz (gm_p_bin (pc := 274) (i := .iand) (by decide +kernel) rfl) ?_
        rw [show (Int32.ofInt (M 2 q) &&& Int32.ofInt 255).toInt = (M 2 q) % 256 from tx_by ⟨by omega, by omega⟩]
        refine gm_sz (fw_pi (pc := 275) (ix := 24) (ci := 8) (j := 6) (M' := vm M q q w ((M 2 q) % 256) (-1)) (by decide +kernel) (vE214 hE) (by decide +kernel) (by decide +kernel) (by decide +kernel) vm_k) ?_
        refine gm_sz (gm_p_load (pc := 278) (i := .aload_n 0) (sr := 2) (j := 0) (by decide +kernel) rfl rfl rfl) ?_
        refine gm_sz (gm_p_dup (pc := 279) (by decide +kernel) fw_sr) ?_
        refine gm_sz (fw_gi (pc := 280) (ix := 15) (ci := 8) (j := 3) (x := q) (by decide +kernel) (vE214 hE) (by decide +kernel) (by decide +kernel) rfl) ?_
        refine gm_sz (gm_p_const (pc := 283) (i := .iconst 1) (v := gm_vi 1) (by decide +kernel) (by decide +kernel)) ?_
        refine gm_sz (gm_p_bin (pc := 284) (i := .iadd) (f := fun x y => x + y) (by decide +kernel) rfl) ?_
        refine gm_sz (fw_pi (pc := 285) (ix := 15) (ci := 8) (j := 3) (M' := vm M (q + 1) q w ((M 2 q) % 256) (-1)) (by decide +kernel) (vE214 hE) (by decide +kernel) (by decide +kernel) (by decide +kernel) vm_p) ?_
        obtain ⟨t1, t2, t3⟩ := tx_k3 (f := M 2) (e := e) (b := q) (m := 4) (by omega) (by omega) (by omega)
        unfold vt at hq
        rw [t1, t2, t3] at hq
        exact gm_r_void (pc := 288) (by decide +kernel) (by decide +kernel) hq
  · have j1 : ¬ q < e := j1
    refine gm_sz (gm_p_load (pc := 62) (i := .aload_n 0) (sr := 2) (j := 0) (by decide +kernel) rfl rfl rfl) ?_
    refine gm_sz (gm_p_const (pc := 63) (i := .sipush 256) (v := gm_vi 256) (by decide +kernel) (by decide +kernel)) ?_
    refine gm_sz (fw_pi (pc := 66) (ix := 24) (ci := 8) (j := 6) (M' := vm M q q w 256 (-1)) (by decide +kernel) (vE214 hE) (by decide +kernel) (by decide +kernel) (by decide +kernel) vm_k) ?_
    refine gm_sz (gm_p_goto (pc := 69) (off := 219) (by decide +kernel) (by decide)) ?_
    obtain ⟨t1, t2, t3⟩ := tx_k0 (f := M 2) (e := e) (b := q) (m := 4) (by omega)
    unfold vt at hq
    rw [t1, t2, t3] at hq
    exact gm_r_void (pc := 288) (by decide +kernel) (by decide +kernel) hq

theorem vx_c76 (hd : 1 ≤ d) (hE : vE n K R M e) (hb : 0 ≤ b ∧ b ≤ e) (hq : Q (.inl none) n K R (vt M e (tx_n (M 2) e b) w)) : gm_Wp X LX d bc bs 76 0 (gm_ent 76 [gm_vr 214]) [] n K R (vt M e b w) Q := by
  obtain ⟨h1, h2, -⟩ := tx_sb (f := M 2) hb.2
  exact vx_nx hd hE ⟨by omega, h2⟩ hq

theorem vx_c93 (hE : vE n K R M e) (hb : 0 ≤ b ∧ b ≤ e) (hq : Q (.inl (some (gm_vi 0))) n K R (vt M e b b)) : gm_Wp X LX d bc bs 93 0 (gm_ent 93 [gm_vr 214]) [] n K R (vt M e b (-1)) Q := by
  refine gm_sz (gm_p_load (pc := 0) (i := .aload_n 0) (sr := 2) (j := 0) (by decide +kernel) rfl rfl rfl) ?_
  refine gm_sz (fw_gi (pc := 1) (ix := 21) (ci := 8) (j := 5) (x := (-1)) (by decide +kernel) (vE214 hE) (by decide +kernel) (by decide +kernel) rfl) ?_
  refine gm_sz (gm_p_const (pc := 4) (i := .iconst (-1)) (v := gm_vi (-1)) (by decide +kernel) (by decide +kernel)) ?_
  refine fw_icfd (cc := .ne) (pc := 5) (off := 11) (by decide +kernel) (by decide) ⟨by decide, by decide⟩ ⟨by decide, by decide⟩ (by decide) ?_
  refine gm_sz (gm_p_load (pc := 8) (i := .aload_n 0) (sr := 2) (j := 0) (by decide +kernel) rfl rfl rfl) ?_
  refine gm_sz (gm_p_load (pc := 9) (i := .aload_n 0) (sr := 2) (j := 0) (by decide +kernel) rfl rfl rfl) ?_
  refine gm_sz (fw_gi (pc := 10) (ix := 18) (ci := 8) (j := 4) (x := b) (by decide +kernel) (vE214 hE) (by decide +kernel) (by decide +kernel) rfl) ?_
  refine gm_sz (fw_pi (pc := 13) (ix := 21) (ci := 8) (j := 5) (M' := vt M e b b) (by decide +kernel) (vE214 hE) (by decide +kernel) (by decide +kernel) (by decide +kernel) vt_w) ?_
  refine gm_sz (gm_p_const (pc := 16) (i := .iconst 0) (v := gm_vi 0) (by decide +kernel) (by decide +kernel)) ?_
  exact gm_r_int (pc := 17) (by decide +kernel) (Or.inr ⟨(by decide +kernel), Or.inl rfl⟩) hq

theorem vx_c121 (hE : vE n K R M e) (hq : Q (.inl (some (gm_vi w))) n K R (vt M e b w)) : gm_Wp X LX d bc bs 121 0 (gm_ent 121 [gm_vr 214]) [] n K R (vt M e b w) Q := by
  refine gm_sz (gm_p_load (pc := 0) (i := .aload_n 0) (sr := 2) (j := 0) (by decide +kernel) rfl rfl rfl) ?_
  refine gm_sz (fw_gi (pc := 1) (ix := 21) (ci := 8) (j := 5) (x := w) (by decide +kernel) (vE214 hE) (by decide +kernel) (by decide +kernel) rfl) ?_
  exact gm_r_int (pc := 4) (by decide +kernel) (Or.inl (by decide +kernel)) hq
variable {c : Nat} {l : List Int}

variable {c : Nat} {l : List Int}
theorem vx_w8 (hd : 5 ≤ d) (hE : vE n K R M e) (hc : c < 75) (hl : tx_o c = l) (hb : 0 ≤ b ∧ b ≤ e) (hk : tx_k (M 2) e b = 257) (hs : tx_s (M 2) e b - b = (l.length : Int)) (h1 : tx_is (M 2) e b l → Q (.inl (some (gm_vi 1))) n K R (vt M e b w)) (h0 : ¬ tx_is (M 2) e b l → Q (.inl (some (gm_vi 0))) n K R (vt M e b w)) : ∀ i, 0 ≤ i → i ≤ (l.length : Int) → (∀ j : Nat, (j : Int) < i → M 2 (b + j) = l.getD j 0) → gm_Wp X LX d bc bs 81 30 [some (gm_vr 214), some (gm_vo c), some (gm_vi i)] [] n K R (vt M e b w) Q := by
  obtain ⟨-, he0, he4⟩ := vEe hE
  obtain ⟨s1, s2, -⟩ := tx_sb (f := M 2) hb.2
  have hsl := (tx_ol hl).1
  have hid : c < gm_sl.length := by rw [gm_sl75]; exact hc
  have hs9 := (gm_chk_s hid).1.2
  have hkb := tx_kc (f := M 2) (e := e) (b := b) (fun h => vEb hE hb.1 (by omega))
  refine fw_ind (fun i hi0 hil ih hall => ?_)
  refine gm_sz (gm_p_load (pc := 30) (i := .iload_n 2) (sr := 0) (j := 2) (by decide +kernel) rfl rfl rfl) ?_
  refine gm_sz (gm_p_load (pc := 31) (i := .aload_n 1) (sr := 2) (j := 1) (by decide +kernel) rfl rfl rfl) ?_
  refine gm_c_vstr (id := c) (mj := 82) (ix := 53) (pc := 32) (as := []) (st := [gm_vi i]) (d' := d - 1) (bc' := 0) (bs' := 0) (by decide +kernel) (by decide +kernel) (by decide +kernel) (by decide +kernel) hid (by decide +kernel) (show 0 = gm_na 82 by decide +kernel) fw_c0 (show 1 ≤ gm_ml 82 by decide +kernel) (Nat.le_of_ble_eq_true rfl) (by omega) (Nat.zero_le _) (Nat.zero_le _) ?_
  refine gm_w82 (by omega) hid ?_
  show gm_Wp X LX d _ _ 81 35 _ [gm_vi (gm_slen c : Int), gm_vi i] n K R _ Q
  refine fw_ic (cc := .ge) (pc := 35) (off := 44) (by decide +kernel) (by decide) ⟨by omega, by omega⟩ ⟨by omega, by omega⟩ (fun j1 => ?_) (fun j1 => ?_)
  · have j1 : (gm_slen c : Int) ≤ i := j1
    refine gm_sz (gm_p_const (pc := 79) (i := .iconst 1) (v := gm_vi 1) (by decide +kernel) (by decide +kernel)) ?_
    exact gm_r_int (pc := 80) (by decide +kernel) (Or.inr ⟨(by decide +kernel), Or.inr rfl⟩) (h1 ⟨hk, hs, fun j hj => hall j (by omega)⟩)
  · have j1 : ¬ (gm_slen c : Int) ≤ i := j1
    refine gm_sz (gm_p_load (pc := 38) (i := .aload_n 0) (sr := 2) (j := 0) (by decide +kernel) rfl rfl rfl) ?_
    refine gm_sz (fw_gi (pc := 39) (ix := 18) (ci := 8) (j := 4) (x := b) (by decide +kernel) (vE214 hE) (by decide +kernel) (by decide +kernel) rfl) ?_
    refine gm_sz (gm_p_load (pc := 42) (i := .iload_n 2) (sr := 0) (j := 2) (by decide +kernel) rfl rfl rfl) ?_
    refine gm_sz (gm_p_bin (pc := 43) (i := .iadd) (f := fun x y => x + y) (by decide +kernel) rfl) ?_
    refine gm_sz (gm_p_load (pc := 44) (i := .aload_n 0) (sr := 2) (j := 0) (by decide +kernel) rfl rfl rfl) ?_
    refine gm_sz (fw_gr (pc := 45) (ix := 30) (ci := 8) (j := 0) (r := 2) (by decide +kernel) (vE214 hE) (by decide +kernel) (by decide +kernel) (show R 214 0 = 2 ∧ M 214 1 = 4 from hE.2.1).1) ?_
    refine gm_sz (fw_al (pc := 48) (k := 2) (len := 400) (by decide +kernel) (vE2 hE).1 (vE2 hE).2 (by decide)) ?_
    refine fw_icf (cc := .ge) (pc := 49) (off := 30) (by decide +kernel) (by decide) ⟨by omega, by omega⟩ ⟨by decide, by decide⟩ (show ¬ 400 ≤ (b + i) by omega) ?_
    refine gm_sz (gm_p_load (pc := 52) (i := .aload_n 0) (sr := 2) (j := 0) (by decide +kernel) rfl rfl rfl) ?_
    refine gm_sz (fw_gr (pc := 53) (ix := 30) (ci := 8) (j := 0) (r := 2) (by decide +kernel) (vE214 hE) (by decide +kernel) (by decide +kernel) (show R 214 0 = 2 ∧ M 214 1 = 4 from hE.2.1).1) ?_
    refine gm_sz (gm_p_load (pc := 56) (i := .aload_n 0) (sr := 2) (j := 0) (by decide +kernel) rfl rfl rfl) ?_
    refine gm_sz (fw_gi (pc := 57) (ix := 18) (ci := 8) (j := 4) (x := b) (by decide +kernel) (vE214 hE) (by decide +kernel) (by decide +kernel) rfl) ?_
    refine gm_sz (gm_p_load (pc := 60) (i := .iload_n 2) (sr := 0) (j := 2) (by decide +kernel) rfl rfl rfl) ?_
    refine gm_sz (gm_p_bin (pc := 61) (i := .iadd) (f := fun x y => x + y) (by decide +kernel) rfl) ?_
    refine gm_sz (fw_ba (pc := 62) (k := 2) (len := 400) (e0 := b + i) (x := M 2 (b + i)) (by decide +kernel) (vE2 hE).1 (vE2 hE).2 (by decide) ⟨by omega, by omega⟩ rfl) ?_
    have y2 := vEb hE (j := b + i) (by omega) (by omega)
    refine gm_sz (gm_p_load (pc := 63) (i := .aload_n 1) (sr := 2) (j := 1) (by decide +kernel) rfl rfl rfl) ?_
    refine gm_sz (gm_p_load (pc := 64) (i := .iload_n 2) (sr := 0) (j := 2) (by decide +kernel) rfl rfl rfl) ?_
    refine gm_c_vstr (id := c) (mj := 84) (ix := 58) (pc := 65) (as := [gm_vi i]) (st := [gm_vi (M 2 (b + i))]) (d' := d - 1) (bc' := 0) (bs' := 0) (by decide +kernel) (by decide +kernel) (by decide +kernel) (by decide +kernel) hid (by decide +kernel) (show 1 = gm_na 84 by decide +kernel) (fw_c1 fw_si) (show 2 ≤ gm_ml 84 by decide +kernel) (Nat.le_of_ble_eq_true rfl) (by omega) (Nat.zero_le _) (Nat.zero_le _) ?_
    refine gm_w84 (by omega) hid ⟨by omega, by omega⟩ ?_
    show gm_Wp X LX d _ _ 81 68 _ [gm_vi (gm_chv c i.toNat), gm_vi (M 2 (b + i))] n K R _ Q
    have z3 := ((gm_chk_s hid).2 i.toNat (by omega)).2
    refine fw_ic (cc := .eq) (pc := 68) (off := 5) (by decide +kernel) (by decide) ⟨by omega, by omega⟩ ⟨by omega, by omega⟩ (fun j4 => ?_) (fun j4 => ?_)
    · have j4 : (M 2 (b + i)) = (gm_chv c i.toNat) := j4
      refine gm_sz (gm_p_iinc (pc := 73) (j := 2) (z := 1) (by decide +kernel) rfl) ?_
      refine gm_sz (gm_p_goto (pc := 76) (off := (-46)) (by decide +kernel) (by decide)) ?_
      refine ih (by omega) (fun j hj => ?_)
      by_cases hji : (j : Int) = i
      · rw [hji, j4, (tx_ol hl).2 i.toNat (by omega), show i.toNat = j by omega]
      · exact hall j (by omega)
    · have j4 : ¬ (M 2 (b + i)) = (gm_chv c i.toNat) := j4
      refine gm_sz (gm_p_const (pc := 71) (i := .iconst 0) (v := gm_vi 0) (by decide +kernel) (by decide +kernel)) ?_
      refine gm_r_int (pc := 72) (by decide +kernel) (Or.inr ⟨(by decide +kernel), Or.inl rfl⟩) (h0 fun hh => ?_)
      have e1 := hh.2.2 i.toNat (by omega)
      rw [show ((i.toNat : Nat) : Int) = i by omega, ← (tx_ol hl).2 i.toNat (by omega)] at e1
      exact j4 e1

theorem vx_c81 (hd : 5 ≤ d) (hE : vE n K R M e) (hc : c < 75) (hl : tx_o c = l) (hb : 0 ≤ b ∧ b ≤ e) (h1 : tx_is (M 2) e b l → Q (.inl (some (gm_vi 1))) n K R (vt M e b w)) (h0 : ¬ tx_is (M 2) e b l → Q (.inl (some (gm_vi 0))) n K R (vt M e b w)) : gm_Wp X LX d bc bs 81 0 (gm_ent 81 [gm_vr 214, gm_vo c]) [] n K R (vt M e b w) Q := by
  obtain ⟨-, he0, he4⟩ := vEe hE
  obtain ⟨s1, s2, -⟩ := tx_sb (f := M 2) hb.2
  have hsl := (tx_ol hl).1
  have hid : c < gm_sl.length := by rw [gm_sl75]; exact hc
  have hs9 := (gm_chk_s hid).1.2
  have hkb := tx_kc (f := M 2) (e := e) (b := b) (fun h => vEb hE hb.1 (by omega))
  refine gm_sz (gm_p_load (pc := 0) (i := .aload_n 0) (sr := 2) (j := 0) (by decide +kernel) rfl rfl rfl) ?_
  refine gm_sz (fw_gi (pc := 1) (ix := 24) (ci := 8) (j := 6) (x := tx_k (M 2) e b) (by decide +kernel) (vE214 hE) (by decide +kernel) (by decide +kernel) rfl) ?_
  refine gm_sz (gm_p_const (pc := 4) (i := .sipush 257) (v := gm_vi 257) (by decide +kernel) (by decide +kernel)) ?_
  refine fw_ic (cc := .ne) (pc := 7) (off := 19) (by decide +kernel) (by decide) ⟨by omega, by omega⟩ ⟨by decide, by decide⟩ (fun j1 => ?_) (fun j1 => ?_)
  · have j1 : ¬ (tx_k (M 2) e b) = 257 := j1
    refine gm_sz (gm_p_const (pc := 26) (i := .iconst 0) (v := gm_vi 0) (by decide +kernel) (by decide +kernel)) ?_
    exact gm_r_int (pc := 27) (by decide +kernel) (Or.inr ⟨(by decide +kernel), Or.inl rfl⟩) (h0 fun hh => by have t1 := hh.1; have t2 := hh.2.1; omega)
  · have j1 : (tx_k (M 2) e b) = 257 := Classical.not_not.mp j1
    refine gm_sz (gm_p_load (pc := 10) (i := .aload_n 0) (sr := 2) (j := 0) (by decide +kernel) rfl rfl rfl) ?_
    refine gm_sz (fw_gi (pc := 11) (ix := 15) (ci := 8) (j := 3) (x := tx_s (M 2) e b) (by decide +kernel) (vE214 hE) (by decide +kernel) (by decide +kernel) rfl) ?_
    refine gm_sz (gm_p_load (pc := 14) (i := .aload_n 0) (sr := 2) (j := 0) (by decide +kernel) rfl rfl rfl) ?_
    refine gm_sz (fw_gi (pc := 15) (ix := 18) (ci := 8) (j := 4) (x := b) (by decide +kernel) (vE214 hE) (by decide +kernel) (by decide +kernel) rfl) ?_
    refine gm_sz (gm_p_bin (pc := 18) (i := .isub) (f := fun x y => x - y) (by decide +kernel) rfl) ?_
    refine gm_sz (gm_p_load (pc := 19) (i := .aload_n 1) (sr := 2) (j := 1) (by decide +kernel) rfl rfl rfl) ?_
    refine gm_c_vstr (id := c) (mj := 82) (ix := 53) (pc := 20) (as := []) (st := [gm_vi ((tx_s (M 2) e b) - b)]) (d' := d - 1) (bc' := 0) (bs' := 0) (by decide +kernel) (by decide +kernel) (by decide +kernel) (by decide +kernel) hid (by decide +kernel) (show 0 = gm_na 82 by decide +kernel) fw_c0 (show 1 ≤ gm_ml 82 by decide +kernel) (Nat.le_of_ble_eq_true rfl) (by omega) (Nat.zero_le _) (Nat.zero_le _) ?_
    refine gm_w82 (by omega) hid ?_
    show gm_Wp X LX d _ _ 81 23 _ [gm_vi (gm_slen c : Int), gm_vi ((tx_s (M 2) e b) - b)] n K R _ Q
    refine fw_ic (cc := .eq) (pc := 23) (off := 5) (by decide +kernel) (by decide) ⟨by omega, by omega⟩ ⟨by omega, by omega⟩ (fun j2 => ?_) (fun j2 => ?_)
    · have j2 : ((tx_s (M 2) e b) - b) = (gm_slen c : Int) := j2
      refine gm_sz (gm_p_const (pc := 28) (i := .iconst 0) (v := gm_vi 0) (by decide +kernel) (by decide +kernel)) ?_
      refine gm_sz (gm_p_stor (pc := 29) (i := .istore_n 2) (sr := 0) (j := 2) (by decide +kernel) rfl (show 3 ≤ _ from Nat.le_of_ble_eq_true rfl) rfl) ?_
      exact vx_w8 hd hE hc hl hb (by omega) (by omega) h1 h0 0 (Int.le_refl _) (by omega) (fun j hj => absurd hj (by omega))
    · have j2 : ¬ ((tx_s (M 2) e b) - b) = (gm_slen c : Int) := j2
      refine gm_sz (gm_p_const (pc := 26) (i := .iconst 0) (v := gm_vi 0) (by decide +kernel) (by decide +kernel)) ?_
      exact gm_r_int (pc := 27) (by decide +kernel) (Or.inr ⟨(by decide +kernel), Or.inl rfl⟩) (h0 fun hh => by have t1 := hh.1; have t2 := hh.2.1; omega)

theorem vx_c95 (hd : 6 ≤ d) (hE : vE n K R M e) (hc : c < 75) (hl : tx_o c = l) (hb : 0 ≤ b ∧ b ≤ e) (h1 : tx_is (M 2) e b l → Q (.inl (some (gm_vi 1))) n K R (vt M e (tx_n (M 2) e b) w)) (h0 : ¬ tx_is (M 2) e b l → Q (.inl (some (gm_vi 0))) n K R (vt M e b w)) : gm_Wp X LX d bc bs 95 0 (gm_ent 95 [gm_vr 214, gm_vo c]) [] n K R (vt M e b w) Q := by
  obtain ⟨-, he0, he4⟩ := vEe hE
  refine gm_sz (gm_p_load (pc := 0) (i := .aload_n 0) (sr := 2) (j := 0) (by decide +kernel) rfl rfl rfl) ?_
  refine gm_sz (gm_p_load (pc := 1) (i := .aload_n 1) (sr := 2) (j := 1) (by decide +kernel) rfl rfl rfl) ?_
  refine gm_c_virt (k := 214) (ci := 8) (mj := 81) (ix := 62) (pc := 2) (as := [gm_vo c]) (st := []) (d' := d - 1) (bc' := 0) (bs' := 0) (by decide +kernel) (by decide +kernel) (by decide +kernel) (by decide +kernel) (vE214 hE).1 (vE214 hE).2 (by decide) (by decide +kernel) (show 1 = gm_na 81 by decide +kernel) (fw_c1 fw_so) (show 2 ≤ gm_ml 81 by decide +kernel) (Nat.le_of_ble_eq_true rfl) (by omega) (Nat.zero_le _) (Nat.zero_le _) ?_
  refine vx_c81 (by omega) hE hc hl hb (fun j1 => ?_) (fun j1 => ?_)
  · show gm_Wp X LX d _ _ 95 5 _ [gm_vi 1] n K R _ Q
    have j1 : tx_is (M 2) e b l := j1
    refine gm_sz (gm_p_stor (pc := 5) (i := .istore_n 2) (sr := 0) (j := 2) (by decide +kernel) rfl (show 3 ≤ _ from Nat.le_of_ble_eq_true rfl) rfl) ?_
    refine gm_sz (gm_p_load (pc := 6) (i := .iload_n 2) (sr := 0) (j := 2) (by decide +kernel) rfl rfl rfl) ?_
    refine fw_iffd (cc := .eq) (pc := 7) (off := 7) (by decide +kernel) (by decide) ⟨by decide, by decide⟩ (by decide) ?_
    refine gm_sz (gm_p_load (pc := 10) (i := .aload_n 0) (sr := 2) (j := 0) (by decide +kernel) rfl rfl rfl) ?_
    refine gm_c_virt (k := 214) (ci := 8) (mj := 76) (ix := 43) (pc := 11) (as := []) (st := []) (d' := d - 1) (bc' := 0) (bs' := 0) (by decide +kernel) (by decide +kernel) (by decide +kernel) (by decide +kernel) (vE214 hE).1 (vE214 hE).2 (by decide) (by decide +kernel) (show 0 = gm_na 76 by decide +kernel) fw_c0 (show 1 ≤ gm_ml 76 by decide +kernel) (Nat.le_of_ble_eq_true rfl) (by omega) (Nat.zero_le _) (Nat.zero_le _) ?_
    refine vx_c76 (by omega) hE hb ?_
    show gm_Wp X LX d _ _ 95 14 _ [] n K R _ Q
    have g2 : 0 ≤ tx_n (M 2) e b ∧ tx_n (M 2) e b ≤ e := by have := tx_nb (f := M 2) (b := b) hb.2; omega
    refine gm_sz (gm_p_load (pc := 14) (i := .iload_n 2) (sr := 0) (j := 2) (by decide +kernel) rfl rfl rfl) ?_
    exact gm_r_int (pc := 15) (by decide +kernel) (Or.inr ⟨(by decide +kernel), Or.inr rfl⟩) (h1 j1)
  · show gm_Wp X LX d _ _ 95 5 _ [gm_vi 0] n K R _ Q
    have j1 : ¬ tx_is (M 2) e b l := j1
    refine gm_sz (gm_p_stor (pc := 5) (i := .istore_n 2) (sr := 0) (j := 2) (by decide +kernel) rfl (show 3 ≤ _ from Nat.le_of_ble_eq_true rfl) rfl) ?_
    refine gm_sz (gm_p_load (pc := 6) (i := .iload_n 2) (sr := 0) (j := 2) (by decide +kernel) rfl rfl rfl) ?_
    refine fw_iftd (cc := .eq) (pc := 7) (off := 7) (by decide +kernel) (by decide) ⟨by decide, by decide⟩ (by decide) ?_
    refine gm_sz (gm_p_load (pc := 14) (i := .iload_n 2) (sr := 0) (j := 2) (by decide +kernel) rfl rfl rfl) ?_
    exact gm_r_int (pc := 15) (by decide +kernel) (Or.inr ⟨(by decide +kernel), Or.inl rfl⟩) (h0 j1)

theorem vx_c98 (hd : 2 ≤ d) (hE : vE n K R M e) (hx : gm_ir x) (hb : 0 ≤ b ∧ b ≤ e) (h1 : tx_k (M 2) e b = x → Q (.inl (some (gm_vi 1))) n K R (vt M e (tx_n (M 2) e b) (-1))) (h0 : ¬ tx_k (M 2) e b = x → Q (.inl (some (gm_vi 0))) n K R (vt M e b b)) : gm_Wp X LX d bc bs 98 0 (gm_ent 98 [gm_vr 214, gm_vi x]) [] n K R (vt M e b (-1)) Q := by
  obtain ⟨-, he0, he4⟩ := vEe hE
  obtain ⟨hx1, hx2⟩ := hx
  have hkb := tx_kc (f := M 2) (e := e) (b := b) (fun h => vEb hE hb.1 (by omega))
  have hvb := tx_vb (f := M 2) (e := e) (m := 4) (b := b) (by decide)
  refine gm_sz (gm_p_load (pc := 0) (i := .aload_n 0) (sr := 2) (j := 0) (by decide +kernel) rfl rfl rfl) ?_
  refine gm_sz (fw_gi (pc := 1) (ix := 24) (ci := 8) (j := 6) (x := tx_k (M 2) e b) (by decide +kernel) (vE214 hE) (by decide +kernel) (by decide +kernel) rfl) ?_
  refine gm_sz (gm_p_load (pc := 4) (i := .iload_n 1) (sr := 0) (j := 1) (by decide +kernel) rfl rfl rfl) ?_
  refine fw_ic (cc := .eq) (pc := 5) (off := 8) (by decide +kernel) (by decide) ⟨by omega, by omega⟩ ⟨by omega, by omega⟩ (fun j1 => ?_) (fun j1 => ?_)
  · have j1 : (tx_k (M 2) e b) = x := j1
    refine gm_sz (gm_p_load (pc := 13) (i := .aload_n 0) (sr := 2) (j := 0) (by decide +kernel) rfl rfl rfl) ?_
    refine gm_c_virt (k := 214) (ci := 8) (mj := 76) (ix := 43) (pc := 14) (as := []) (st := []) (d' := d - 1) (bc' := 0) (bs' := 0) (by decide +kernel) (by decide +kernel) (by decide +kernel) (by decide +kernel) (vE214 hE).1 (vE214 hE).2 (by decide) (by decide +kernel) (show 0 = gm_na 76 by decide +kernel) fw_c0 (show 1 ≤ gm_ml 76 by decide +kernel) (Nat.le_of_ble_eq_true rfl) (by omega) (Nat.zero_le _) (Nat.zero_le _) ?_
    refine vx_c76 (by omega) hE hb ?_
    show gm_Wp X LX d _ _ 98 17 _ [] n K R _ Q
    have g2 : 0 ≤ tx_n (M 2) e b ∧ tx_n (M 2) e b ≤ e := by have := tx_nb (f := M 2) (b := b) hb.2; omega
    refine gm_sz (gm_p_const (pc := 17) (i := .iconst 1) (v := gm_vi 1) (by decide +kernel) (by decide +kernel)) ?_
    exact gm_r_int (pc := 18) (by decide +kernel) (Or.inr ⟨(by decide +kernel), Or.inr rfl⟩) (h1 j1)
  · have j1 : ¬ (tx_k (M 2) e b) = x := j1
    refine gm_sz (gm_p_load (pc := 8) (i := .aload_n 0) (sr := 2) (j := 0) (by decide +kernel) rfl rfl rfl) ?_
    refine gm_c_virt (k := 214) (ci := 8) (mj := 93) (ix := 69) (pc := 9) (as := []) (st := []) (d' := d - 1) (bc' := 0) (bs' := 0) (by decide +kernel) (by decide +kernel) (by decide +kernel) (by decide +kernel) (vE214 hE).1 (vE214 hE).2 (by decide) (by decide +kernel) (show 0 = gm_na 93 by decide +kernel) fw_c0 (show 1 ≤ gm_ml 93 by decide +kernel) (Nat.le_of_ble_eq_true rfl) (by omega) (Nat.zero_le _) (Nat.zero_le _) ?_
    refine vx_c93 hE hb ?_
    show gm_Wp X LX d _ _ 98 12 _ [gm_vi 0] n K R _ Q
    exact gm_r_int (pc := 12) (by decide +kernel) (Or.inr ⟨(by decide +kernel), Or.inl rfl⟩) (h0 j1)

theorem vx_c94 {lo hi : Int} (hd : 2 ≤ d) (hE : vE n K R M e) (hlo : gm_ir lo) (hhi : gm_ir hi) (hb : 0 ≤ b ∧ b ≤ e) (h1 : tx_k (M 2) e b = 258 → lo ≤ tx_v (M 2) e 4 b → tx_v (M 2) e 4 b ≤ hi → Q (.inl (some (gm_vi (tx_v (M 2) e 4 b)))) n K R (vt M e (tx_n (M 2) e b) (-1))) (h0 : ¬ (tx_k (M 2) e b = 258 ∧ lo ≤ tx_v (M 2) e 4 b ∧ tx_v (M 2) e 4 b ≤ hi) → Q (.inl (some (gm_vi (-1)))) n K R (vt M e b b)) : gm_Wp X LX d bc bs 94 0 (gm_ent 94 [gm_vr 214, gm_vi lo, gm_vi hi]) [] n K R (vt M e b (-1)) Q := by
  obtain ⟨-, he0, he4⟩ := vEe hE
  obtain ⟨hlo1, hlo2⟩ := hlo
  obtain ⟨hhi1, hhi2⟩ := hhi
  have hkb := tx_kc (f := M 2) (e := e) (b := b) (fun h => vEb hE hb.1 (by omega))
  have hvb := tx_vb (f := M 2) (e := e) (m := 4) (b := b) (by decide)
  refine gm_sz (gm_p_load (pc := 0) (i := .aload_n 0) (sr := 2) (j := 0) (by decide +kernel) rfl rfl rfl) ?_
  refine gm_sz (fw_gi (pc := 1) (ix := 27) (ci := 8) (j := 7) (x := tx_v (M 2) e 4 b) (by decide +kernel) (vE214 hE) (by decide +kernel) (by decide +kernel) rfl) ?_
  refine gm_sz (gm_p_stor (pc := 4) (i := .istore_n 3) (sr := 0) (j := 3) (by decide +kernel) rfl (show 4 ≤ _ from Nat.le_of_ble_eq_true rfl) rfl) ?_
  refine gm_sz (gm_p_load (pc := 5) (i := .aload_n 0) (sr := 2) (j := 0) (by decide +kernel) rfl rfl rfl) ?_
  refine gm_sz (fw_gi (pc := 6) (ix := 24) (ci := 8) (j := 6) (x := tx_k (M 2) e b) (by decide +kernel) (vE214 hE) (by decide +kernel) (by decide +kernel) rfl) ?_
  refine gm_sz (gm_p_const (pc := 9) (i := .sipush 258) (v := gm_vi 258) (by decide +kernel) (by decide +kernel)) ?_
  refine fw_ic (cc := .ne) (pc := 12) (off := 13) (by decide +kernel) (by decide) ⟨by omega, by omega⟩ ⟨by decide, by decide⟩ (fun j1 => ?_) (fun j1 => ?_)
  · have j1 : ¬ (tx_k (M 2) e b) = 258 := j1
    refine gm_sz (gm_p_load (pc := 25) (i := .aload_n 0) (sr := 2) (j := 0) (by decide +kernel) rfl rfl rfl) ?_
    refine gm_c_virt (k := 214) (ci := 8) (mj := 93) (ix := 69) (pc := 26) (as := []) (st := []) (d' := d - 1) (bc' := 0) (bs' := 0) (by decide +kernel) (by decide +kernel) (by decide +kernel) (by decide +kernel) (vE214 hE).1 (vE214 hE).2 (by decide) (by decide +kernel) (show 0 = gm_na 93 by decide +kernel) fw_c0 (show 1 ≤ gm_ml 93 by decide +kernel) (Nat.le_of_ble_eq_true rfl) (by omega) (Nat.zero_le _) (Nat.zero_le _) ?_
    refine vx_c93 hE hb ?_
    show gm_Wp X LX d _ _ 94 29 _ [gm_vi 0] n K R _ Q
    refine gm_sz (gm_p_pop (pc := 29) (by decide +kernel) fw_si) ?_
    refine gm_sz (gm_p_const (pc := 30) (i := .iconst (-1)) (v := gm_vi (-1)) (by decide +kernel) (by decide +kernel)) ?_
    exact gm_r_int (pc := 31) (by decide +kernel) (Or.inl (by decide +kernel)) (h0 (by omega))
  · have j1 : (tx_k (M 2) e b) = 258 := Classical.not_not.mp j1
    refine gm_sz (gm_p_load (pc := 15) (i := .iload_n 3) (sr := 0) (j := 3) (by decide +kernel) rfl rfl rfl) ?_
    refine gm_sz (gm_p_load (pc := 16) (i := .iload_n 1) (sr := 0) (j := 1) (by decide +kernel) rfl rfl rfl) ?_
    refine fw_ic (cc := .lt) (pc := 17) (off := 8) (by decide +kernel) (by decide) ⟨by omega, by omega⟩ ⟨by omega, by omega⟩ (fun j2 => ?_) (fun j2 => ?_)
    · have j2 : (tx_v (M 2) e 4 b) < lo := j2
      refine gm_sz (gm_p_load (pc := 25) (i := .aload_n 0) (sr := 2) (j := 0) (by decide +kernel) rfl rfl rfl) ?_
      refine gm_c_virt (k := 214) (ci := 8) (mj := 93) (ix := 69) (pc := 26) (as := []) (st := []) (d' := d - 1) (bc' := 0) (bs' := 0) (by decide +kernel) (by decide +kernel) (by decide +kernel) (by decide +kernel) (vE214 hE).1 (vE214 hE).2 (by decide) (by decide +kernel) (show 0 = gm_na 93 by decide +kernel) fw_c0 (show 1 ≤ gm_ml 93 by decide +kernel) (Nat.le_of_ble_eq_true rfl) (by omega) (Nat.zero_le _) (Nat.zero_le _) ?_
      refine vx_c93 hE hb ?_
      show gm_Wp X LX d _ _ 94 29 _ [gm_vi 0] n K R _ Q
      refine gm_sz (gm_p_pop (pc := 29) (by decide +kernel) fw_si) ?_
      refine gm_sz (gm_p_const (pc := 30) (i := .iconst (-1)) (v := gm_vi (-1)) (by decide +kernel) (by decide +kernel)) ?_
      exact gm_r_int (pc := 31) (by decide +kernel) (Or.inl (by decide +kernel)) (h0 (by omega))
    · have j2 : ¬ (tx_v (M 2) e 4 b) < lo := j2
      refine gm_sz (gm_p_load (pc := 20) (i := .iload_n 3) (sr := 0) (j := 3) (by decide +kernel) rfl rfl rfl) ?_
      refine gm_sz (gm_p_load (pc := 21) (i := .iload_n 2) (sr := 0) (j := 2) (by decide +kernel) rfl rfl rfl) ?_
      refine fw_ic (cc := .le) (pc := 22) (off := 10) (by decide +kernel) (by decide) ⟨by omega, by omega⟩ ⟨by omega, by omega⟩ (fun j3 => ?_) (fun j3 => ?_)
      · have j3 : (tx_v (M 2) e 4 b) ≤ hi := j3
        refine gm_sz (gm_p_load (pc := 32) (i := .aload_n 0) (sr := 2) (j := 0) (by decide +kernel) rfl rfl rfl) ?_
        refine gm_c_virt (k := 214) (ci := 8) (mj := 76) (ix := 43) (pc := 33) (as := []) (st := []) (d' := d - 1) (bc' := 0) (bs' := 0) (by decide +kernel) (by decide +kernel) (by decide +kernel) (by decide +kernel) (vE214 hE).1 (vE214 hE).2 (by decide) (by decide +kernel) (show 0 = gm_na 76 by decide +kernel) fw_c0 (show 1 ≤ gm_ml 76 by decide +kernel) (Nat.le_of_ble_eq_true rfl) (by omega) (Nat.zero_le _) (Nat.zero_le _) ?_
        refine vx_c76 (by omega) hE hb ?_
        show gm_Wp X LX d _ _ 94 36 _ [] n K R _ Q
        have g4 : 0 ≤ tx_n (M 2) e b ∧ tx_n (M 2) e b ≤ e := by have := tx_nb (f := M 2) (b := b) hb.2; omega
        refine gm_sz (gm_p_load (pc := 36) (i := .iload_n 3) (sr := 0) (j := 3) (by decide +kernel) rfl rfl rfl) ?_
        exact gm_r_int (pc := 37) (by decide +kernel) (Or.inl (by decide +kernel)) (h1 (by omega) (by omega) (by omega))
      · have j3 : ¬ (tx_v (M 2) e 4 b) ≤ hi := j3
        refine gm_sz (gm_p_load (pc := 25) (i := .aload_n 0) (sr := 2) (j := 0) (by decide +kernel) rfl rfl rfl) ?_
        refine gm_c_virt (k := 214) (ci := 8) (mj := 93) (ix := 69) (pc := 26) (as := []) (st := []) (d' := d - 1) (bc' := 0) (bs' := 0) (by decide +kernel) (by decide +kernel) (by decide +kernel) (by decide +kernel) (vE214 hE).1 (vE214 hE).2 (by decide) (by decide +kernel) (show 0 = gm_na 93 by decide +kernel) fw_c0 (show 1 ≤ gm_ml 93 by decide +kernel) (Nat.le_of_ble_eq_true rfl) (by omega) (Nat.zero_le _) (Nat.zero_le _) ?_
        refine vx_c93 hE hb ?_
        show gm_Wp X LX d _ _ 94 29 _ [gm_vi 0] n K R _ Q
        refine gm_sz (gm_p_pop (pc := 29) (by decide +kernel) fw_si) ?_
        refine gm_sz (gm_p_const (pc := 30) (i := .iconst (-1)) (v := gm_vi (-1)) (by decide +kernel) (by decide +kernel)) ?_
        exact gm_r_int (pc := 31) (by decide +kernel) (Or.inl (by decide +kernel)) (h0 (by omega))

end VW
end
