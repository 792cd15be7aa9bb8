/-! WHAT STAYS TRUE OF WHAT IS TOLD (laid by wip/core/i0.py). -/
/-- what always holds of what is told -/
def GI (N : Int → Int) : Prop := NR N ∧ NS N ∧ LOGI N
section GI0
variable {N N2 : Int → Int} {f t l r p w a b e v j : Int}
/-- what was thrown in last -/
theorem nthr_o (h : 0 ≤ j ∧ j < 119) (h4 : ¬ j = 4) (hn : 0 ≤ N 4) : nthr N f t l r j = N j := by
  unfold nthr
  rw [nup_ne (by omega), nup_ne (by omega), nup_ne (by omega), nup_ne (by omega), nup_ne (by omega), nup_ne (by omega), nup_ne (by omega), nup_ne h4]
theorem nthr_p (h : 287 ≤ j) (hn : 0 ≤ N 4 ∧ N 4 < 24) : nthr N f t l r j = N j := by
  unfold nthr
  rw [nup_ne (by omega), nup_ne (by omega), nup_ne (by omega), nup_ne (by omega), nup_ne (by omega), nup_ne (by omega), nup_ne (by omega), nup_ne (by omega)]
theorem nthr_n (hn : 0 ≤ N 4) : nthr N f t l r 4 = N 4 + 1 := by
  unfold nthr
  rw [nup_ne (by omega), nup_ne (by omega), nup_ne (by omega), nup_ne (by omega), nup_ne (by omega), nup_ne (by omega), nup_ne (by omega), nup_at]
theorem nthr_x {k c : Int} (hk : 0 ≤ k ∧ k < N 4) (hc : 0 ≤ c ∧ c < 7) : nthr N f t l r (119 + (k * 7 + c)) = N (119 + (k * 7 + c)) := by
  unfold nthr
  rw [nup_ne (by omega), nup_ne (by omega), nup_ne (by omega), nup_ne (by omega), nup_ne (by omega), nup_ne (by omega), nup_ne (by omega), nup_ne (by omega)]
theorem nthr_a : nthr N f t l r (119 + (N 4 * 7 + 0)) = f := by
  unfold nthr
  rw [nup_ne (by omega), nup_ne (by omega), nup_ne (by omega), nup_ne (by omega), nup_ne (by omega), nup_ne (by omega), nup_at]
theorem nthr_b : nthr N f t l r (119 + (N 4 * 7 + 1)) = t := by
  unfold nthr
  rw [nup_ne (by omega), nup_ne (by omega), nup_ne (by omega), nup_ne (by omega), nup_ne (by omega), nup_at]
theorem nthr_c : nthr N f t l r (119 + (N 4 * 7 + 2)) = l := by
  unfold nthr
  rw [nup_ne (by omega), nup_ne (by omega), nup_ne (by omega), nup_ne (by omega), nup_at]
theorem nthr_d : nthr N f t l r (119 + (N 4 * 7 + 3)) = N 9 := by
  unfold nthr
  rw [nup_ne (by omega), nup_ne (by omega), nup_ne (by omega), nup_at]
theorem nthr_e : nthr N f t l r (119 + (N 4 * 7 + 4)) = r := by
  unfold nthr
  rw [nup_ne (by omega), nup_ne (by omega), nup_at]
theorem nthr_f : nthr N f t l r (119 + (N 4 * 7 + 5)) = -1 := by
  unfold nthr
  rw [nup_ne (by omega), nup_at]
theorem nthr_g : nthr N f t l r (119 + (N 4 * 7 + 6)) = -1 := by
  unfold nthr
  rw [nup_at]
theorem nr_nthr (hN : NR N) (h4 : N 4 < 24) (hf : -1 ≤ f ∧ f < N 3) (ht : -1 ≤ t ∧ t < N 3) (hl : 0 ≤ l ∧ l < N 0) (hr : 0 ≤ r ∧ r < N 1) (hft : 0 ≤ f → 0 ≤ t) : NR (nthr N f t l r) := by
  obtain ⟨⟨⟨a0, b0⟩, ⟨a1, b1⟩, ⟨a10, b10⟩, ⟨a11, b11⟩, ⟨a12, b12⟩, a9, b9⟩, ⟨⟨a2, b2⟩, ⟨a5, b5⟩, ⟨a3, b3⟩, ⟨a4, b4⟩, ⟨a6, b6⟩, ⟨a14, b14⟩, ⟨a7, b7⟩, a13, b13⟩, rF, rP, rL⟩ := id hN
  have e : ∀ j, 0 ≤ j ∧ j < 119 → ¬ j = 4 → nthr N f t l r j = N j := fun j h h2 => nthr_o h h2 a4
  have e4 : nthr N f t l r 4 = N 4 + 1 := nthr_n a4
  have e14 : nthr N f t l r 14 = N 14 := e 14 (by decide) (by decide)
  unfold NR
  rw [e4, e 0 (by decide) (by decide), e 1 (by decide) (by decide), e 10 (by decide) (by decide), e 11 (by decide) (by decide), e 12 (by decide) (by decide), e 9 (by decide) (by decide), e 2 (by decide) (by decide), e 5 (by decide) (by decide), e 3 (by decide) (by decide), e 6 (by decide) (by decide), e14, e 7 (by decide) (by decide), e 13 (by decide) (by decide)]
  refine ⟨⟨⟨a0, b0⟩, ⟨a1, b1⟩, ⟨a10, b10⟩, ⟨a11, b11⟩, ⟨a12, b12⟩, a9, b9⟩, ⟨⟨a2, b2⟩, ⟨a5, b5⟩, ⟨a3, b3⟩, ⟨by omega, by omega⟩, ⟨a6, b6⟩, ⟨a14, b14⟩, ⟨a7, b7⟩, a13, b13⟩, fun q h0 h1 => ?_, fun q h0 h1 => ?_, fun q h0 h1 => ?_⟩
  · rw [e (71 + (q * 3 + 0)) (by omega) (by omega), e (71 + (q * 3 + 1)) (by omega) (by omega), e (71 + (q * 3 + 2)) (by omega) (by omega)]
    exact rF q h0 h1
  · rw [e (95 + (q * 3 + 0)) (by omega) (by omega), e (95 + (q * 3 + 1)) (by omega) (by omega), e (95 + (q * 3 + 2)) (by omega) (by omega)]
    exact rP q h0 h1
  · by_cases hq : q = N 4
    · subst hq
      rw [nthr_a, nthr_b, nthr_c, nthr_d, nthr_e, nthr_f, nthr_g]
      exact ⟨hf, ht, hl, ⟨a9, Int.le_refl _⟩, hr, ⟨by omega, by omega⟩, ⟨by omega, by omega⟩, hft⟩
    · have k : 0 ≤ q ∧ q < N 4 := ⟨h0, by omega⟩
      rw [nthr_x k (by decide), nthr_x k (by decide), nthr_x k (by decide), nthr_x k (by decide), nthr_x k (by decide), nthr_x k (by decide), nthr_x k (by decide)]
      exact rL q h0 k.2
theorem ns_same (hS : NS N) (h0 : N2 0 = N 0) (h2 : N2 2 = N 2) (h : ∀ j, 15 ≤ j → j < 71 → N2 j = N j) (hm : N 2 ≤ 8) (hl : N 0 ≤ 6) : NS N2 := by
  intro s s0 s1
  rw [h2] at s1
  obtain ⟨k1, k2⟩ := hS s s0 s1
  refine ⟨by rw [h _ (by omega) (by omega)]; exact k1, fun l l0 l1 => ?_⟩
  rw [h0] at l1
  rw [h _ (by omega) (by omega)]
  exact k2 l l0 l1
theorem ns_nthr (hN : NR N) (hS : NS N) : NS (nthr N f t l r) := ns_same hS (nthr_o (by decide) (by decide) hN.2.1.2.2.2.1.1) (nthr_o (by decide) (by decide) hN.2.1.2.2.2.1.1) (fun j h1 h2 => nthr_o (by omega) (by omega) hN.2.1.2.2.2.1.1) hN.2.1.1.2 hN.1.1.2
theorem logi_nthr (hN : NR N) (hg : LOGI N) : LOGI (nthr N f t l r) := by
  have a4 := hN.2.1.2.2.2.1.1
  show nthr N f t l r 14 = nop (nthr N f t l r) (nthr N f t l r 4).toNat
  rw [nthr_o (by decide) (by decide) a4, nthr_n a4, show (N 4 + 1).toNat = (N 4).toNat + 1 by omega]
  show N 14 = nop (nthr N f t l r) (N 4).toNat + (if nthr N f t l r (119 + ((((N 4).toNat : Nat) : Int) * 7 + 5)) = -1 then 0 else 1)
  rw [Int.toNat_of_nonneg a4, nthr_f, if_pos rfl, nop_e (N := N) (N 4).toNat (fun u hu => by rw [nthr_x ⟨by omega, by omega⟩ (by decide)])]
  have hg : N 14 = nop N (N 4).toNat := hg
  omega
theorem gi_nthr (h : GI N) (h4 : N 4 < 24) (hf : -1 ≤ f ∧ f < N 3) (ht : -1 ≤ t ∧ t < N 3) (hl : 0 ≤ l ∧ l < N 0) (hr : 0 ≤ r ∧ r < N 1) (hft : 0 ≤ f → 0 ≤ t) : GI (nthr N f t l r) := ⟨nr_nthr h.1 h4 hf ht hl hr hft, ns_nthr h.1 h.2.1, logi_nthr h.1 h.2.2⟩
/-- who watches -/
theorem nwat_o (h : ¬ j = 95 + (p * 3 + 2)) : nwat N p w j = N j := nup_ne h
theorem gi_nwat (h : GI N) (hp : 0 ≤ p ∧ p < N 3) (hw : -1 ≤ w ∧ w < N 0) : GI (nwat N p w) := by
  obtain ⟨hN, hS, hg⟩ := h
  obtain ⟨⟨⟨a0, b0⟩, ⟨a1, b1⟩, ⟨a10, b10⟩, ⟨a11, b11⟩, ⟨a12, b12⟩, a9, b9⟩, ⟨⟨a2, b2⟩, ⟨a5, b5⟩, ⟨a3, b3⟩, ⟨a4, b4⟩, ⟨a6, b6⟩, ⟨a14, b14⟩, ⟨a7, b7⟩, a13, b13⟩, rF, rP, rL⟩ := id hN
  have e : ∀ j, j < 95 ∨ 119 ≤ j → nwat N p w j = N j := fun j h => nwat_o (by omega)
  refine ⟨?_, ns_same hS (e 0 (by decide)) (e 2 (by decide)) (fun j h1 h2 => e j (by omega)) b2 b0, ?_⟩
  · unfold NR
    rw [e 4 (by decide), e 0 (by decide), e 1 (by decide), e 10 (by decide), e 11 (by decide), e 12 (by decide), e 9 (by decide), e 2 (by decide), e 5 (by decide), e 3 (by decide), e 6 (by decide), e 14 (by decide), e 7 (by decide), e 13 (by decide)]
    refine ⟨⟨⟨a0, b0⟩, ⟨a1, b1⟩, ⟨a10, b10⟩, ⟨a11, b11⟩, ⟨a12, b12⟩, a9, b9⟩, ⟨⟨a2, b2⟩, ⟨a5, b5⟩, ⟨a3, b3⟩, ⟨a4, b4⟩, ⟨a6, b6⟩, ⟨a14, b14⟩, ⟨a7, b7⟩, a13, b13⟩, fun q h0 h1 => ?_, fun q h0 h1 => ?_, fun q h0 h1 => ?_⟩
    · rw [e (71 + (q * 3 + 0)) (by omega), e (71 + (q * 3 + 1)) (by omega), e (71 + (q * 3 + 2)) (by omega)]
      exact rF q h0 h1
    · rw [nwat_o (j := 95 + (q * 3 + 0)) (by omega), nwat_o (j := 95 + (q * 3 + 1)) (by omega)]
      obtain ⟨k1, k2, k3⟩ := rP q h0 h1
      refine ⟨k1, k2, ?_⟩
      by_cases hq : q = p
      · subst hq
        have : nwat N q w (95 + (q * 3 + 2)) = w := nup_at
        rw [this]
        exact hw
      · rw [nwat_o (j := 95 + (q * 3 + 2)) (by omega)]
        exact k3
    · rw [e (119 + (q * 7 + 0)) (by omega), e (119 + (q * 7 + 1)) (by omega), e (119 + (q * 7 + 2)) (by omega), e (119 + (q * 7 + 3)) (by omega), e (119 + (q * 7 + 4)) (by omega), e (119 + (q * 7 + 5)) (by omega), e (119 + (q * 7 + 6)) (by omega)]
      exact rL q h0 h1
  · show nwat N p w 14 = nop (nwat N p w) (nwat N p w 4).toNat
    rw [e 14 (by decide), e 4 (by decide), nop_e (N := N) (N 4).toNat (fun u hu => by rw [e _ (by omega)])]
    exact hg
end GI0
/-! A TEXT OF A VALLEY: where it ends, what stays true. -/
section VB
variable {f : Int → Int} {e b : Int} {N : Int → Int}
theorem tif_i {α : Type} {C : α → Prop} {P : Prop} {a b : α} (ha : C a) (hb : C b) : C (tif P a b) := by
  by_cases h : P
  · rw [tif_t h]; exact ha
  · rw [tif_f h]; exact hb
theorem v_sp_b : ∀ (t : Nat) (N : Int → Int) (a b : Int), 0 ≤ b ∧ b ≤ e → b ≤ (v_sp f e t N a b).2.1 ∧ (v_sp f e t N a b).2.1 ≤ e := by
  intro t
  induction t with
  | zero => exact fun N a b h => ⟨Int.le_refl _, h.2⟩
  | succ t ih =>
    intro N a b h
    by_cases h1 : vn f e 0 20 b
    · rw [show v_sp f e (t + 1) N a b = v_sp f e t (nup N a (tx_v f e 4 b)) (a + 1) (tx_n f e b) from tif_t h1]
      have n1 := tx_nb (f := f) h.2
      have := ih (nup N a (tx_v f e 4 b)) (a + 1) (tx_n f e b) ⟨by omega, n1.2.1⟩
      exact ⟨by omega, this.2⟩
    · rw [show v_sp f e (t + 1) N a b = (false, b, N) from tif_f h1]
      exact ⟨Int.le_refl _, h.2⟩
/-- speeds: what is written, what is not -/
theorem v_sp_w : ∀ (t : Nat) (N : Int → Int) (a b : Int), (v_sp f e t N a b).1 = true → (∀ j, j < a ∨ a + (t : Int) ≤ j → (v_sp f e t N a b).2.2 j = N j) ∧ ∀ j, a ≤ j → j < a + (t : Int) → 0 ≤ (v_sp f e t N a b).2.2 j ∧ (v_sp f e t N a b).2.2 j ≤ 20 := by
  intro t
  induction t with
  | zero => exact fun N a b _ => ⟨fun j _ => rfl, fun j h0 h1 => absurd h1 (by omega)⟩
  | succ t ih =>
    intro N a b h
    by_cases h1 : vn f e 0 20 b
    · rw [show v_sp f e (t + 1) N a b = v_sp f e t (nup N a (tx_v f e 4 b)) (a + 1) (tx_n f e b) from tif_t h1] at h ⊢
      obtain ⟨i1, i2⟩ := ih _ _ _ h
      refine ⟨fun j hj => ?_, fun j h0 h2 => ?_⟩
      · rw [i1 j (by omega), nup_ne (by omega)]
      · by_cases e9 : j = a
        · rw [i1 j (by omega), e9, nup_at]
          exact h1.2
        · exact i2 j (by omega) (by omega)
    · rw [show v_sp f e (t + 1) N a b = (false, b, N) from tif_f h1] at h
      cases h
theorem v_lanes_b (h : 0 ≤ b ∧ b ≤ e) : b ≤ (v_lanes f e N b).2.1 ∧ (v_lanes f e N b).2.1 ≤ e := by
  obtain ⟨p1, p2, -⟩ := tx_nb (f := f) h.2
  obtain ⟨p3, p4, -⟩ := tx_nb (f := f) p2
  obtain ⟨p5, p6, -⟩ := tx_nb (f := f) p4
  obtain ⟨p7, p8, -⟩ := tx_nb (f := f) p6
  obtain ⟨p9, p10, -⟩ := tx_nb (f := f) p8
  unfold v_lanes tif
  repeat' split
  all_goals first | exact ⟨by dsimp only; omega, by dsimp only; omega⟩
theorem v_last_b (h : 0 ≤ b ∧ b ≤ e) : b ≤ (v_last f e N b).2.1 ∧ (v_last f e N b).2.1 ≤ e := by
  obtain ⟨p1, p2, -⟩ := tx_nb (f := f) h.2
  obtain ⟨p3, p4, -⟩ := tx_nb (f := f) p2
  obtain ⟨p5, p6, -⟩ := tx_nb (f := f) p4
  obtain ⟨p7, p8, -⟩ := tx_nb (f := f) p6
  obtain ⟨p9, p10, -⟩ := tx_nb (f := f) p8
  unfold v_last tif
  repeat' split
  all_goals first | exact ⟨by dsimp only; omega, by dsimp only; omega⟩
theorem v_snow_b (h : 0 ≤ b ∧ b ≤ e) : b ≤ (v_snow f e N b).2.1 ∧ (v_snow f e N b).2.1 ≤ e := by
  obtain ⟨p1, p2, -⟩ := tx_nb (f := f) h.2
  obtain ⟨p3, p4, -⟩ := tx_nb (f := f) p2
  obtain ⟨p5, p6, -⟩ := tx_nb (f := f) p4
  obtain ⟨p7, p8, -⟩ := tx_nb (f := f) p6
  obtain ⟨p9, p10, -⟩ := tx_nb (f := f) p8
  unfold v_snow tif
  repeat' split
  all_goals first | exact ⟨by dsimp only; omega, by dsimp only; omega⟩
theorem v_stripe_b (h : 0 ≤ b ∧ b ≤ e) : b ≤ (v_stripe f e N b).2.1 ∧ (v_stripe f e N b).2.1 ≤ e := by
  obtain ⟨p1, p2, -⟩ := tx_nb (f := f) h.2
  obtain ⟨p3, p4, -⟩ := tx_nb (f := f) p2
  obtain ⟨p5, p6, -⟩ := tx_nb (f := f) p4
  obtain ⟨p7, p8, -⟩ := tx_nb (f := f) p6
  obtain ⟨p9, p10, -⟩ := tx_nb (f := f) p8
  unfold v_stripe tif
  repeat' split
  all_goals first | exact ⟨by dsimp only; omega, by dsimp only; omega⟩
theorem v_seed_b (h : 0 ≤ b ∧ b ≤ e) : b ≤ (v_seed f e N b).2.1 ∧ (v_seed f e N b).2.1 ≤ e := by
  obtain ⟨p1, p2, -⟩ := tx_nb (f := f) h.2
  obtain ⟨p3, p4, -⟩ := tx_nb (f := f) p2
  obtain ⟨p5, p6, -⟩ := tx_nb (f := f) p4
  obtain ⟨p7, p8, -⟩ := tx_nb (f := f) p6
  obtain ⟨p9, p10, -⟩ := tx_nb (f := f) p8
  unfold v_seed tif
  repeat' split
  all_goals first | exact ⟨by dsimp only; omega, by dsimp only; omega⟩
theorem v_flood_b (h : 0 ≤ b ∧ b ≤ e) : b ≤ (v_flood f e N b).2.1 ∧ (v_flood f e N b).2.1 ≤ e := by
  obtain ⟨p1, p2, -⟩ := tx_nb (f := f) h.2
  obtain ⟨p3, p4, -⟩ := tx_nb (f := f) p2
  obtain ⟨p5, p6, -⟩ := tx_nb (f := f) p4
  obtain ⟨p7, p8, -⟩ := tx_nb (f := f) p6
  obtain ⟨p9, p10, -⟩ := tx_nb (f := f) p8
  unfold v_flood tif
  repeat' split
  all_goals first | exact ⟨by dsimp only; omega, by dsimp only; omega⟩
theorem v_person_b (h : 0 ≤ b ∧ b ≤ e) : b ≤ (v_person f e N b).2.1 ∧ (v_person f e N b).2.1 ≤ e := by
  obtain ⟨p1, p2, -⟩ := tx_nb (f := f) h.2
  obtain ⟨p3, p4, -⟩ := tx_nb (f := f) p2
  obtain ⟨p5, p6, -⟩ := tx_nb (f := f) p4
  obtain ⟨p7, p8, -⟩ := tx_nb (f := f) p6
  obtain ⟨p9, p10, -⟩ := tx_nb (f := f) p8
  unfold v_person tif
  repeat' split
  all_goals first | exact ⟨by dsimp only; omega, by dsimp only; omega⟩
theorem v_rock_b (h : 0 ≤ b ∧ b ≤ e) : b ≤ (v_rock f e N b).2.1 ∧ (v_rock f e N b).2.1 ≤ e := by
  obtain ⟨p1, p2, -⟩ := tx_nb (f := f) h.2
  obtain ⟨p3, p4, -⟩ := tx_nb (f := f) p2
  obtain ⟨p5, p6, -⟩ := tx_nb (f := f) p4
  obtain ⟨p7, p8, -⟩ := tx_nb (f := f) p6
  obtain ⟨p9, p10, -⟩ := tx_nb (f := f) p8
  unfold v_rock tif
  repeat' split
  all_goals first | exact ⟨by dsimp only; omega, by dsimp only; omega⟩
theorem v_section_b (h : 0 ≤ b ∧ b ≤ e) : b ≤ (v_section f e N b).2.1 ∧ (v_section f e N b).2.1 ≤ e := by
  obtain ⟨p1, p2, -⟩ := tx_nb (f := f) h.2
  obtain ⟨p3, p4, -⟩ := tx_nb (f := f) p2
  obtain ⟨p5, p6, -⟩ := tx_nb (f := f) p4
  obtain ⟨p7, p8, -⟩ := tx_nb (f := f) p6
  obtain ⟨p9, p10, -⟩ := tx_nb (f := f) p8
  have sp := fun t N2 a => v_sp_b (f := f) (e := e) t N2 a (tx_n f e (tx_n f e b)) ⟨by omega, by omega⟩
  refine tif_i (C := fun (q : Bool × Int × (Int → Int)) => b ≤ q.2.1 ∧ q.2.1 ≤ e) ⟨Int.le_refl _, h.2⟩ (tif_i (C := fun (q : Bool × Int × (Int → Int)) => b ≤ q.2.1 ∧ q.2.1 ≤ e) ?_ ⟨p1, p2⟩)
  exact ⟨Int.le_trans (by omega) (sp _ _ _).1, (sp _ _ _).2⟩
theorem v_table_b (h : 0 ≤ b ∧ b ≤ e) : b ≤ (v_table f e N b).2.1 ∧ (v_table f e N b).2.1 ≤ e := by
  obtain ⟨p1, p2, -⟩ := tx_nb (f := f) h.2
  obtain ⟨p3, p4, -⟩ := tx_nb (f := f) p2
  obtain ⟨p5, p6, -⟩ := tx_nb (f := f) p4
  obtain ⟨p7, p8, -⟩ := tx_nb (f := f) p6
  obtain ⟨p9, p10, -⟩ := tx_nb (f := f) p8
  have sp := fun t N2 a => v_sp_b (f := f) (e := e) t N2 a (tx_n f e b) ⟨by omega, by omega⟩
  unfold v_table tif
  repeat' split
  all_goals first | exact ⟨by dsimp only; omega, by dsimp only; omega⟩ | exact ⟨Int.le_trans (by omega) (sp _ _ _).1, (sp _ _ _).2⟩
theorem v_line_b (h : 0 ≤ b ∧ b ≤ e) : b ≤ (v_line f e N b).2.1 ∧ (v_line f e N b).2.1 ≤ e := by
  unfold v_line tif
  repeat' split
  · exact v_lanes_b h
  · exact v_last_b h
  · exact v_section_b h
  · exact v_snow_b h
  · exact v_stripe_b h
  · exact v_seed_b h
  · exact v_flood_b h
  · exact v_person_b h
  · exact v_rock_b h
  · exact v_table_b h
  · exact ⟨Int.le_refl _, h.2⟩
end VB
section VG
variable {f : Int → Int} {e b v w : Int} {N N2 : Int → Int}
theorem logi_same (hg : LOGI N) (h14 : N2 14 = N 14) (h4 : N2 4 = N 4) (h : ∀ j, 119 ≤ j → j < 287 → N2 j = N j) (b4 : N 4 ≤ 24) : LOGI N2 := by
  show N2 14 = nop N2 (N2 4).toNat
  rw [h14, h4, nop_e (N := N) (N 4).toNat (fun u hu => by rw [h _ (by omega) (by omega)])]
  exact hg
theorem v_emp0 (hN : NR N) (h : v_emp N) : N 2 = 0 ∧ N 5 = 0 ∧ N 3 = 0 ∧ N 4 = 0 ∧ N 6 = 0 := by
  obtain ⟨-, ⟨⟨a2, -⟩, ⟨a5, -⟩, ⟨a3, -⟩, ⟨a4, -⟩, ⟨a6, -⟩, -⟩, -⟩ := hN
  have h : N 2 + N 5 + N 3 + N 4 + N 6 = 0 := h
  omega
theorem gi_lanes (h : GI N) (hv : 1 ≤ v ∧ v ≤ 6) (he : v_emp N) : GI (nup (nup N 0 v) 12 v) := by
  obtain ⟨hN, hS, hg⟩ := h
  obtain ⟨⟨⟨a0, b0⟩, ⟨a1, b1⟩, ⟨a10, b10⟩, ⟨a11, b11⟩, ⟨a12, b12⟩, a9, b9⟩, ⟨⟨a2, b2⟩, ⟨a5, b5⟩, ⟨a3, b3⟩, ⟨a4, b4⟩, ⟨a6, b6⟩, ⟨a14, b14⟩, ⟨a7, b7⟩, a13, b13⟩, rF, rP, rL⟩ := id hN
  obtain ⟨z2, z5, z3, z4, z6⟩ := v_emp0 hN he
  have eg : ∀ j, 15 ≤ j → (nup (nup N 0 v) 12 v) j = N j := fun j h => by rw [nup_ne (by omega), nup_ne (by omega)]
  have e4 : (nup (nup N 0 v) 12 v) 4 = N 4 := by rw [nup_ne (by decide), nup_ne (by decide)]
  have e0 : (nup (nup N 0 v) 12 v) 0 = v := by rw [nup_ne (by decide), nup_at]
  have e1 : (nup (nup N 0 v) 12 v) 1 = N 1 := by rw [nup_ne (by decide), nup_ne (by decide)]
  have e10 : (nup (nup N 0 v) 12 v) 10 = N 10 := by rw [nup_ne (by decide), nup_ne (by decide)]
  have e11 : (nup (nup N 0 v) 12 v) 11 = N 11 := by rw [nup_ne (by decide), nup_ne (by decide)]
  have e12 : (nup (nup N 0 v) 12 v) 12 = v := by rw [nup_at]
  have e9 : (nup (nup N 0 v) 12 v) 9 = N 9 := by rw [nup_ne (by decide), nup_ne (by decide)]
  have e2 : (nup (nup N 0 v) 12 v) 2 = N 2 := by rw [nup_ne (by decide), nup_ne (by decide)]
  have e5 : (nup (nup N 0 v) 12 v) 5 = N 5 := by rw [nup_ne (by decide), nup_ne (by decide)]
  have e3 : (nup (nup N 0 v) 12 v) 3 = N 3 := by rw [nup_ne (by decide), nup_ne (by decide)]
  have e6 : (nup (nup N 0 v) 12 v) 6 = N 6 := by rw [nup_ne (by decide), nup_ne (by decide)]
  have e14 : (nup (nup N 0 v) 12 v) 14 = N 14 := by rw [nup_ne (by decide), nup_ne (by decide)]
  have e7 : (nup (nup N 0 v) 12 v) 7 = N 7 := by rw [nup_ne (by decide), nup_ne (by decide)]
  have e13 : (nup (nup N 0 v) 12 v) 13 = N 13 := by rw [nup_ne (by decide), nup_ne (by decide)]
  refine ⟨?_, ?_, ?_⟩
  · unfold NR
    rw [e4, e0, e1, e10, e11, e12, e9, e2, e5, e3, e6, e14, e7, e13]
    refine ⟨⟨⟨by omega, by omega⟩, ⟨by omega, by omega⟩, ⟨by omega, by omega⟩, ⟨by omega, by omega⟩, ⟨by omega, by omega⟩, by omega, by omega⟩, ⟨⟨by omega, by omega⟩, ⟨by omega, by omega⟩, ⟨by omega, by omega⟩, ⟨by omega, by omega⟩, ⟨by omega, by omega⟩, ⟨by omega, by omega⟩, ⟨by omega, by omega⟩, by omega, by omega⟩, ?_, ?_, ?_⟩
    · exact fun q h0 h1 => absurd h1 (by omega)
    · exact fun q h0 h1 => absurd h1 (by omega)
    · exact fun q h0 h1 => absurd h1 (by omega)
  · intro s s0 s1
    rw [e2] at s1
    exact absurd s1 (by omega)
  · exact logi_same hg e14 e4 (fun j h1 h2 => eg j (by omega)) b4
theorem gi_last (h : GI N) (hv : 10 ≤ v ∧ v ≤ 99) (he : v_emp N) : GI (nup (nup N 1 v) 10 10) := by
  obtain ⟨hN, hS, hg⟩ := h
  obtain ⟨⟨⟨a0, b0⟩, ⟨a1, b1⟩, ⟨a10, b10⟩, ⟨a11, b11⟩, ⟨a12, b12⟩, a9, b9⟩, ⟨⟨a2, b2⟩, ⟨a5, b5⟩, ⟨a3, b3⟩, ⟨a4, b4⟩, ⟨a6, b6⟩, ⟨a14, b14⟩, ⟨a7, b7⟩, a13, b13⟩, rF, rP, rL⟩ := id hN
  obtain ⟨z2, z5, z3, z4, z6⟩ := v_emp0 hN he
  have eg : ∀ j, 15 ≤ j → (nup (nup N 1 v) 10 10) j = N j := fun j h => by rw [nup_ne (by omega), nup_ne (by omega)]
  have e4 : (nup (nup N 1 v) 10 10) 4 = N 4 := by rw [nup_ne (by decide), nup_ne (by decide)]
  have e0 : (nup (nup N 1 v) 10 10) 0 = N 0 := by rw [nup_ne (by decide), nup_ne (by decide)]
  have e1 : (nup (nup N 1 v) 10 10) 1 = v := by rw [nup_ne (by decide), nup_at]
  have e10 : (nup (nup N 1 v) 10 10) 10 = 10 := by rw [nup_at]
  have e11 : (nup (nup N 1 v) 10 10) 11 = N 11 := by rw [nup_ne (by decide), nup_ne (by decide)]
  have e12 : (nup (nup N 1 v) 10 10) 12 = N 12 := by rw [nup_ne (by decide), nup_ne (by decide)]
  have e9 : (nup (nup N 1 v) 10 10) 9 = N 9 := by rw [nup_ne (by decide), nup_ne (by decide)]
  have e2 : (nup (nup N 1 v) 10 10) 2 = N 2 := by rw [nup_ne (by decide), nup_ne (by decide)]
  have e5 : (nup (nup N 1 v) 10 10) 5 = N 5 := by rw [nup_ne (by decide), nup_ne (by decide)]
  have e3 : (nup (nup N 1 v) 10 10) 3 = N 3 := by rw [nup_ne (by decide), nup_ne (by decide)]
  have e6 : (nup (nup N 1 v) 10 10) 6 = N 6 := by rw [nup_ne (by decide), nup_ne (by decide)]
  have e14 : (nup (nup N 1 v) 10 10) 14 = N 14 := by rw [nup_ne (by decide), nup_ne (by decide)]
  have e7 : (nup (nup N 1 v) 10 10) 7 = N 7 := by rw [nup_ne (by decide), nup_ne (by decide)]
  have e13 : (nup (nup N 1 v) 10 10) 13 = N 13 := by rw [nup_ne (by decide), nup_ne (by decide)]
  refine ⟨?_, ?_, ?_⟩
  · unfold NR
    rw [e4, e0, e1, e10, e11, e12, e9, e2, e5, e3, e6, e14, e7, e13]
    refine ⟨⟨⟨by omega, by omega⟩, ⟨by omega, by omega⟩, ⟨by omega, by omega⟩, ⟨by omega, by omega⟩, ⟨by omega, by omega⟩, by omega, by omega⟩, ⟨⟨by omega, by omega⟩, ⟨by omega, by omega⟩, ⟨by omega, by omega⟩, ⟨by omega, by omega⟩, ⟨by omega, by omega⟩, ⟨by omega, by omega⟩, ⟨by omega, by omega⟩, by omega, by omega⟩, ?_, ?_, ?_⟩
    · exact fun q h0 h1 => absurd h1 (by omega)
    · exact fun q h0 h1 => absurd h1 (by omega)
    · exact fun q h0 h1 => absurd h1 (by omega)
  · intro s s0 s1
    rw [e2] at s1
    exact absurd s1 (by omega)
  · exact logi_same hg e14 e4 (fun j h1 h2 => eg j (by omega)) b4
theorem gi_snow (h : GI N) (hv : 0 ≤ v ∧ v ≤ N 1 - 1) (hw : 0 ≤ w ∧ w ≤ 9) : GI (nup (nup N 10 v) 11 w) := by
  obtain ⟨hN, hS, hg⟩ := h
  obtain ⟨⟨⟨a0, b0⟩, ⟨a1, b1⟩, ⟨a10, b10⟩, ⟨a11, b11⟩, ⟨a12, b12⟩, a9, b9⟩, ⟨⟨a2, b2⟩, ⟨a5, b5⟩, ⟨a3, b3⟩, ⟨a4, b4⟩, ⟨a6, b6⟩, ⟨a14, b14⟩, ⟨a7, b7⟩, a13, b13⟩, rF, rP, rL⟩ := id hN
  have eg : ∀ j, 15 ≤ j → (nup (nup N 10 v) 11 w) j = N j := fun j h => by rw [nup_ne (by omega), nup_ne (by omega)]
  have e4 : (nup (nup N 10 v) 11 w) 4 = N 4 := by rw [nup_ne (by decide), nup_ne (by decide)]
  have e0 : (nup (nup N 10 v) 11 w) 0 = N 0 := by rw [nup_ne (by decide), nup_ne (by decide)]
  have e1 : (nup (nup N 10 v) 11 w) 1 = N 1 := by rw [nup_ne (by decide), nup_ne (by decide)]
  have e10 : (nup (nup N 10 v) 11 w) 10 = v := by rw [nup_ne (by decide), nup_at]
  have e11 : (nup (nup N 10 v) 11 w) 11 = w := by rw [nup_at]
  have e12 : (nup (nup N 10 v) 11 w) 12 = N 12 := by rw [nup_ne (by decide), nup_ne (by decide)]
  have e9 : (nup (nup N 10 v) 11 w) 9 = N 9 := by rw [nup_ne (by decide), nup_ne (by decide)]
  have e2 : (nup (nup N 10 v) 11 w) 2 = N 2 := by rw [nup_ne (by decide), nup_ne (by decide)]
  have e5 : (nup (nup N 10 v) 11 w) 5 = N 5 := by rw [nup_ne (by decide), nup_ne (by decide)]
  have e3 : (nup (nup N 10 v) 11 w) 3 = N 3 := by rw [nup_ne (by decide), nup_ne (by decide)]
  have e6 : (nup (nup N 10 v) 11 w) 6 = N 6 := by rw [nup_ne (by decide), nup_ne (by decide)]
  have e14 : (nup (nup N 10 v) 11 w) 14 = N 14 := by rw [nup_ne (by decide), nup_ne (by decide)]
  have e7 : (nup (nup N 10 v) 11 w) 7 = N 7 := by rw [nup_ne (by decide), nup_ne (by decide)]
  have e13 : (nup (nup N 10 v) 11 w) 13 = N 13 := by rw [nup_ne (by decide), nup_ne (by decide)]
  refine ⟨?_, ?_, ?_⟩
  · unfold NR
    rw [e4, e0, e1, e10, e11, e12, e9, e2, e5, e3, e6, e14, e7, e13]
    refine ⟨⟨⟨by omega, by omega⟩, ⟨by omega, by omega⟩, ⟨by omega, by omega⟩, ⟨by omega, by omega⟩, ⟨by omega, by omega⟩, by omega, by omega⟩, ⟨⟨by omega, by omega⟩, ⟨by omega, by omega⟩, ⟨by omega, by omega⟩, ⟨by omega, by omega⟩, ⟨by omega, by omega⟩, ⟨by omega, by omega⟩, ⟨by omega, by omega⟩, by omega, by omega⟩, ?_, ?_, ?_⟩
    · intro q h0 h1
      rw [eg (71 + (q * 3 + 0)) (by omega), eg (71 + (q * 3 + 1)) (by omega), eg (71 + (q * 3 + 2)) (by omega)]
      exact rF q h0 h1
    · intro q h0 h1
      rw [eg (95 + (q * 3 + 0)) (by omega), eg (95 + (q * 3 + 1)) (by omega), eg (95 + (q * 3 + 2)) (by omega)]
      exact rP q h0 h1
    · intro q h0 h1
      rw [eg (119 + (q * 7 + 0)) (by omega), eg (119 + (q * 7 + 1)) (by omega), eg (119 + (q * 7 + 2)) (by omega), eg (119 + (q * 7 + 3)) (by omega), eg (119 + (q * 7 + 4)) (by omega), eg (119 + (q * 7 + 5)) (by omega), eg (119 + (q * 7 + 6)) (by omega)]
      exact rL q h0 h1
  · exact ns_same hS e0 e2 (fun j h1 h2 => eg j (by omega)) b2 b0
  · exact logi_same hg e14 e4 (fun j h1 h2 => eg j (by omega)) b4
theorem gi_stripe (h : GI N) (hv : 0 ≤ v ∧ v ≤ N 0) : GI (nup N 12 v) := by
  obtain ⟨hN, hS, hg⟩ := h
  obtain ⟨⟨⟨a0, b0⟩, ⟨a1, b1⟩, ⟨a10, b10⟩, ⟨a11, b11⟩, ⟨a12, b12⟩, a9, b9⟩, ⟨⟨a2, b2⟩, ⟨a5, b5⟩, ⟨a3, b3⟩, ⟨a4, b4⟩, ⟨a6, b6⟩, ⟨a14, b14⟩, ⟨a7, b7⟩, a13, b13⟩, rF, rP, rL⟩ := id hN
  have eg : ∀ j, 15 ≤ j → (nup N 12 v) j = N j := fun j h => by rw [nup_ne (by omega)]
  have e4 : (nup N 12 v) 4 = N 4 := by rw [nup_ne (by decide)]
  have e0 : (nup N 12 v) 0 = N 0 := by rw [nup_ne (by decide)]
  have e1 : (nup N 12 v) 1 = N 1 := by rw [nup_ne (by decide)]
  have e10 : (nup N 12 v) 10 = N 10 := by rw [nup_ne (by decide)]
  have e11 : (nup N 12 v) 11 = N 11 := by rw [nup_ne (by decide)]
  have e12 : (nup N 12 v) 12 = v := by rw [nup_at]
  have e9 : (nup N 12 v) 9 = N 9 := by rw [nup_ne (by decide)]
  have e2 : (nup N 12 v) 2 = N 2 := by rw [nup_ne (by decide)]
  have e5 : (nup N 12 v) 5 = N 5 := by rw [nup_ne (by decide)]
  have e3 : (nup N 12 v) 3 = N 3 := by rw [nup_ne (by decide)]
  have e6 : (nup N 12 v) 6 = N 6 := by rw [nup_ne (by decide)]
  have e14 : (nup N 12 v) 14 = N 14 := by rw [nup_ne (by decide)]
  have e7 : (nup N 12 v) 7 = N 7 := by rw [nup_ne (by decide)]
  have e13 : (nup N 12 v) 13 = N 13 := by rw [nup_ne (by decide)]
  refine ⟨?_, ?_, ?_⟩
  · unfold NR
    rw [e4, e0, e1, e10, e11, e12, e9, e2, e5, e3, e6, e14, e7, e13]
    refine ⟨⟨⟨by omega, by omega⟩, ⟨by omega, by omega⟩, ⟨by omega, by omega⟩, ⟨by omega, by omega⟩, ⟨by omega, by omega⟩, by omega, by omega⟩, ⟨⟨by omega, by omega⟩, ⟨by omega, by omega⟩, ⟨by omega, by omega⟩, ⟨by omega, by omega⟩, ⟨by omega, by omega⟩, ⟨by omega, by omega⟩, ⟨by omega, by omega⟩, by omega, by omega⟩, ?_, ?_, ?_⟩
    · intro q h0 h1
      rw [eg (71 + (q * 3 + 0)) (by omega), eg (71 + (q * 3 + 1)) (by omega), eg (71 + (q * 3 + 2)) (by omega)]
      exact rF q h0 h1
    · intro q h0 h1
      rw [eg (95 + (q * 3 + 0)) (by omega), eg (95 + (q * 3 + 1)) (by omega), eg (95 + (q * 3 + 2)) (by omega)]
      exact rP q h0 h1
    · intro q h0 h1
      rw [eg (119 + (q * 7 + 0)) (by omega), eg (119 + (q * 7 + 1)) (by omega), eg (119 + (q * 7 + 2)) (by omega), eg (119 + (q * 7 + 3)) (by omega), eg (119 + (q * 7 + 4)) (by omega), eg (119 + (q * 7 + 5)) (by omega), eg (119 + (q * 7 + 6)) (by omega)]
      exact rL q h0 h1
  · exact ns_same hS e0 e2 (fun j h1 h2 => eg j (by omega)) b2 b0
  · exact logi_same hg e14 e4 (fun j h1 h2 => eg j (by omega)) b4
theorem gi_seed (h : GI N) (hv : 0 ≤ v ∧ v ≤ 9999) : GI (nup N 13 v) := by
  obtain ⟨hN, hS, hg⟩ := h
  obtain ⟨⟨⟨a0, b0⟩, ⟨a1, b1⟩, ⟨a10, b10⟩, ⟨a11, b11⟩, ⟨a12, b12⟩, a9, b9⟩, ⟨⟨a2, b2⟩, ⟨a5, b5⟩, ⟨a3, b3⟩, ⟨a4, b4⟩, ⟨a6, b6⟩, ⟨a14, b14⟩, ⟨a7, b7⟩, a13, b13⟩, rF, rP, rL⟩ := id hN
  have eg : ∀ j, 15 ≤ j → (nup N 13 v) j = N j := fun j h => by rw [nup_ne (by omega)]
  have e4 : (nup N 13 v) 4 = N 4 := by rw [nup_ne (by decide)]
  have e0 : (nup N 13 v) 0 = N 0 := by rw [nup_ne (by decide)]
  have e1 : (nup N 13 v) 1 = N 1 := by rw [nup_ne (by decide)]
  have e10 : (nup N 13 v) 10 = N 10 := by rw [nup_ne (by decide)]
  have e11 : (nup N 13 v) 11 = N 11 := by rw [nup_ne (by decide)]
  have e12 : (nup N 13 v) 12 = N 12 := by rw [nup_ne (by decide)]
  have e9 : (nup N 13 v) 9 = N 9 := by rw [nup_ne (by decide)]
  have e2 : (nup N 13 v) 2 = N 2 := by rw [nup_ne (by decide)]
  have e5 : (nup N 13 v) 5 = N 5 := by rw [nup_ne (by decide)]
  have e3 : (nup N 13 v) 3 = N 3 := by rw [nup_ne (by decide)]
  have e6 : (nup N 13 v) 6 = N 6 := by rw [nup_ne (by decide)]
  have e14 : (nup N 13 v) 14 = N 14 := by rw [nup_ne (by decide)]
  have e7 : (nup N 13 v) 7 = N 7 := by rw [nup_ne (by decide)]
  have e13 : (nup N 13 v) 13 = v := by rw [nup_at]
  refine ⟨?_, ?_, ?_⟩
  · unfold NR
    rw [e4, e0, e1, e10, e11, e12, e9, e2, e5, e3, e6, e14, e7, e13]
    refine ⟨⟨⟨by omega, by omega⟩, ⟨by omega, by omega⟩, ⟨by omega, by omega⟩, ⟨by omega, by omega⟩, ⟨by omega, by omega⟩, by omega, by omega⟩, ⟨⟨by omega, by omega⟩, ⟨by omega, by omega⟩, ⟨by omega, by omega⟩, ⟨by omega, by omega⟩, ⟨by omega, by omega⟩, ⟨by omega, by omega⟩, ⟨by omega, by omega⟩, by omega, by omega⟩, ?_, ?_, ?_⟩
    · intro q h0 h1
      rw [eg (71 + (q * 3 + 0)) (by omega), eg (71 + (q * 3 + 1)) (by omega), eg (71 + (q * 3 + 2)) (by omega)]
      exact rF q h0 h1
    · intro q h0 h1
      rw [eg (95 + (q * 3 + 0)) (by omega), eg (95 + (q * 3 + 1)) (by omega), eg (95 + (q * 3 + 2)) (by omega)]
      exact rP q h0 h1
    · intro q h0 h1
      rw [eg (119 + (q * 7 + 0)) (by omega), eg (119 + (q * 7 + 1)) (by omega), eg (119 + (q * 7 + 2)) (by omega), eg (119 + (q * 7 + 3)) (by omega), eg (119 + (q * 7 + 4)) (by omega), eg (119 + (q * 7 + 5)) (by omega), eg (119 + (q * 7 + 6)) (by omega)]
      exact rL q h0 h1
  · exact ns_same hS e0 e2 (fun j h1 h2 => eg j (by omega)) b2 b0
  · exact logi_same hg e14 e4 (fun j h1 h2 => eg j (by omega)) b4
variable {a r m : Int}
theorem gi_flood (h : GI N) (h8 : ¬ N 5 = 8) (ha : N 9 ≤ a ∧ a ≤ 299) (hr : 0 ≤ r ∧ r ≤ N 1 - 1) (hm : 1 ≤ m ∧ m ≤ 20) : GI (nup (nup (nup (nup N 5 (N 5 + 1)) (71 + (N 5 * 3 + 0)) a) (71 + (N 5 * 3 + 1)) r) (71 + (N 5 * 3 + 2)) m) := by
  obtain ⟨hN, hS, hg⟩ := h
  obtain ⟨⟨⟨a0, b0⟩, ⟨a1, b1⟩, ⟨a10, b10⟩, ⟨a11, b11⟩, ⟨a12, b12⟩, a9, b9⟩, ⟨⟨a2, b2⟩, ⟨a5, b5⟩, ⟨a3, b3⟩, ⟨a4, b4⟩, ⟨a6, b6⟩, ⟨a14, b14⟩, ⟨a7, b7⟩, a13, b13⟩, rF, rP, rL⟩ := id hN
  have eg : ∀ j, 95 ≤ j ∨ (15 ≤ j ∧ j < 71) → (nup (nup (nup (nup N 5 (N 5 + 1)) (71 + (N 5 * 3 + 0)) a) (71 + (N 5 * 3 + 1)) r) (71 + (N 5 * 3 + 2)) m) j = N j := fun j h => by rw [nup_ne (by omega), nup_ne (by omega), nup_ne (by omega), nup_ne (by omega)]
  have eq : ∀ q, 0 ≤ q → q < N 5 → ∀ c, 0 ≤ c ∧ c < 3 → (nup (nup (nup (nup N 5 (N 5 + 1)) (71 + (N 5 * 3 + 0)) a) (71 + (N 5 * 3 + 1)) r) (71 + (N 5 * 3 + 2)) m) (71 + (q * 3 + c)) = N (71 + (q * 3 + c)) := fun q q0 q1 c hc => by rw [nup_ne (by omega), nup_ne (by omega), nup_ne (by omega), nup_ne (by omega)]
  have e4 : (nup (nup (nup (nup N 5 (N 5 + 1)) (71 + (N 5 * 3 + 0)) a) (71 + (N 5 * 3 + 1)) r) (71 + (N 5 * 3 + 2)) m) 4 = N 4 := by rw [nup_ne (by omega), nup_ne (by omega), nup_ne (by omega), nup_ne (by decide)]
  have e0 : (nup (nup (nup (nup N 5 (N 5 + 1)) (71 + (N 5 * 3 + 0)) a) (71 + (N 5 * 3 + 1)) r) (71 + (N 5 * 3 + 2)) m) 0 = N 0 := by rw [nup_ne (by omega), nup_ne (by omega), nup_ne (by omega), nup_ne (by decide)]
  have e1 : (nup (nup (nup (nup N 5 (N 5 + 1)) (71 + (N 5 * 3 + 0)) a) (71 + (N 5 * 3 + 1)) r) (71 + (N 5 * 3 + 2)) m) 1 = N 1 := by rw [nup_ne (by omega), nup_ne (by omega), nup_ne (by omega), nup_ne (by decide)]
  have e10 : (nup (nup (nup (nup N 5 (N 5 + 1)) (71 + (N 5 * 3 + 0)) a) (71 + (N 5 * 3 + 1)) r) (71 + (N 5 * 3 + 2)) m) 10 = N 10 := by rw [nup_ne (by omega), nup_ne (by omega), nup_ne (by omega), nup_ne (by decide)]
  have e11 : (nup (nup (nup (nup N 5 (N 5 + 1)) (71 + (N 5 * 3 + 0)) a) (71 + (N 5 * 3 + 1)) r) (71 + (N 5 * 3 + 2)) m) 11 = N 11 := by rw [nup_ne (by omega), nup_ne (by omega), nup_ne (by omega), nup_ne (by decide)]
  have e12 : (nup (nup (nup (nup N 5 (N 5 + 1)) (71 + (N 5 * 3 + 0)) a) (71 + (N 5 * 3 + 1)) r) (71 + (N 5 * 3 + 2)) m) 12 = N 12 := by rw [nup_ne (by omega), nup_ne (by omega), nup_ne (by omega), nup_ne (by decide)]
  have e9 : (nup (nup (nup (nup N 5 (N 5 + 1)) (71 + (N 5 * 3 + 0)) a) (71 + (N 5 * 3 + 1)) r) (71 + (N 5 * 3 + 2)) m) 9 = N 9 := by rw [nup_ne (by omega), nup_ne (by omega), nup_ne (by omega), nup_ne (by decide)]
  have e2 : (nup (nup (nup (nup N 5 (N 5 + 1)) (71 + (N 5 * 3 + 0)) a) (71 + (N 5 * 3 + 1)) r) (71 + (N 5 * 3 + 2)) m) 2 = N 2 := by rw [nup_ne (by omega), nup_ne (by omega), nup_ne (by omega), nup_ne (by decide)]
  have e5 : (nup (nup (nup (nup N 5 (N 5 + 1)) (71 + (N 5 * 3 + 0)) a) (71 + (N 5 * 3 + 1)) r) (71 + (N 5 * 3 + 2)) m) 5 = N 5 + 1 := by rw [nup_ne (by omega), nup_ne (by omega), nup_ne (by omega), nup_at]
  have e3 : (nup (nup (nup (nup N 5 (N 5 + 1)) (71 + (N 5 * 3 + 0)) a) (71 + (N 5 * 3 + 1)) r) (71 + (N 5 * 3 + 2)) m) 3 = N 3 := by rw [nup_ne (by omega), nup_ne (by omega), nup_ne (by omega), nup_ne (by decide)]
  have e6 : (nup (nup (nup (nup N 5 (N 5 + 1)) (71 + (N 5 * 3 + 0)) a) (71 + (N 5 * 3 + 1)) r) (71 + (N 5 * 3 + 2)) m) 6 = N 6 := by rw [nup_ne (by omega), nup_ne (by omega), nup_ne (by omega), nup_ne (by decide)]
  have e14 : (nup (nup (nup (nup N 5 (N 5 + 1)) (71 + (N 5 * 3 + 0)) a) (71 + (N 5 * 3 + 1)) r) (71 + (N 5 * 3 + 2)) m) 14 = N 14 := by rw [nup_ne (by omega), nup_ne (by omega), nup_ne (by omega), nup_ne (by decide)]
  have e7 : (nup (nup (nup (nup N 5 (N 5 + 1)) (71 + (N 5 * 3 + 0)) a) (71 + (N 5 * 3 + 1)) r) (71 + (N 5 * 3 + 2)) m) 7 = N 7 := by rw [nup_ne (by omega), nup_ne (by omega), nup_ne (by omega), nup_ne (by decide)]
  have e13 : (nup (nup (nup (nup N 5 (N 5 + 1)) (71 + (N 5 * 3 + 0)) a) (71 + (N 5 * 3 + 1)) r) (71 + (N 5 * 3 + 2)) m) 13 = N 13 := by rw [nup_ne (by omega), nup_ne (by omega), nup_ne (by omega), nup_ne (by decide)]
  refine ⟨?_, ?_, ?_⟩
  · unfold NR
    rw [e4, e0, e1, e10, e11, e12, e9, e2, e5, e3, e6, e14, e7, e13]
    refine ⟨⟨⟨by omega, by omega⟩, ⟨by omega, by omega⟩, ⟨by omega, by omega⟩, ⟨by omega, by omega⟩, ⟨by omega, by omega⟩, by omega, by omega⟩, ⟨⟨by omega, by omega⟩, ⟨by omega, by omega⟩, ⟨by omega, by omega⟩, ⟨by omega, by omega⟩, ⟨by omega, by omega⟩, ⟨by omega, by omega⟩, ⟨by omega, by omega⟩, by omega, by omega⟩, ?_, ?_, ?_⟩
    · intro q h0 h1
      by_cases hq : q = N 5
      · subst hq
        rw [show (nup (nup (nup (nup N 5 (N 5 + 1)) (71 + (N 5 * 3 + 0)) a) (71 + (N 5 * 3 + 1)) r) (71 + (N 5 * 3 + 2)) m) (71 + (N 5 * 3 + 0)) = a by rw [nup_ne (by omega), nup_ne (by omega), nup_at], show (nup (nup (nup (nup N 5 (N 5 + 1)) (71 + (N 5 * 3 + 0)) a) (71 + (N 5 * 3 + 1)) r) (71 + (N 5 * 3 + 2)) m) (71 + (N 5 * 3 + 1)) = r by rw [nup_ne (by omega), nup_at], show (nup (nup (nup (nup N 5 (N 5 + 1)) (71 + (N 5 * 3 + 0)) a) (71 + (N 5 * 3 + 1)) r) (71 + (N 5 * 3 + 2)) m) (71 + (N 5 * 3 + 2)) = m by rw [nup_at]]
        exact ⟨⟨by omega, by omega⟩, ⟨by omega, by omega⟩, ⟨by omega, by omega⟩⟩
      · rw [eq q h0 (by omega) 0 (by decide), eq q h0 (by omega) 1 (by decide), eq q h0 (by omega) 2 (by decide)]
        exact rF q h0 (by omega)
    · intro q h0 h1
      rw [eg (95 + (q * 3 + 0)) (by omega), eg (95 + (q * 3 + 1)) (by omega), eg (95 + (q * 3 + 2)) (by omega)]
      exact rP q h0 h1
    · intro q h0 h1
      rw [eg (119 + (q * 7 + 0)) (by omega), eg (119 + (q * 7 + 1)) (by omega), eg (119 + (q * 7 + 2)) (by omega), eg (119 + (q * 7 + 3)) (by omega), eg (119 + (q * 7 + 4)) (by omega), eg (119 + (q * 7 + 5)) (by omega), eg (119 + (q * 7 + 6)) (by omega)]
      exact rL q h0 h1
  · exact ns_same hS e0 e2 (fun j h1 h2 => eg j (by omega)) b2 b0
  · exact logi_same hg e14 e4 (fun j h1 h2 => eg j (by omega)) b4
theorem gi_person (h : GI N) (h8 : ¬ N 3 = 8) (ha : 0 ≤ a ∧ a ≤ N 0 - 1) (hr : 0 ≤ r ∧ r ≤ N 1 - 1) (hw : -1 ≤ w ∧ w ≤ N 0 - 1) : GI (nper N a r w) := by
  obtain ⟨hN, hS, hg⟩ := h
  obtain ⟨⟨⟨a0, b0⟩, ⟨a1, b1⟩, ⟨a10, b10⟩, ⟨a11, b11⟩, ⟨a12, b12⟩, a9, b9⟩, ⟨⟨a2, b2⟩, ⟨a5, b5⟩, ⟨a3, b3⟩, ⟨a4, b4⟩, ⟨a6, b6⟩, ⟨a14, b14⟩, ⟨a7, b7⟩, a13, b13⟩, rF, rP, rL⟩ := id hN
  have eg : ∀ j, 119 ≤ j ∨ (15 ≤ j ∧ j < 95) → (nper N a r w) j = N j := fun j h => by unfold nper; rw [nup_ne (by omega), nup_ne (by omega), nup_ne (by omega), nup_ne (by omega)]
  have eq : ∀ q, 0 ≤ q → q < N 3 → ∀ c, 0 ≤ c ∧ c < 3 → (nper N a r w) (95 + (q * 3 + c)) = N (95 + (q * 3 + c)) := fun q q0 q1 c hc => by unfold nper; rw [nup_ne (by omega), nup_ne (by omega), nup_ne (by omega), nup_ne (by omega)]
  have e4 : (nper N a r w) 4 = N 4 := by unfold nper; rw [nup_ne (by omega), nup_ne (by omega), nup_ne (by omega), nup_ne (by decide)]
  have e0 : (nper N a r w) 0 = N 0 := by unfold nper; rw [nup_ne (by omega), nup_ne (by omega), nup_ne (by omega), nup_ne (by decide)]
  have e1 : (nper N a r w) 1 = N 1 := by unfold nper; rw [nup_ne (by omega), nup_ne (by omega), nup_ne (by omega), nup_ne (by decide)]
  have e10 : (nper N a r w) 10 = N 10 := by unfold nper; rw [nup_ne (by omega), nup_ne (by omega), nup_ne (by omega), nup_ne (by decide)]
  have e11 : (nper N a r w) 11 = N 11 := by unfold nper; rw [nup_ne (by omega), nup_ne (by omega), nup_ne (by omega), nup_ne (by decide)]
  have e12 : (nper N a r w) 12 = N 12 := by unfold nper; rw [nup_ne (by omega), nup_ne (by omega), nup_ne (by omega), nup_ne (by decide)]
  have e9 : (nper N a r w) 9 = N 9 := by unfold nper; rw [nup_ne (by omega), nup_ne (by omega), nup_ne (by omega), nup_ne (by decide)]
  have e2 : (nper N a r w) 2 = N 2 := by unfold nper; rw [nup_ne (by omega), nup_ne (by omega), nup_ne (by omega), nup_ne (by decide)]
  have e5 : (nper N a r w) 5 = N 5 := by unfold nper; rw [nup_ne (by omega), nup_ne (by omega), nup_ne (by omega), nup_ne (by decide)]
  have e3 : (nper N a r w) 3 = N 3 + 1 := by unfold nper; rw [nup_ne (by omega), nup_ne (by omega), nup_ne (by omega), nup_at]
  have e6 : (nper N a r w) 6 = N 6 := by unfold nper; rw [nup_ne (by omega), nup_ne (by omega), nup_ne (by omega), nup_ne (by decide)]
  have e14 : (nper N a r w) 14 = N 14 := by unfold nper; rw [nup_ne (by omega), nup_ne (by omega), nup_ne (by omega), nup_ne (by decide)]
  have e7 : (nper N a r w) 7 = N 7 := by unfold nper; rw [nup_ne (by omega), nup_ne (by omega), nup_ne (by omega), nup_ne (by decide)]
  have e13 : (nper N a r w) 13 = N 13 := by unfold nper; rw [nup_ne (by omega), nup_ne (by omega), nup_ne (by omega), nup_ne (by decide)]
  refine ⟨?_, ?_, ?_⟩
  · unfold NR
    rw [e4, e0, e1, e10, e11, e12, e9, e2, e5, e3, e6, e14, e7, e13]
    refine ⟨⟨⟨by omega, by omega⟩, ⟨by omega, by omega⟩, ⟨by omega, by omega⟩, ⟨by omega, by omega⟩, ⟨by omega, by omega⟩, by omega, by omega⟩, ⟨⟨by omega, by omega⟩, ⟨by omega, by omega⟩, ⟨by omega, by omega⟩, ⟨by omega, by omega⟩, ⟨by omega, by omega⟩, ⟨by omega, by omega⟩, ⟨by omega, by omega⟩, by omega, by omega⟩, ?_, ?_, ?_⟩
    · intro q h0 h1
      rw [eg (71 + (q * 3 + 0)) (by omega), eg (71 + (q * 3 + 1)) (by omega), eg (71 + (q * 3 + 2)) (by omega)]
      exact rF q h0 h1
    · intro q h0 h1
      by_cases hq : q = N 3
      · subst hq
        rw [show (nper N a r w) (95 + (N 3 * 3 + 0)) = a by unfold nper; rw [nup_ne (by omega), nup_ne (by omega), nup_at], show (nper N a r w) (95 + (N 3 * 3 + 1)) = r by unfold nper; rw [nup_ne (by omega), nup_at], show (nper N a r w) (95 + (N 3 * 3 + 2)) = w by unfold nper; rw [nup_at]]
        exact ⟨⟨by omega, by omega⟩, ⟨by omega, by omega⟩, ⟨by omega, by omega⟩⟩
      · rw [eq q h0 (by omega) 0 (by decide), eq q h0 (by omega) 1 (by decide), eq q h0 (by omega) 2 (by decide)]
        exact rP q h0 (by omega)
    · intro q h0 h1
      rw [eg (119 + (q * 7 + 0)) (by omega), eg (119 + (q * 7 + 1)) (by omega), eg (119 + (q * 7 + 2)) (by omega), eg (119 + (q * 7 + 3)) (by omega), eg (119 + (q * 7 + 4)) (by omega), eg (119 + (q * 7 + 5)) (by omega), eg (119 + (q * 7 + 6)) (by omega)]
      obtain ⟨k1, k2, k3, k4, k5, k6, k7, k8⟩ := rL q h0 h1
      exact ⟨⟨k1.1, by omega⟩, ⟨k2.1, by omega⟩, k3, k4, k5, ⟨k6.1, by omega⟩, k7, k8⟩
  · exact ns_same hS e0 e2 (fun j h1 h2 => eg j (by omega)) b2 b0
  · exact logi_same hg e14 e4 (fun j h1 h2 => eg j (by omega)) b4
theorem gi_section (h : GI N) (h8 : ¬ N 2 = 8) (h2 : N2 2 = N 2 + 1) (hrow : N2 (15 + (N 2 * 7 + 0)) = v) (hv : 0 ≤ v ∧ v ≤ 98) (hsp : ∀ j, 15 + (N 2 * 7 + (1 + 0)) ≤ j → j < 15 + (N 2 * 7 + (1 + 0)) + N 0 → 0 ≤ N2 j ∧ N2 j ≤ 20) (ho : ∀ j, ¬ j = 2 → j < 15 + (N 2 * 7 + 0) ∨ 71 ≤ j → N2 j = N j) : GI (N2) := by
  obtain ⟨hN, hS, hg⟩ := h
  obtain ⟨⟨⟨a0, b0⟩, ⟨a1, b1⟩, ⟨a10, b10⟩, ⟨a11, b11⟩, ⟨a12, b12⟩, a9, b9⟩, ⟨⟨a2, b2⟩, ⟨a5, b5⟩, ⟨a3, b3⟩, ⟨a4, b4⟩, ⟨a6, b6⟩, ⟨a14, b14⟩, ⟨a7, b7⟩, a13, b13⟩, rF, rP, rL⟩ := id hN
  have eg : ∀ j, 71 ≤ j → N2 j = N j := fun j h => ho j (by omega) (Or.inr h)
  have eo : ∀ j, 15 ≤ j → j < 15 + (N 2 * 7 + 0) → N2 j = N j := fun j h h9 => ho j (by omega) (Or.inl h9)
  have e4 : (N2) 4 = N 4 := ho _ (by decide) (by omega)
  have e0 : (N2) 0 = N 0 := ho _ (by decide) (by omega)
  have e1 : (N2) 1 = N 1 := ho _ (by decide) (by omega)
  have e10 : (N2) 10 = N 10 := ho _ (by decide) (by omega)
  have e11 : (N2) 11 = N 11 := ho _ (by decide) (by omega)
  have e12 : (N2) 12 = N 12 := ho _ (by decide) (by omega)
  have e9 : (N2) 9 = N 9 := ho _ (by decide) (by omega)
  have e2 : (N2) 2 = N 2 + 1 := h2
  have e5 : (N2) 5 = N 5 := ho _ (by decide) (by omega)
  have e3 : (N2) 3 = N 3 := ho _ (by decide) (by omega)
  have e6 : (N2) 6 = N 6 := ho _ (by decide) (by omega)
  have e14 : (N2) 14 = N 14 := ho _ (by decide) (by omega)
  have e7 : (N2) 7 = N 7 := ho _ (by decide) (by omega)
  have e13 : (N2) 13 = N 13 := ho _ (by decide) (by omega)
  refine ⟨?_, ?_, ?_⟩
  · unfold NR
    rw [e4, e0, e1, e10, e11, e12, e9, e2, e5, e3, e6, e14, e7, e13]
    refine ⟨⟨⟨by omega, by omega⟩, ⟨by omega, by omega⟩, ⟨by omega, by omega⟩, ⟨by omega, by omega⟩, ⟨by omega, by omega⟩, by omega, by omega⟩, ⟨⟨by omega, by omega⟩, ⟨by omega, by omega⟩, ⟨by omega, by omega⟩, ⟨by omega, by omega⟩, ⟨by omega, by omega⟩, ⟨by omega, by omega⟩, ⟨by omega, by omega⟩, by omega, by omega⟩, ?_, ?_, ?_⟩
    · intro q h0 h1
      rw [eg (71 + (q * 3 + 0)) (by omega), eg (71 + (q * 3 + 1)) (by omega), eg (71 + (q * 3 + 2)) (by omega)]
      exact rF q h0 h1
    · intro q h0 h1
      rw [eg (95 + (q * 3 + 0)) (by omega), eg (95 + (q * 3 + 1)) (by omega), eg (95 + (q * 3 + 2)) (by omega)]
      exact rP q h0 h1
    · intro q h0 h1
      rw [eg (119 + (q * 7 + 0)) (by omega), eg (119 + (q * 7 + 1)) (by omega), eg (119 + (q * 7 + 2)) (by omega), eg (119 + (q * 7 + 3)) (by omega), eg (119 + (q * 7 + 4)) (by omega), eg (119 + (q * 7 + 5)) (by omega), eg (119 + (q * 7 + 6)) (by omega)]
      exact rL q h0 h1
  · intro s s0 s1
    rw [e2] at s1
    by_cases hs : s = N 2
    · subst hs
      refine ⟨?_, fun l l0 l1 => ?_⟩
      · rw [show (15 : Int) + 7 * N 2 = 15 + (N 2 * 7 + 0) by omega, hrow]
        exact ⟨by omega, by omega⟩
      · rw [e0] at l1
        rw [show (15 : Int) + 7 * N 2 + 1 + l = 15 + (N 2 * 7 + (1 + 0)) + l by omega]
        exact hsp _ (by omega) (by omega)
    · obtain ⟨k1, k2⟩ := hS s s0 (by omega)
      refine ⟨by rw [eo _ (by omega) (by omega)]; exact k1, fun l l0 l1 => ?_⟩
      rw [e0] at l1
      rw [eo _ (by omega) (by omega)]
      exact k2 l l0 l1
  · exact logi_same hg e14 e4 (fun j h1 h2 => eg j (by omega)) b4
theorem gi_table (h : GI N) (h8 : ¬ N 6 = 6) (h6 : N2 6 = N 6 + 1) (ho : ∀ j, ¬ j = 6 → j < 287 → N2 j = N j) : GI (N2) := by
  obtain ⟨hN, hS, hg⟩ := h
  obtain ⟨⟨⟨a0, b0⟩, ⟨a1, b1⟩, ⟨a10, b10⟩, ⟨a11, b11⟩, ⟨a12, b12⟩, a9, b9⟩, ⟨⟨a2, b2⟩, ⟨a5, b5⟩, ⟨a3, b3⟩, ⟨a4, b4⟩, ⟨a6, b6⟩, ⟨a14, b14⟩, ⟨a7, b7⟩, a13, b13⟩, rF, rP, rL⟩ := id hN
  have eg : ∀ j, 71 ≤ j ∧ j < 287 → N2 j = N j := fun j h => ho j (by omega) h.2
  have e4 : (N2) 4 = N 4 := ho _ (by decide) (by decide)
  have e0 : (N2) 0 = N 0 := ho _ (by decide) (by decide)
  have e1 : (N2) 1 = N 1 := ho _ (by decide) (by decide)
  have e10 : (N2) 10 = N 10 := ho _ (by decide) (by decide)
  have e11 : (N2) 11 = N 11 := ho _ (by decide) (by decide)
  have e12 : (N2) 12 = N 12 := ho _ (by decide) (by decide)
  have e9 : (N2) 9 = N 9 := ho _ (by decide) (by decide)
  have e2 : (N2) 2 = N 2 := ho _ (by decide) (by decide)
  have e5 : (N2) 5 = N 5 := ho _ (by decide) (by decide)
  have e3 : (N2) 3 = N 3 := ho _ (by decide) (by decide)
  have e6 : (N2) 6 = N 6 + 1 := h6
  have e14 : (N2) 14 = N 14 := ho _ (by decide) (by decide)
  have e7 : (N2) 7 = N 7 := ho _ (by decide) (by decide)
  have e13 : (N2) 13 = N 13 := ho _ (by decide) (by decide)
  refine ⟨?_, ?_, ?_⟩
  · unfold NR
    rw [e4, e0, e1, e10, e11, e12, e9, e2, e5, e3, e6, e14, e7, e13]
    refine ⟨⟨⟨by omega, by omega⟩, ⟨by omega, by omega⟩, ⟨by omega, by omega⟩, ⟨by omega, by omega⟩, ⟨by omega, by omega⟩, by omega, by omega⟩, ⟨⟨by omega, by omega⟩, ⟨by omega, by omega⟩, ⟨by omega, by omega⟩, ⟨by omega, by omega⟩, ⟨by omega, by omega⟩, ⟨by omega, by omega⟩, ⟨by omega, by omega⟩, by omega, by omega⟩, ?_, ?_, ?_⟩
    · intro q h0 h1
      rw [eg (71 + (q * 3 + 0)) (by omega), eg (71 + (q * 3 + 1)) (by omega), eg (71 + (q * 3 + 2)) (by omega)]
      exact rF q h0 h1
    · intro q h0 h1
      rw [eg (95 + (q * 3 + 0)) (by omega), eg (95 + (q * 3 + 1)) (by omega), eg (95 + (q * 3 + 2)) (by omega)]
      exact rP q h0 h1
    · intro q h0 h1
      rw [eg (119 + (q * 7 + 0)) (by omega), eg (119 + (q * 7 + 1)) (by omega), eg (119 + (q * 7 + 2)) (by omega), eg (119 + (q * 7 + 3)) (by omega), eg (119 + (q * 7 + 4)) (by omega), eg (119 + (q * 7 + 5)) (by omega), eg (119 + (q * 7 + 6)) (by omega)]
      exact rL q h0 h1
  · exact ns_same hS e0 e2 (fun j h1 h2 => ho j (by omega) (by omega)) b2 b0
  · exact logi_same hg e14 e4 (fun j h1 h2 => ho j (by omega) (by omega)) b4
/-- a LINE keeps what always holds -/
theorem v_line_g (h : GI N) (hb : 0 ≤ b ∧ b ≤ e) (ht : (v_line f e N b).1 = true) : GI (v_line f e N b).2.2 := by
  have hN := h.1
  have hS := h.2.1
  have b0 := hN.1.1
  have b2 := hN.2.1.1
  revert ht
  unfold v_line
  by_cases w_lanes : tx_is f e b wv_lanes
  · rw [tif_t w_lanes]
    unfold v_lanes
    by_cases h1 : v_emp N
    · rw [tif_t h1]
      by_cases h2 : vn f e 1 6 (tx_n f e b)
      · rw [tif_t h2]
        exact fun _ => gi_lanes h h2.2 h1
      · rw [tif_f h2]
        exact fun h => by cases h
    · rw [tif_f h1]
      exact fun h => by cases h
  rw [tif_f w_lanes]
  by_cases w_last : tx_is f e b wv_last
  · rw [tif_t w_last]
    unfold v_last
    by_cases h1 : v_emp N
    · rw [tif_t h1]
      by_cases h2 : vn f e 10 99 (tx_n f e b)
      · rw [tif_t h2]
        exact fun _ => gi_last h h2.2 h1
      · rw [tif_f h2]
        exact fun h => by cases h
    · rw [tif_f h1]
      exact fun h => by cases h
  rw [tif_f w_last]
  by_cases w_section : tx_is f e b wv_section
  · rw [tif_t w_section]
    unfold v_section
    by_cases h1 : N 2 = 8
    · rw [tif_t h1]
      exact fun h => by cases h
    · rw [tif_f h1]
      by_cases h2 : vn f e (if N 2 = 0 then 0 else N (15 + ((N 2 - 1) * 7 + 0)) + 1) (if N 2 = 0 then 0 else N 1 - 1) (tx_n f e b)
      · rw [tif_t h2]
        intro ht
        obtain ⟨s1, s2⟩ := v_sp_w _ _ _ _ ht
        have hv : 0 ≤ tx_v f e 4 (tx_n f e b) ∧ tx_v f e 4 (tx_n f e b) ≤ 98 := by
          obtain ⟨-, k1, k2⟩ := h2
          have b1 := hN.1.2.1
          by_cases hz : N 2 = 0
          · rw [if_pos hz] at k1 k2
            omega
          · rw [if_neg hz] at k1 k2
            have := (hS (N 2 - 1) (by omega) (by omega)).1
            rw [show (15 : Int) + 7 * (N 2 - 1) = 15 + ((N 2 - 1) * 7 + 0) by omega] at this
            omega
        refine gi_section h h1 ?_ ?_ hv (fun j j0 j1 => s2 j j0 (by omega)) (fun j j2 jo => ?_)
        · rw [s1 2 (by omega), nup_ne (by omega), nup_at]
        · rw [s1 _ (by omega), nup_at]
        · rw [s1 j (by omega), nup_ne (by omega), nup_ne j2]
      · rw [tif_f h2]
        exact fun h => by cases h
  rw [tif_f w_section]
  by_cases w_snow : tx_is f e b wv_snow
  · rw [tif_t w_snow]
    unfold v_snow
    by_cases h1 : vn f e 0 (N 1 - 1) (tx_n f e b)
    · rw [tif_t h1]
      by_cases h2 : tx_is f e (tx_n f e (tx_n f e b)) wv_fall
      · rw [tif_t h2]
        by_cases h3 : vn f e 0 9 (tx_n f e (tx_n f e (tx_n f e b)))
        · rw [tif_t h3]
          exact fun _ => gi_snow h h1.2 h3.2
        · rw [tif_f h3]
          exact fun h => by cases h
      · rw [tif_f h2]
        exact fun h => by cases h
    · rw [tif_f h1]
      exact fun h => by cases h
  rw [tif_f w_snow]
  by_cases w_stripe : tx_is f e b wv_stripe
  · rw [tif_t w_stripe]
    unfold v_stripe
    by_cases h1 : vn f e 0 (N 0) (tx_n f e b)
    · rw [tif_t h1]
      exact fun _ => gi_stripe h h1.2
    · rw [tif_f h1]
      exact fun h => by cases h
  rw [tif_f w_stripe]
  by_cases w_seed : tx_is f e b wv_seed
  · rw [tif_t w_seed]
    unfold v_seed
    by_cases h1 : vn f e 0 9999 (tx_n f e b)
    · rw [tif_t h1]
      exact fun _ => gi_seed h h1.2
    · rw [tif_f h1]
      exact fun h => by cases h
  rw [tif_f w_seed]
  by_cases w_flood : tx_is f e b wv_flood
  · rw [tif_t w_flood]
    unfold v_flood
    by_cases h1 : N 5 = 8
    · rw [tif_t h1]
      exact fun h => by cases h
    · rw [tif_f h1]
      by_cases h2 : vn f e (N 9) 299 (tx_n f e b)
      · rw [tif_t h2]
        by_cases h3 : vn f e 0 (N 1 - 1) (tx_n f e (tx_n f e b))
        · rw [tif_t h3]
          by_cases h4 : vn f e 1 20 (tx_n f e (tx_n f e (tx_n f e b)))
          · rw [tif_t h4]
            exact fun _ => gi_flood h h1 h2.2 h3.2 h4.2
          · rw [tif_f h4]
            exact fun h => by cases h
        · rw [tif_f h3]
          exact fun h => by cases h
      · rw [tif_f h2]
        exact fun h => by cases h
  rw [tif_f w_flood]
  by_cases w_person : tx_is f e b wv_person
  · rw [tif_t w_person]
    unfold v_person
    by_cases h1 : N 3 = 8
    · rw [tif_t h1]
      exact fun h => by cases h
    · rw [tif_f h1]
      by_cases h2 : vn f e 0 (N 0 - 1) (tx_n f e b)
      · rw [tif_t h2]
        by_cases h3 : vn f e 0 (N 1 - 1) (tx_n f e (tx_n f e b))
        · rw [tif_t h3]
          by_cases h4 : tx_is f e (tx_n f e (tx_n f e (tx_n f e b))) wv_watch
          · rw [tif_t h4]
            by_cases h5 : vn f e 0 (N 0 - 1) (tx_n f e (tx_n f e (tx_n f e (tx_n f e b))))
            · rw [tif_t h5]
              exact fun _ => gi_person h h1 h2.2 h3.2 ⟨by have := h5.2.1; omega, h5.2.2⟩
            · rw [tif_f h5]
              exact fun h => by cases h
          · rw [tif_f h4]
            exact fun _ => gi_person h h1 h2.2 h3.2 ⟨by omega, by omega⟩
        · rw [tif_f h3]
          exact fun h => by cases h
      · rw [tif_f h2]
        exact fun h => by cases h
  rw [tif_f w_person]
  by_cases w_rock : tx_is f e b wv_rock
  · rw [tif_t w_rock]
    unfold v_rock
    by_cases h1 : N 4 = 24
    · rw [tif_t h1]
      exact fun h => by cases h
    · rw [tif_f h1]
      by_cases h2 : vn f e 0 (N 0 - 1) (tx_n f e b)
      · rw [tif_t h2]
        by_cases h3 : vn f e 0 (N 1 - 1) (tx_n f e (tx_n f e b))
        · rw [tif_t h3]
          have b4 := hN.2.1.2.2.2.1
          have b3 := hN.2.1.2.2.1
          have k2 := h2.2
          have k3 := h3.2
          exact fun _ => gi_nthr h (by omega) ⟨by omega, by omega⟩ ⟨by omega, by omega⟩ ⟨by omega, by omega⟩ ⟨by omega, by omega⟩ (fun h => by omega)
        · rw [tif_f h3]
          exact fun h => by cases h
      · rw [tif_f h2]
        exact fun h => by cases h
  rw [tif_f w_rock]
  by_cases w_table : tx_is f e b wv_table
  · rw [tif_t w_table]
    unfold v_table
    by_cases h1 : N 6 = 6
    · rw [tif_t h1]
      exact fun h => by cases h
    · rw [tif_f h1]
      intro ht
      obtain ⟨s1, s2⟩ := v_sp_w _ _ _ _ ht
      have b6 := hN.2.1.2.2.2.2.1
      refine gi_table h h1 ?_ (fun j j6 jo => ?_)
      · rw [s1 6 (by omega), nup_at]
      · rw [s1 j (by omega), nup_ne j6]
  rw [tif_f w_table]
  exact fun h => by cases h
theorem v_txt_g : ∀ (t : Nat) (N : Int → Int) (b : Int), GI N → 0 ≤ b ∧ b ≤ e → (v_txt f e t N b).1 = true → GI (v_txt f e t N b).2.2 := by
  intro t
  induction t with
  | zero => exact fun N b _ _ h => by cases h
  | succ t ih =>
    intro N b h hb ht
    have q := v_line_b (f := f) (N := N) hb
    by_cases h1 : (v_line f e N b).1 = true
    · by_cases h2 : tx_k f e (v_line f e N b).2.1 = 256
      · rw [show v_txt f e (t + 1) N b = v_line f e N b by show tif _ _ _ = _; rw [tif_t h1, tif_t h2]]
        exact v_line_g h hb h1
      · by_cases h3 : tx_k f e (v_line f e N b).2.1 = 59
        · rw [show v_txt f e (t + 1) N b = v_txt f e t (v_line f e N b).2.2 (tx_n f e (v_line f e N b).2.1) by show tif _ _ _ = _; rw [tif_t h1, tif_f h2, tif_t h3]] at ht ⊢
          have n1 := tx_nb (f := f) q.2
          exact ih _ _ (v_line_g h hb h1) ⟨by omega, n1.2.1⟩ ht
        · rw [show v_txt f e (t + 1) N b = (false, (v_line f e N b).2.1, N) by show tif _ _ _ = _; rw [tif_t h1, tif_f h2, tif_f h3]] at ht
          cases ht
    · rw [show v_txt f e (t + 1) N b = (false, (v_line f e N b).2.1, N) from tif_f h1] at ht
      cases ht
theorem v_val_g (h : GI N) (he : 0 ≤ e) (ht : (v_val f e N).1 = true) : GI (v_val f e N).2.2 := by
  obtain ⟨g1, g2, -⟩ := tx_gb (f := f) he
  by_cases h1 : tx_k f e (tx_g f e 0) = 256
  · rw [show v_val f e N = (true, tx_g f e 0, N) from tif_t h1]
    exact h
  · rw [show v_val f e N = v_txt f e 14 N (tx_g f e 0) from tif_f h1] at ht ⊢
    exact v_txt_g _ _ _ h ⟨g1, g2⟩ ht
end VG
