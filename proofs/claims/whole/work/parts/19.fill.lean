/-! ARRAYS' fill: a loop. -/
section GF
variable {X : Int → Int} {LX d bc bs : Nat} {n : Nat} {K : gm_K} {R : gm_R} {M : gm_M} {Q Q' : gm_Q}
theorem gm_F0 : gm_Fx gm_O0 n K R M := ⟨fun _ _ h => (nomatch h), fun _ _ _ h => (nomatch h), fun _ _ _ h => (nomatch h)⟩
/-- what was shown with nothing fixed holds with O fixed, where its end keeps O -/
theorem gm_upO {O : gm_Or} {mi pc : Nat} {L : gm_L} {st : List gm_V} (hQ : ∀ o n K R M, Q o n K R M → gm_Fx O n K R M) (h : gm_Wp X LX d bc bs mi pc L st n K R M (gm_Q2 gm_O0 Q)) : gm_Wp X LX d bc bs mi pc L st n K R M (gm_Q2 O Q) := gm_Wp_mono (fun o n K R M hq => ⟨hQ o n K R M hq.2, hq.2⟩) h
/-- the row k filled with x up to i -/
def gm_fM (M : gm_M) (k : Nat) (i x : Int) : gm_M := fun a b => if a = k ∧ 0 ≤ b ∧ b < i then x else M a b
theorem gm_fM_0 {k : Nat} {x : Int} : gm_fM M k 0 x = M := by
  funext a b
  unfold gm_fM
  rw [if_neg (by omega)]
theorem gm_fM_s {k : Nat} {i x : Int} (h : 0 ≤ i) : gm_uM (gm_fM M k i x) k i x = gm_fM M k (i + 1) x := by
  funext a b
  unfold gm_uM gm_fM
  by_cases e : a = k ∧ b = i
  · rw [if_pos e, if_pos ⟨e.1, by omega, by omega⟩]
  · rw [if_neg e]
    by_cases e2 : a = k ∧ 0 ≤ b ∧ b < i
    · rw [if_pos e2, if_pos ⟨e2.1, by omega, by omega⟩]
    · rw [if_neg e2, if_neg (by intro h9; apply e2; refine ⟨h9.1, h9.2.1, ?_⟩; have : ¬ b = i := fun h => e ⟨h9.1, h⟩; omega)]
theorem gm_m8l {k : Nat} {x : Int} (h1 : 1 ≤ k ∧ k ≤ n ∧ (K k).1 = 0) (hl : ((K k).2 : Int) < 2147483648) (hq : Q (.inl none) n K R (gm_fM M k (K k).2 x)) : ∀ (j : Nat) (i : Int), 0 ≤ i → i + j = (K k).2 → gm_Wp X LX d bc bs 8 5 [some (gm_vr k), some (gm_vi x), some (gm_vi i), some (gm_vi (K k).2)] [] n K R (gm_fM M k i x) (gm_Q2 gm_O0 Q) := by
  intro j
  induction j with
  | zero =>
    intro i h0 hi
    refine gm_wx_s (cuts := [(5, [true, true, true, true])]) rfl gm_E0 gm_P0 20 true bc bs 5 _ _ _ _ _ _ gm_F0 ?_
    refine And.intro ⟨⟨by omega, by omega⟩, ⟨by omega, by omega⟩⟩ (And.intro (fun _ => ?_) (fun h => absurd (show ((K k).2 : Int) ≤ i by omega) h))
    show Q (.inl none) n K R (gm_fM M k i x)
    have e : i = (K k).2 := by omega
    rw [e]
    exact hq
  | succ j ih =>
    intro i h0 hi
    refine gm_wx_s (cuts := [(5, [true, true, true, true])]) rfl gm_E0 gm_P0 20 true bc bs 5 _ _ _ _ _ _ gm_F0 ?_
    refine And.intro ⟨⟨by omega, by omega⟩, ⟨by omega, by omega⟩⟩ (And.intro (fun h => absurd h (show ¬ ((K k).2 : Int) ≤ i by omega)) (fun _ => ?_))
    refine And.intro h1 (And.intro ⟨h0, show i < (K k).2 by omega, by omega, by omega⟩ ?_)
    refine fun _ => ?_
    have h9 := ih (i + 1) (by omega) (by omega)
    rw [← gm_fM_s h0] at h9
    exact h9
theorem gm_m8 {k : Nat} {x : Int} (h1 : 1 ≤ k ∧ k ≤ n ∧ (K k).1 = 0) (hl : ((K k).2 : Int) < 2147483648) (hq : Q (.inl none) n K R (gm_fM M k (K k).2 x)) : gm_Wp X LX d bc bs 8 0 (gm_ent 8 [gm_vr k, gm_vi x]) [] n K R M (gm_Q2 gm_O0 Q) := by
  refine gm_wx_s (cuts := [(5, [true, true, true, true])]) rfl gm_E0 gm_P0 20 true bc bs 0 _ _ _ _ _ _ gm_F0 ?_
  refine And.intro ⟨h1.1, h1.2.1, by rw [h1.2.2]; omega⟩ ?_
  refine fun _ => ?_
  have h9 := gm_m8l (X := X) (LX := LX) (d := d) (bc := bc) (bs := bs) (Q := Q) h1 hl hq (K k).2 0 (by omega) (by omega)
  rw [gm_fM_0] at h9
  exact h9
end GF
