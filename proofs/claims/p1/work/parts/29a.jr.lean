/-! BOXES whose first number is between two bounds: calls with many boxes are walked in pieces. -/
def ck_covR : Int → Int → List (Int × Int) → Bool
  | lo, hi, [] => decide (hi < lo)
  | lo, hi, iv :: r => decide (iv.1 = lo) && ck_covR (iv.2 + 1) hi r
section JR
variable {O : gm_Or} {X : Int → Int} {LX : Nat} {E : List (Nat × List ck_Sum)} {mi d n0 : Nat} {W : List (Nat × Int × Int) × List (Nat × Int)} {outs : List ck_Oc} {bc bs pc : Nat} {L : gm_L} {K : gm_K} {R : gm_R} {M : gm_M} {AL : ck_AL} {F : ck_F} {σ : Nat → Int} {K0 : gm_K} {R0 : gm_R} {M0 : gm_M}
theorem ck_covR_s {x hi : Int} : ∀ {l : List (Int × Int)} {lo : Int}, ck_covR lo hi l = true → lo ≤ x → x ≤ hi → ∃ iv ∈ l, iv.1 ≤ x ∧ x ≤ iv.2 := by
  intro l
  induction l with
  | nil => intro lo h h1 h2; have := of_decide_eq_true h; omega
  | cons iv r ih =>
    intro lo h h1 h2
    simp only [ck_covR, Bool.and_eq_true, decide_eq_true_eq] at h
    by_cases hx : x ≤ iv.2
    · exact ⟨iv, List.mem_cons_self, by omega, hx⟩
    · obtain ⟨q, hq, h3⟩ := ih h.2 (by omega) h2
      exact ⟨q, List.mem_cons_of_mem _ hq, h3⟩
theorem ck_boxesR {j lo hi : Int} {l : List (Int × Int)} {rest : List (Int × List (Int × Int))} {f lx : Nat} (hE : ck_OkE O X LX E) (hLX : lx = LX) (hX : ∀ j, gm_ir (X j)) (h1 : lo ≤ X j) (h2 : X j ≤ hi) (hc : ck_covR lo hi l = true) (hr : rest.all (fun q => ck_cov (-2147483648) q.2) = true) (hb : (ck_prod ((j, l) :: rest)).all (fun xf => ck_go O (some lx) xf E mi d n0 W outs [] f false [] bc bs pc AL [] n0 F) = true) (hS : ck_St O σ W n0 K0 R0 M0 AL [] F L [] n0 K R M) : gm_Wp X LX d bc bs mi pc L [] n0 K R M (ck_Q O σ W n0 K0 R0 M0 outs) := by
  obtain ⟨iv, hv, g1, g2⟩ := ck_covR_s hc h1 h2
  obtain ⟨xf, hm, hx⟩ := ck_prod_s hX hr
  have hm2 : ((j, j, (iv.1, iv.2, none)) :: xf) ∈ ck_prod ((j, l) :: rest) := List.mem_flatMap.mpr ⟨iv, hv, List.mem_map.mpr ⟨xf, hm, rfl⟩⟩
  refine ck_go_s (σ0 := σ) (cuts := []) hE (fun σ z hz i h3 h4 => ?_) (fun l e => by cases e; exact hLX) f false [] bc bs pc AL [] n0 F σ L [] K R M (fun _ _ => rfl) (fun _ h => nomatch h) hS (List.all_eq_true.mp hb _ hm2)
  rcases List.mem_cons.mp hz with rfl | hz
  · have h3 : j ≤ i := h3
    have h4 : i ≤ j := h4
    obtain rfl : i = j := by omega
    exact ⟨hX _, g1, g2, fun _ h => nomatch h⟩
  · exact hx σ z hz i h3 h4
end JR
