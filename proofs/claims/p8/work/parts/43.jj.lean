/-! COPIES between the world, the image, what was ahead and what is remembered: what is said of memory stays. -/
theorem gm_cpy_f {M : gm_M} {A B c : Nat} {a b i : Int} (h : ¬ c = A) : gm_cpy M A B a b i c = M c := funext fun _ => gm_cpy_ne h
theorem gm_cpy_at {M : gm_M} {A B : Nat} {a b i j x : Int} (h : a ≤ j ∧ j < a + i) (e : j - a + b = x) : gm_cpy M A B a b i A j = M B x := by
  rw [gm_cpy_in h, e]
section JJ
variable {t : List (Int × Int × Int × Int)} {K : gm_K} {M : gm_M}
theorem jj_image (h : j_J t K M) : j_J t K (gm_cpy M 228 227 0 0 1244) := by
  unfold j_J at h ⊢
  rw [gm_cpy_f (by decide : ¬ 227 = 228), gm_cpy_f (by decide : ¬ 229 = 228), gm_cpy_f (by decide : ¬ 230 = 228)]
  exact j_image h fun j h1 h2 => gm_cpy_at ⟨h1, by omega⟩ (by omega)
theorem jj_before (h : j_J t K M) : j_J t K (gm_cpy M 229 227 0 0 1244) := by
  unfold j_J at h ⊢
  rw [gm_cpy_f (by decide : ¬ 227 = 229), gm_cpy_f (by decide : ¬ 228 = 229), gm_cpy_f (by decide : ¬ 230 = 229)]
  exact j_before h fun j h1 h2 => gm_cpy_at ⟨h1, by omega⟩ (by omega)
theorem jj_back (h : j_J t K M) : j_J t K (gm_cpy M 227 228 0 0 1244) := by
  unfold j_J at h ⊢
  rw [gm_cpy_f (by decide : ¬ 228 = 227), gm_cpy_f (by decide : ¬ 229 = 227), gm_cpy_f (by decide : ¬ 230 = 227)]
  exact j_back h fun j h1 h2 => gm_cpy_at ⟨h1, by omega⟩ (by omega)
theorem jj_again (h : j_J t K M) : j_J t K (gm_cpy M 227 229 0 0 1244) := by
  unfold j_J at h ⊢
  rw [gm_cpy_f (by decide : ¬ 228 = 227), gm_cpy_f (by decide : ¬ 229 = 227), gm_cpy_f (by decide : ¬ 230 = 227)]
  exact j_again h fun j h1 h2 => gm_cpy_at ⟨h1, by omega⟩ (by omega)
theorem jj_undo {y : Int} (h : j_J t K M) (hy : 0 ≤ y ∧ y < 12) : j_J t K (gm_cpy M 227 230 0 (395 * y) 395) := by
  unfold j_J at h ⊢
  rw [gm_cpy_f (by decide : ¬ 228 = 227), gm_cpy_f (by decide : ¬ 229 = 227), gm_cpy_f (by decide : ¬ 230 = 227)]
  exact j_undo h hy (fun j h1 h2 => gm_cpy_at ⟨h1, by omega⟩ (by omega)) fun j h1 h2 => gm_cpy_out (by omega)
theorem jj_shift (h : j_J t K M) : j_J t K (gm_cpy M 230 230 0 395 4345) := by
  unfold j_J at h ⊢
  rw [gm_cpy_f (by decide : ¬ 227 = 230), gm_cpy_f (by decide : ¬ 228 = 230), gm_cpy_f (by decide : ¬ 229 = 230)]
  exact j_shift h (fun j h1 h2 => gm_cpy_at ⟨h1, by omega⟩ (by omega)) fun j h1 h2 => gm_cpy_out (by omega)
theorem jj_store {y : Int} (h : j_J t K M) (hy : 0 ≤ y) (ht : ∀ r ∈ t, ∀ j, r.1 ≤ j → j ≤ r.2.1 → 0 ≤ j → j < 395 → (-2147483648 ≤ M 227 j ∧ M 227 j < 2147483648) ∧ r.2.2.1 ≤ M 227 j ∧ M 227 j ≤ r.2.2.2) : j_J t K (gm_cpy M 230 227 (395 * y) 0 395) := by
  unfold j_J at h ⊢
  rw [gm_cpy_f (by decide : ¬ 227 = 230), gm_cpy_f (by decide : ¬ 228 = 230), gm_cpy_f (by decide : ¬ 229 = 230)]
  exact j_store (y0 := y) h ht (fun j h1 h2 => gm_cpy_at (a := 395 * y) (b := 0) (i := 395) (j := 395 * y + j) (x := j) ⟨by omega, by omega⟩ (by omega)) fun j h1 => gm_cpy_out (by omega)
end JJ
/-! the reference's own rows -/
theorem md_o : (p2_O.1 226 = some (15, 0) ∧ p2_O.1 227 = some (0, 2093)) ∧ (p2_O.1 228 = some (0, 1244) ∧ p2_O.1 229 = some (0, 1244)) ∧ p2_O.1 230 = some (0, 4740) := by decide +kernel
theorem md_r : (p2_O.2.1 226 ((1 : Nat) : Int) = some 227 ∧ p2_O.2.1 226 ((2 : Nat) : Int) = some 228) ∧ (p2_O.2.1 226 ((3 : Nat) : Int) = some 229 ∧ p2_O.2.1 226 ((4 : Nat) : Int) = some 230) := by decide +kernel
theorem md_t1 : (p2_O.2.2.ty 227).all (fun r => decide (395 ≤ r.1) || decide (r ∈ p2_ty)) = true := by decide +kernel
theorem md_t2 : p2_ty.all (fun r => decide (r ∈ p2_O.2.2.ty 227)) = true := by decide +kernel
section MD
variable {n : Nat} {K : gm_K} {R : gm_R} {M : gm_M}
theorem md_mo (hF : gm_Fx p2_O n K R M) : (1 ≤ 226 ∧ 226 ≤ n) ∧ (K 226).1 = 11 + 4 := by
  obtain ⟨h1, h2, h3⟩ := hF.1 226 _ md_o.1.1
  exact ⟨⟨h1, h2⟩, by rw [h3]⟩
theorem md_kd {k len : Nat} (hF : gm_Fx p2_O n K R M) (h : p2_O.1 k = some (0, len)) : ((1 ≤ k ∧ k ≤ n) ∧ (K k).1 = 0) ∧ (K k).2 = len := by
  obtain ⟨h1, h2, h3⟩ := hF.1 k _ h
  exact ⟨⟨⟨h1, h2⟩, by rw [h3]⟩, by rw [h3]⟩
theorem md_rf {k : Nat} {j : Nat} (hF : gm_Fx p2_O n K R M) (h : p2_O.2.1 226 (j : Int) = some k) : R 226 (j : Int) = k := (hF.2.1 226 _ _ h).2
theorem md_ty (hF : gm_Fx p2_O n K R M) : ∀ r ∈ p2_ty, ∀ j, r.1 ≤ j → j ≤ r.2.1 → 0 ≤ j → j < 395 → (-2147483648 ≤ M 227 j ∧ M 227 j < 2147483648) ∧ r.2.2.1 ≤ M 227 j ∧ M 227 j ≤ r.2.2.2 := by
  intro r hr j h1 h2 _ _
  exact (hF.2.2.1 227 r (of_decide_eq_true (List.all_eq_true.mp md_t2 r hr))).2 j h1 h2
/-- what comes back from what is remembered keeps the types -/
theorem md_un {y : Int} (hF : gm_Fx p2_O n K R M) (hy : 0 ≤ y ∧ y < 12) : ∀ r ∈ p2_O.2.2.ty 227, ∀ j, r.1 ≤ j → j ≤ r.2.1 → 0 ≤ j → j < 0 + 395 → (-2147483648 ≤ M 230 (j - 0 + 395 * y) ∧ M 230 (j - 0 + 395 * y) < 2147483648) ∧ r.2.2.1 ≤ M 230 (j - 0 + 395 * y) ∧ M 230 (j - 0 + 395 * y) ≤ r.2.2.2 := by
  intro r hr j h1 h2 h3 h4
  have h5 := List.all_eq_true.mp md_t1 r hr
  rw [Bool.or_eq_true, decide_eq_true_eq, decide_eq_true_eq] at h5
  rcases h5 with h5 | h5
  · omega
  · rw [show j - 0 + 395 * y = 395 * y + j by omega]
    have hJ : j_J p2_ty K M := hF.2.2.2.2
    exact hJ.2.1 y hy.1 hy.2 r h5 j h1 h2 h3 (by omega)
end MD
