/-! A ROW COPIED by System.arraycopy. -/
section GA2
variable {X : Int → Int} {LX d bc bs mi pc : Nat} {L : gm_L} {st : List gm_V} {n : Nat} {K : gm_K} {R : gm_R} {M : gm_M} {Q : gm_Q}
/-- m numbers of the row k1 from sp on, copied into the row k2 from dp on -/
def gm_cpM (M : gm_M) (k1 k2 : Nat) (sp dp m : Int) : gm_M := fun a b => if a = k2 ∧ dp ≤ b ∧ b < dp + m then M k1 (sp + (b - dp)) else M a b
theorem gm_cpM_ne {k1 k2 k : Nat} {sp dp m : Int} (h : k ≠ k2) (ti : Nat → ClassId) (α : Nat → Nat) : gm_en ti α K R (gm_cpM M k1 k2 sp dp m) k = gm_en ti α K R M k := by
  have e : gm_cpM M k1 k2 sp dp m k = M k := by
    funext b
    unfold gm_cpM
    rw [if_neg (fun q => h q.1)]
  unfold gm_en gm_fs
  rw [e]
theorem gm_p_acopy {ix k1 k2 : Nat} {sp dp m : Int} (h : gm_at mi pc = some (.invokestatic ix)) (ha : gm_ac (gm_ow mi) ix = true) (hk1 : 1 ≤ k1 ∧ k1 ≤ n) (hK1 : (K k1).1 = 0) (hk2 : 1 ≤ k2 ∧ k2 ≤ n) (hK2 : (K k2).1 = 0) (i1 : gm_w sp = sp) (i2 : gm_w dp = dp) (i3 : gm_w m = m) (h1 : 0 ≤ sp) (h2 : 0 ≤ dp) (h3 : 0 ≤ m) (h4 : sp + m ≤ (K k1).2) (h5 : dp + m ≤ (K k2).2) (hst : (st.map gm_cat).sum ≤ 8) (hd' : 1 ≤ d) : gm_Sp X LX d mi pc L (gm_vi m :: gm_vi dp :: gm_vr k2 :: gm_vi sp :: gm_vr k1 :: st) n K R M (pc + 3) L st n K R (gm_cpM M k1 k2 sp dp m) 0 0 := by
  intro p l e Rm s me args below meth c D ti adK adV A hcx hev hd hd2 hA α H locs cells slots ls sv Q' hc1 hc2 hR hL hS kk
  obtain ⟨w3, sv, rfl, g3, hS⟩ := hS
  obtain ⟨w2, sv, rfl, g2, hS⟩ := hS
  obtain ⟨wb, sv, rfl, ⟨rfl, -⟩, hS⟩ := hS
  obtain ⟨w1, sv, rfl, g1, hS⟩ := hS
  obtain ⟨wa, sv, rfl, ⟨rfl, -⟩, hS⟩ := hS
  cases g1; cases g2; cases g3
  have hdg := gm_dec hcx h rfl
  obtain ⟨hx, hb, hml, hown, -, -, hts, -⟩ := _root_.id hcx
  obtain ⟨hKn, hP, hD, hSv, hRv⟩ := _root_.id hR
  obtain ⟨q, hq⟩ := Option.isSome_iff_exists.mp ha
  have h9 := List.all_eq_true.mp gm_acl_ok _ (gm_lookup2 _ _ _ hq)
  simp only [decide_eq_true_eq] at h9
  have he1 := gm_wl_at (ti := ti) (α := α) (K := K) (R := R) (M := M) hk1.1 hk1.2
  have he2 := gm_wl_at (ti := ti) (α := α) (K := K) (R := R) (M := M) hk2.1 hk2.2
  have e1 : gm_en ti α K R M k1 = .inl (ti 0, (K k1).2, .inl fun j => Int32.ofInt (M k1 j)) := by unfold gm_en; rw [hK1]
  have e2 : ∀ M : gm_M, gm_en ti α K R M k2 = .inl (ti 0, (K k2).2, .inl fun j => Int32.ofInt (M k2 j)) := by intro M; unfold gm_en; rw [hK2]
  rw [e1] at he1
  rw [e2] at he2
  rw [gm_rf_pos hk1.1 (Nat.lt_of_le_of_lt hk1.2 hRv.1), gm_rf_pos hk2.1 (Nat.lt_of_le_of_lt hk2.2 hRv.1)]
  have n1 : ((Int32.ofInt sp).toNatClampNeg : Int) = sp := by rw [gm_cl, i1]; omega
  have n2 : ((Int32.ofInt dp).toNatClampNeg : Int) = dp := by rw [gm_cl, i2]; omega
  have n3 : ((Int32.ofInt m).toNatClampNeg : Int) = m := by rw [gm_cl, i3]; omega
  have lt0 : ∀ z : Int, gm_w z = z → 0 ≤ z → ¬ Int32.ofInt z < 0 := by
    intro z hz hz0 hlt
    have h8 : Int32.ofInt z < Int32.ofInt 0 := hlt
    rw [gm_lt, hz] at h8
    have : gm_w 0 = 0 := by decide
    omega
  have hnf : nativeFrameWords "java/lang/System" "arraycopy" 5 ≤ 200 := by decide +kernel
  have hsum : (sv.map fun v => v.category).sum ≤ 8 := by rw [gm_sum_eq hS]; exact hst
  refine va_copyi hx hb (by rw [hml]; exact hL.2.choose_spec.1.1.symm) hown (hts _ (gm_T_in h9 rfl)) (hts _ gm_ac1) (hts _ gm_ac2) (hts _ gm_ac3) hKn hP hD hSv (k1 - 1) (k2 - 1) 0 0 he1 he2 rfl rfl rfl (lt0 _ i1 h1) (lt0 _ i2 h2) (lt0 _ i3 h3) (by omega) (by omega) (fun _ _ => rfl) (by omega) (by omega) hdg fun H1 locs1 p1 p2 p3 => ?_
  have e3 : (va_cpy (fun j : Nat => Int32.ofInt (M k1 j)) (fun j : Nat => Int32.ofInt (M k2 j)) (Int32.ofInt sp).toNatClampNeg (Int32.ofInt dp).toNatClampNeg (Int32.ofInt m).toNatClampNeg) = fun j : Nat => Int32.ofInt (gm_cpM M k1 k2 sp dp m k2 j) := by
    funext j
    unfold va_cpy gm_cpM
    by_cases e : (Int32.ofInt dp).toNatClampNeg ≤ j ∧ j < (Int32.ofInt dp).toNatClampNeg + (Int32.ofInt m).toNatClampNeg
    · rw [if_pos e, if_pos ⟨rfl, by omega, by omega⟩]
      have e5 : (((Int32.ofInt sp).toNatClampNeg + (j - (Int32.ofInt dp).toNatClampNeg) : Nat) : Int) = sp + ((j : Int) - dp) := by omega
      show Int32.ofInt (M k1 (((Int32.ofInt sp).toNatClampNeg + (j - (Int32.ofInt dp).toNatClampNeg) : Nat) : Int)) = _
      rw [e5]
    · rw [if_neg e, if_neg (fun q => e ⟨by omega, by omega⟩)]
  rw [e3, gm_wl_set (M' := gm_cpM M k1 k2 sp dp m) (R' := R) hk2.1 hk2.2 (e2 _) (fun k' hk' => gm_cpM_ne hk' ti α)] at p1 p2
  exact kk α H1 locs1 ls sv gm_xt.rf ⟨hKn, p1, p2, p3, hRv⟩ hL hS
end GA2
