/-! STEPS that make cells; constants. -/
theorem gm_new_spec {o ix ci : Nat} (h : gm_new o ix = some ci) : ci < 12 ∧ Jvm.Cond.classLink (gm_rn o) ix (gm_cn ci) ∈ gm_T ∧ Jvm.Cond.instantiable (gm_cn ci) (gm_nf ci) ∈ gm_T ∧ Jvm.Cond.initialized (gm_cn ci) ∈ gm_T := by
  unfold gm_new at h
  cases hr : gm_nl.find? (fun q => decide (q.1 = o ∧ q.2.1 = ix)) with
  | none => rw [hr] at h; cases h
  | some q =>
    rw [hr] at h
    have h1 := List.find?_some hr
    have h2 := List.mem_of_find?_eq_some hr
    have h3 := List.all_eq_true.mp gm_nl_ok q h2
    obtain ⟨a1, a2, a3, a4, a5, a6⟩ := q
    simp only [decide_eq_true_eq] at h1
    obtain ⟨rfl, rfl⟩ := h1
    simp only [Option.map_some, Option.some.injEq] at h
    subst h
    simp only [Bool.and_eq_true, decide_eq_true_eq] at h3
    obtain ⟨⟨⟨b1, b2⟩, b3⟩, b4⟩ := h3
    exact ⟨b1, gm_T_in b2 rfl, gm_T_in b3 rfl, gm_T_in b4 rfl⟩
theorem gm_cs_get {ci : Nat} (h : ci < 12) : ∃ T N, gm_cs[ci]? = some (gm_cn ci, T, N) ∧ N = gm_nf ci := by
  obtain ⟨⟨C, T, N⟩, hc⟩ : ∃ q, gm_cs[ci]? = some q := ⟨_, List.getElem?_eq_getElem (by simpa [gm_cs] using h)⟩
  have : gm_cn ci = C := by unfold gm_cn; rw [hc]; rfl
  rw [this]
  exact ⟨T, N, hc, (gm_cs_ok _ _ _ _ hc).2.1⟩
theorem gm_ti_eq {D : va_G} {ti : Nat → ClassId} {s : State} {cA : ClassId} {ty : FieldType} {i : Nat} {z : ClassId} (h1 : va_K D gm_cs (gm_ty ti) s) (hi : (gm_ty ti)[i]? = some (z, ty)) (h2 : va_K D gm_cs (gm_ty ti ++ [(cA, ty)]) s) : cA = z := by
  have a := (h1.2 i _ hi).2
  have b := (h2.2 4 (cA, ty) rfl).2
  cases ty with
  | object C =>
    obtain ⟨-, -, -, -, -, e1⟩ := a
    obtain ⟨-, -, -, -, -, e2⟩ := b
    exact Option.some.inj (e2.symm.trans e1)
  | _ => exact Option.some.inj ((show s.vm.findClass _ = some cA from b).symm.trans a)
theorem gm_al_self {α : Nat → Nat} {n q : Nat} (hn : n + 1 < 100000) : gm_rf (gm_al α n q) (n + 1) = .ref q := by rw [gm_rf_pos (by omega) hn]; simp [gm_al]
section GN
variable {X : Int → Int} {LX d bc bs mi pc : Nat} {L : gm_L} {st : List gm_V} {n : Nat} {K : gm_K} {R : gm_R} {M : gm_M} {Q : gm_Q}
theorem gm_p_new {ix ci : Nat} (hn9 : n + 1 < 100000) (h : gm_at mi pc = some (.new ix)) (hn : gm_new (gm_ow mi) ix = some ci) : gm_Sp X LX d mi pc L st n K R M (pc + 3) L (gm_vr (n + 1) :: st) (n + 1) (gm_nK K n (ci + 4) 0) (gm_nR R n) (gm_nM M n) 1 (gm_nf ci) := by
  intro p l e Rm s m args below meth c D ti adK adV A hcx hev hd hd2 hA α H locs cells slots ls sv Q' hc1 hc2 hR hL hS k2
  have hdg := gm_dec hcx h rfl
  obtain ⟨hx, hb, -, hown, -, -, hts, -⟩ := id hcx
  obtain ⟨hKn, hP, hD, hSv, hRv⟩ := id hR
  obtain ⟨hci, n1, n2, n3⟩ := gm_new_spec hn
  obtain ⟨T, N, hc, rfl⟩ := gm_cs_get hci
  obtain ⟨c1, -, c3, -, c5, ty, c6, c7⟩ := gm_cs_ok _ _ _ _ hc
  have ety : gm_fty ci = ty := by unfold gm_fty; rw [c6]; rfl
  have efs : ∀ q : Nat, gm_en ti (gm_al α n q) (gm_nK K n (ci + 4) 0) (gm_nR R n) (gm_nM M n) (n + 1) = .inr (ci, gm_fs α (gm_nR R n) (gm_nM M n) (n + 1) ci) := by
    intro q
    rw [gm_en_obj (ci := ci) (by simp [gm_nK])]
    have e1 : ∀ α : Nat → Nat, gm_fs α (gm_nR R n) (gm_nM M n) (n + 1) ci = (List.range (gm_nf ci)).map fun j => if gm_isr ci j = true then Value.null else .int (Int32.ofInt 0) := by
      intro α
      unfold gm_fs
      apply List.map_congr_left
      intro j _
      simp [gm_nR, gm_nM, gm_rf]
    rw [e1, e1]
  refine va_new (fs := gm_fs α (gm_nR R n) (gm_nM M n) (n + 1) ci) hx hb hts c1 ty c7 hown (hts _ n1) (hts _ n2) (hts _ n3) hKn hP hD hSv hA hc (fun j hj => ?_) hc1 hc2 hdg (fun q H1 p1 p2 p3 => ?_)
  · unfold vp_V
    rw [List.getD_eq_getElem?_getD, gm_fs_at hj, Option.getD_some]
    rcases (gm_kinds hci hj).1 with ⟨-, e2, e3⟩ | ⟨-, e2, e3⟩ | ⟨-, e2, e3⟩
    · rw [← ety, e2, e3]; simp [gm_nM]; rfl
    · rw [← ety, e2, e3]; simp [gm_nM]; rfl
    · rw [← ety, e3]
      rcases e2 with ⟨C, e2⟩ | ⟨C, e2⟩ <;> (rw [e2]; simp [gm_nR, gm_rf]; rfl)
  · rw [← efs q, gm_wl_push hn9 hRv rfl] at p1 p2
    refine k2 (gm_al α n q) H1 locs ls _ (gm_al_xt hn9) ⟨hKn, p1, p2, p3, gm_Rv_n hn9 hRv⟩ (gm_lr_ext (gm_al_xt hn9) hL) ⟨_, _, rfl, ⟨(gm_al_self hn9).symm, Or.inl (Nat.le_refl _)⟩, gm_sr_ext (gm_al_xt hn9) hS⟩
/-- a new array of numbers: kind 0 int, 1 byte, 2 long -/
theorem gm_p_newa {at0 : ArrayType} {kd : Nat} {e0 : Int} (hn9 : n + 1 < 100000) (h : gm_at mi pc = some (.newarray at0)) (hkd : (at0 = .int ∧ kd = 0) ∨ (at0 = .byte ∧ kd = 1) ∨ (at0 = .long ∧ kd = 2)) (hi : 0 ≤ gm_w e0 ∧ gm_w e0 < 60000000) : gm_Sp X LX d mi pc L (gm_vi e0 :: st) n K R M (pc + 2) L (gm_vr (n + 1) :: st) (n + 1) (gm_nK K n kd (gm_w e0).toNat) (gm_nR R n) (gm_nM M n) 1 (gm_w e0).toNat := by
  intro p l e Rm s m args below meth c D ti adK adV A hcx hev hd hd2 hA α H locs cells slots ls sv Q' hc1 hc2 hR hL hS k2
  obtain ⟨w0, sv, rfl, h0, hS⟩ := hS
  cases h0
  have hdg := gm_dec hcx h rfl
  obtain ⟨hx, hb, -, hown, -, -, hts, -⟩ := id hcx
  obtain ⟨hKn, hP, hD, hSv, hRv⟩ := id hR
  have hneg : ¬ Int32.ofInt e0 < 0 := fun q => by
    have := (gm_lt e0 0).mp q
    have e2 : gm_w 0 = 0 := rfl
    omega
  have hN : (Int32.ofInt e0).toNatClampNeg = (gm_w e0).toNat := gm_cl e0
  rcases hkd with ⟨rfl, rfl⟩ | ⟨rfl, rfl⟩ | ⟨rfl, rfl⟩
  · refine va_newa (atype := .int) (a0 := ((gm_w e0).toNat, .inl fun j => Int32.ofInt (gm_nM M n (n + 1) j))) hx hb (hts _ gm_ac_int) rfl hKn hP hD hSv hA (fun cA => ?_) hneg hN (by show (gm_w e0).toNat * 4 ≤ _; omega) hc1 hc2 hdg fun q cA H1 p0 p1 p2 p3 => ?_
    · have : (fun j : Nat => Int32.ofInt (gm_nM M n (n + 1) j)) = fun _ => 0 := by funext j; simp [gm_nM]
      rw [this]; rfl
    · cases gm_ti_eq (i := 0) hKn rfl p0
      have e1 : gm_en ti (gm_al α n q) (gm_nK K n 0 (gm_w e0).toNat) (gm_nR R n) (gm_nM M n) (n + 1) = .inl (ti 0, (gm_w e0).toNat, .inl fun j => Int32.ofInt (gm_nM M n (n + 1) j)) := by unfold gm_en; simp [gm_nK]
      rw [← e1, gm_wl_push hn9 hRv rfl] at p1 p2
      exact k2 (gm_al α n q) H1 locs ls _ (gm_al_xt hn9) ⟨hKn, p1, p2, p3, gm_Rv_n hn9 hRv⟩ (gm_lr_ext (gm_al_xt hn9) hL) ⟨_, _, rfl, ⟨(gm_al_self hn9).symm, Or.inl (Nat.le_refl _)⟩, gm_sr_ext (gm_al_xt hn9) hS⟩
  · refine va_newa (atype := .byte) (a0 := ((gm_w e0).toNat, .inl fun j => Int32.ofInt (gm_nM M n (n + 1) j))) hx hb (hts _ gm_ac_byte) rfl hKn hP hD hSv hA (fun cA => ?_) hneg hN (by show (gm_w e0).toNat * 1 ≤ _; omega) hc1 hc2 hdg fun q cA H1 p0 p1 p2 p3 => ?_
    · have : (fun j : Nat => Int32.ofInt (gm_nM M n (n + 1) j)) = fun _ => 0 := by funext j; simp [gm_nM]
      rw [this]; rfl
    · cases gm_ti_eq (i := 1) hKn rfl p0
      have e1 : gm_en ti (gm_al α n q) (gm_nK K n 1 (gm_w e0).toNat) (gm_nR R n) (gm_nM M n) (n + 1) = .inl (ti 1, (gm_w e0).toNat, .inl fun j => Int32.ofInt (gm_nM M n (n + 1) j)) := by unfold gm_en; simp [gm_nK]
      rw [← e1, gm_wl_push hn9 hRv rfl] at p1 p2
      exact k2 (gm_al α n q) H1 locs ls _ (gm_al_xt hn9) ⟨hKn, p1, p2, p3, gm_Rv_n hn9 hRv⟩ (gm_lr_ext (gm_al_xt hn9) hL) ⟨_, _, rfl, ⟨(gm_al_self hn9).symm, Or.inl (Nat.le_refl _)⟩, gm_sr_ext (gm_al_xt hn9) hS⟩
  · refine va_newa (atype := .long) (a0 := ((gm_w e0).toNat, .inr (.inl fun j => Int64.ofInt (gm_nM M n (n + 1) j)))) hx hb (hts _ gm_ac_long) rfl hKn hP hD hSv hA (fun cA => ?_) hneg hN (by show (gm_w e0).toNat * 8 ≤ _; omega) hc1 hc2 hdg fun q cA H1 p0 p1 p2 p3 => ?_
    · have : (fun j : Nat => Int64.ofInt (gm_nM M n (n + 1) j)) = fun _ => 0 := by funext j; simp [gm_nM]
      rw [this]; rfl
    · cases gm_ti_eq (i := 2) hKn rfl p0
      have e1 : gm_en ti (gm_al α n q) (gm_nK K n 2 (gm_w e0).toNat) (gm_nR R n) (gm_nM M n) (n + 1) = .inl (ti 2, (gm_w e0).toNat, .inr (.inl fun j => Int64.ofInt (gm_nM M n (n + 1) j))) := by unfold gm_en; simp [gm_nK]
      rw [← e1, gm_wl_push hn9 hRv rfl] at p1 p2
      exact k2 (gm_al α n q) H1 locs ls _ (gm_al_xt hn9) ⟨hKn, p1, p2, p3, gm_Rv_n hn9 hRv⟩ (gm_lr_ext (gm_al_xt hn9) hL) ⟨_, _, rfl, ⟨(gm_al_self hn9).symm, Or.inl (Nat.le_refl _)⟩, gm_sr_ext (gm_al_xt hn9) hS⟩
/-- a new row of states -/
theorem gm_p_anew {ix ci : Nat} {e0 : Int} (hn9 : n + 1 < 100000) (h : gm_at mi pc = some (.anewarray ix)) (hn : gm_new (gm_ow mi) ix = some ci) (hci : gm_cn ci = "GlacierMail$State") (hi : 0 ≤ gm_w e0 ∧ gm_w e0 < 60000000) : gm_Sp X LX d mi pc L (gm_vi e0 :: st) n K R M (pc + 3) L (gm_vr (n + 1) :: st) (n + 1) (gm_nK K n 3 (gm_w e0).toNat) (gm_nR R n) (gm_nM M n) 1 (gm_w e0).toNat := by
  intro p l e Rm s m args below meth c D ti adK adV A hcx hev hd hd2 hA α H locs cells slots ls sv Q' hc1 hc2 hR hL hS k2
  obtain ⟨w0, sv, rfl, h0, hS⟩ := hS
  cases h0
  have hdg := gm_dec hcx h rfl
  obtain ⟨hx, hb, -, hown, -, -, hts, -⟩ := id hcx
  obtain ⟨hKn, hP, hD, hSv, hRv⟩ := id hR
  have hneg : ¬ Int32.ofInt e0 < 0 := fun q => by
    have := (gm_lt e0 0).mp q
    have e2 : gm_w 0 = 0 := rfl
    omega
  obtain ⟨-, n1, -, -⟩ := gm_new_spec hn
  rw [hci] at n1
  obtain ⟨-, -, -, -, -, -, -, -, v4, -⟩ := hev
  refine va_newq hx hb hown (hts _ n1) v4 hKn hP hD hSv hA hneg (gm_cl e0) (by omega) hc1 hc2 hdg fun q cA H1 p0 p1 p2 p3 => ?_
  cases gm_ti_eq (i := 3) hKn rfl p0
  have e1 : gm_en ti (gm_al α n q) (gm_nK K n 3 (gm_w e0).toNat) (gm_nR R n) (gm_nM M n) (n + 1) = .inl (ti 3, (gm_w e0).toNat, .inr (.inr (.inr (.inr fun _ => none)))) := by
    unfold gm_en; simp [gm_nK, gm_nR, gm_ro]
  rw [← e1, gm_wl_push hn9 hRv rfl] at p1 p2
  exact k2 (gm_al α n q) H1 locs ls _ (gm_al_xt hn9) ⟨hKn, p1, p2, p3, gm_Rv_n hn9 hRv⟩ (gm_lr_ext (gm_al_xt hn9) hL) ⟨_, _, rfl, ⟨(gm_al_self hn9).symm, Or.inl (Nat.le_refl _)⟩, gm_sr_ext (gm_al_xt hn9) hS⟩
theorem gm_p_aast {k r ci : Nat} {e0 : Int} (h : gm_at mi pc = some .aastore) (hk : 1 ≤ k ∧ k ≤ n) (hK : (K k).1 = 3) (hi : 0 ≤ gm_w e0 ∧ gm_w e0 < (K k).2) (hr : 1 ≤ r ∧ r ≤ n) (hKr : (K r).1 = ci + 4) (hci : ci < 12) (hcn : gm_cn ci = "GlacierMail$State") : gm_Sp X LX d mi pc L (gm_vr r :: gm_vi e0 :: gm_vr k :: st) n K R M (pc + 1) L st n K (gm_uR R k (gm_w e0) r) M 0 0 := by
  intro p l e Rm s m args below meth c D ti adK adV A hcx hev hd hd2 hA α H locs cells slots ls sv Q' hc1 hc2 hR hL hS k2
  obtain ⟨w2, sv, rfl, ⟨rfl, -⟩, hS⟩ := hS
  obtain ⟨w0, sv, rfl, h0, hS⟩ := hS
  obtain ⟨w1, sv, rfl, ⟨rfl, -⟩, hS⟩ := hS
  cases h0
  have hdg := gm_dec hcx h rfl
  obtain ⟨hx, hb, -⟩ := id hcx
  obtain ⟨hKn, hP, hD, hSv, hRv⟩ := id hR
  have he := gm_wl_at (ti := ti) (α := α) (K := K) (R := R) (M := M) hk.1 hk.2
  have he2 := gm_wl_at (ti := ti) (α := α) (K := K) (R := R) (M := M) hr.1 hr.2
  rw [gm_en_obj hKr] at he2
  have e1 : ∀ R : gm_R, gm_en ti α K R M k = .inl (ti 3, (K k).2, .inr (.inr (.inr (.inr fun j => gm_ro α (R k j))))) := by intro R; unfold gm_en; rw [hK]
  rw [e1] at he
  obtain ⟨T, N, hc, -⟩ := gm_cs_get hci
  rw [gm_rf_pos hk.1 (Nat.lt_of_le_of_lt hk.2 hRv.1), gm_rf_pos hr.1 (Nat.lt_of_le_of_lt hr.2 hRv.1)]
  refine va_astq hx hb hKn hP hD hSv (k - 1) 3 (r - 1) ci he (by rw [hcn]; rfl) he2 hc (gm_in hi.1 hi.2) hdg fun H1 locs1 p1 p2 p3 => ?_
  have e2 : va_up (fun j : Nat => gm_ro α (R k j)) (Int32.ofInt e0).toNatClampNeg (some (α r)) = fun j : Nat => gm_ro α (gm_uR R k (gm_w e0) r k j) := by
    funext j
    unfold va_up gm_uR
    have := gm_wn hi.1
    by_cases hj : j = (Int32.ofInt e0).toNatClampNeg
    · rw [if_pos hj, if_pos ⟨rfl, by rw [hj]; exact this⟩]
      rw [gm_ro_pos hr.1 (Nat.lt_of_le_of_lt hr.2 hRv.1)]
    · rw [if_neg hj, if_neg (fun q => hj (by omega))]
  rw [e2, gm_wl_set (M' := M) (R' := gm_uR R k (gm_w e0) r) hk.1 hk.2 (e1 _) (fun k' hk' => gm_en_uR hk')] at p1 p2
  exact k2 α H1 locs1 ls sv gm_xt.rf ⟨hKn, p1, p2, p3, gm_Rv_uR hRv (Or.inl hr.2)⟩ hL hS
theorem gm_ild_spec {o ix k : Nat} {v : Int} (h : gm_ild o ix = some (v, k)) : (if k = 0 then Jvm.Cond.constant (gm_rn o) ix (Int32.ofInt v) else .constantLong (gm_rn o) ix (Int64.ofInt v)) ∈ gm_T := by
  unfold gm_ild at h
  cases hr : gm_il.find? (fun q => decide (q.1 = o ∧ q.2.1 = ix)) with
  | none => rw [hr] at h; cases h
  | some q =>
    rw [hr] at h
    have h1 := List.find?_some hr
    have h3 := List.all_eq_true.mp gm_il_ok q (List.mem_of_find?_eq_some hr)
    obtain ⟨a1, a2, a3, a4, a5⟩ := q
    simp only [decide_eq_true_eq] at h1
    obtain ⟨rfl, rfl⟩ := h1
    simp only [Option.map_some, Option.some.injEq, Prod.mk.injEq] at h
    obtain ⟨rfl, rfl⟩ := h
    simp only [decide_eq_true_eq] at h3
    refine gm_T_in h3 ?_
    split <;> rfl
theorem gm_p_ldci {i : Instr} {ix : Nat} {v : Int} (h : gm_at mi pc = some i) (hi : i = .ldc ix ∨ i = .ldc_w ix) (hv : gm_ild (gm_ow mi) ix = some (v, 0)) : gm_Sp X LX d mi pc L st n K R M (pc + gm_len i) L (gm_vi v :: st) n K R M 0 0 := by
  refine gm_stk fun p l e Rm s m args below meth c hcx α adK H locs cells slots ls sv Q' hL hS k => ?_
  have hdg := gm_dec hcx h (by rcases hi with rfl | rfl <;> rfl)
  obtain ⟨hx, hb, -, hown, -, -, hts, -⟩ := hcx
  have hw := hts _ (gm_ild_spec hv)
  rcases hi with rfl | rfl
  · exact lv_ldc hx hb hown hw hdg (k _ ⟨_, _, rfl, rfl, hS⟩)
  · exact lv_ldcw hx hb hown hw hdg (k _ ⟨_, _, rfl, rfl, hS⟩)
theorem gm_p_ldcl {ix : Nat} {v : Int} (h : gm_at mi pc = some (.ldc2_w ix)) (hv : gm_ild (gm_ow mi) ix = some (v, 1)) : gm_Sp X LX d mi pc L st n K R M (pc + 3) L (gm_vl v :: st) n K R M 0 0 := by
  refine gm_stk fun p l e Rm s m args below meth c hcx α adK H locs cells slots ls sv Q' hL hS k => ?_
  have hdg := gm_dec hcx h rfl
  obtain ⟨hx, hb, -, hown, -, -, hts, -⟩ := hcx
  have hw := hts _ (gm_ild_spec hv)
  exact lv_ldc2 hx hb hown hw hdg (k _ ⟨_, _, rfl, rfl, hS⟩)
end GN
