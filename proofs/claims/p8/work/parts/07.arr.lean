/-! STEPS with arrays, new cells, constants. -/
theorem gm_wn {e : Int} (h : 0 ≤ gm_w e) : (((Int32.ofInt e).toNatClampNeg : Nat) : Int) = gm_w e := by rw [gm_cl]; omega
theorem gm_xt_at {α α' : Nat → Nat} {n n' : Nat} (hx : gm_xt α n α' n') {k : Nat} (hk : gm_kn n k) (h1 : 1 ≤ k) : α' k = α k := by
  rcases hk with hk | ⟨hk, h0⟩
  · exact hx.2.1 k h1 hk
  · rcases hx.2.2 with z | g
    · omega
    · exact g k hk
theorem gm_rf_ext {α α' : Nat → Nat} {n n' : Nat} (hx : gm_xt α n α' n') {k : Nat} (hk : gm_kn n k) : gm_rf α' k = gm_rf α k := gm_rf_cg (gm_xt_at hx hk)
theorem gm_ro_ext {α α' : Nat → Nat} {n n' : Nat} (hx : gm_xt α n α' n') {k : Nat} (hk : gm_kn n k) : gm_ro α' k = gm_ro α k := gm_ro_cg (gm_xt_at hx hk)
theorem gm_kn_ext {α α' : Nat → Nat} {n n' : Nat} (hx : gm_xt α n α' n') {k : Nat} (hk : gm_kn n k) : gm_kn n' k := by
  have := hx.1
  rcases hk with hk | ⟨hk, h0⟩
  · exact Or.inl (by omega)
  · exact Or.inr ⟨hk, by omega⟩
theorem gm_cv_ext {α α' adK : Nat → Nat} {n n' : Nat} (hx : gm_xt α n α' n') {v : gm_V} {w : Value} (h : gm_cv α adK n v w) : gm_cv α' adK n' v w := by
  rcases v with x | x | k | c
  · exact h
  · exact h
  · obtain ⟨rfl, hk⟩ := h
    exact ⟨(gm_rf_ext hx hk).symm, gm_kn_ext hx hk⟩
  · exact h
theorem gm_lr_ext {α α' adK : Nat → Nat} {n n' nL : Nat} (hx : gm_xt α n α' n') {L : gm_L} {ls : Array Slot} (h : gm_lr α adK n nL L ls) : gm_lr α' adK n' nL L ls := by
  obtain ⟨h1, l, h2, h3⟩ := h
  exact ⟨h1, l, h2, fun i v hi => by obtain ⟨w, a, b⟩ := h3 i v hi; exact ⟨w, gm_cv_ext hx a, b⟩⟩
theorem gm_sr_ext {α α' adK : Nat → Nat} {n n' : Nat} (hx : gm_xt α n α' n') : ∀ {st : List gm_V} {sv : List Value}, gm_sr α adK n st sv → gm_sr α' adK n' st sv := by
  intro st
  induction st with
  | nil => intro sv h; exact h
  | cons v st ih =>
    intro sv h
    obtain ⟨w, sv', rfl, a, b⟩ := h
    exact ⟨w, sv', rfl, gm_cv_ext hx a, ih b⟩
noncomputable def gm_al (α : Nat → Nat) (n q : Nat) : Nat → Nat := fun a => if a = n + 1 then q else α a
theorem gm_al_xt {α : Nat → Nat} {n q : Nat} (hn : n + 1 < 100000) : gm_xt α n (gm_al α n q) (n + 1) := ⟨by omega, fun k _ h => by simp [gm_al]; omega, Or.inr fun k h => by simp [gm_al]; omega⟩
/-- the world with a new cell behind it -/
theorem gm_wl_push {ti : Nat → ClassId} {α : Nat → Nat} {n q kind len : Nat} {K : gm_K} {R : gm_R} {M : gm_M} {x : va_E} (hn : n + 1 < 100000) (hR : gm_Rv n R) (hx : gm_en ti (gm_al α n q) (gm_nK K n kind len) (gm_nR R n) (gm_nM M n) (n + 1) = x) : gm_wl ti α n K R M ++ [(q, x)] = gm_wl ti (gm_al α n q) (n + 1) (gm_nK K n kind len) (gm_nR R n) (gm_nM M n) := by
  have hold : gm_wl ti α n K R M = gm_wl ti (gm_al α n q) n (gm_nK K n kind len) (gm_nR R n) (gm_nM M n) := by
    refine gm_wl_ext fun k h1 h2 => ⟨by simp [gm_al]; omega, ?_⟩
    have eK : gm_nK K n kind len k = K k := by simp [gm_nK]; omega
    have eM : gm_nM M n k = M k := by funext b; simp [gm_nM]; omega
    have eR : gm_nR R n k = R k := by funext b; simp [gm_nR]; omega
    have e1 : ∀ j, gm_rf (gm_al α n q) (R k j) = gm_rf α (R k j) := fun j => gm_rf_ext (gm_al_xt hn) (hR.2 k j)
    have e2 : ∀ j, gm_ro (gm_al α n q) (R k j) = gm_ro α (R k j) := fun j => gm_ro_ext (gm_al_xt hn) (hR.2 k j)
    unfold gm_en gm_fs
    rw [eK, eM, eR]
    simp only [e1, e2]
  rw [hold, ← hx]
  unfold gm_wl
  rw [List.range_succ, List.map_append]
  simp [gm_al]
theorem gm_Rv_n {n : Nat} {R : gm_R} (hn : n + 1 < 100000) (h : gm_Rv n R) : gm_Rv (n + 1) (gm_nR R n) := by
  refine ⟨hn, fun k j => ?_⟩
  unfold gm_nR
  split
  · exact Or.inl (Nat.zero_le _)
  · exact gm_kn_ext (gm_al_xt (α := fun _ => 0) (q := 0) hn) (h.2 k j)
section GA
variable {X : Int → Int} {LX d bc bs mi pc : Nat} {L : gm_L} {st : List gm_V} {n : Nat} {K : gm_K} {R : gm_R} {M : gm_M} {Q : gm_Q}
theorem gm_p_iald {k : Nat} {e0 : Int} (h : gm_at mi pc = some .iaload) (hk : 1 ≤ k ∧ k ≤ n) (hK : (K k).1 = 0) (hi : 0 ≤ gm_w e0 ∧ gm_w e0 < (K k).2) : gm_Sp X LX d mi pc L (gm_vi e0 :: gm_vr k :: st) n K R M (pc + 1) L (gm_vi (M k (gm_w e0)) :: st) n K R M 0 0 := by
  intro p l e Rm s m args below meth c D ti adK adV A hcx hev hd hd2 hA α H locs cells slots ls sv Q' hc1 hc2 hR hL hS k2
  obtain ⟨w0, sv, rfl, h0, hS⟩ := hS
  obtain ⟨w1, sv, rfl, ⟨rfl, -⟩, hS⟩ := hS
  cases h0
  have hdg := gm_dec hcx h rfl
  obtain ⟨hx, hb, -⟩ := id hcx
  obtain ⟨hKn, hP, hD, hSv, hRv⟩ := id hR
  have he := gm_wl_at (ti := ti) (α := α) (K := K) (R := R) (M := M) hk.1 hk.2
  have e1 : gm_en ti α K R M k = .inl (ti 0, (K k).2, .inl fun j => Int32.ofInt (M k j)) := by unfold gm_en; rw [hK]
  rw [e1] at he
  rw [gm_rf_pos hk.1 (Nat.lt_of_le_of_lt hk.2 hRv.1)]
  refine va_iald hx hb hKn hP (k - 1) 0 he rfl (gm_in hi.1 hi.2) hdg ?_
  rw [gm_wn hi.1]
  exact k2 α H locs ls _ gm_xt.rf hR hL ⟨_, _, rfl, rfl, hS⟩
theorem gm_p_bald {k : Nat} {e0 : Int} (h : gm_at mi pc = some .baload) (hk : 1 ≤ k ∧ k ≤ n) (hK : (K k).1 = 1) (hi : 0 ≤ gm_w e0 ∧ gm_w e0 < (K k).2) : gm_Sp X LX d mi pc L (gm_vi e0 :: gm_vr k :: st) n K R M (pc + 1) L (gm_vi (M k (gm_w e0)) :: st) n K R M 0 0 := by
  intro p l e Rm s m args below meth c D ti adK adV A hcx hev hd hd2 hA α H locs cells slots ls sv Q' hc1 hc2 hR hL hS k2
  obtain ⟨w0, sv, rfl, h0, hS⟩ := hS
  obtain ⟨w1, sv, rfl, ⟨rfl, -⟩, hS⟩ := hS
  cases h0
  have hdg := gm_dec hcx h rfl
  obtain ⟨hx, hb, -⟩ := id hcx
  obtain ⟨hKn, hP, hD, hSv, hRv⟩ := id hR
  have he := gm_wl_at (ti := ti) (α := α) (K := K) (R := R) (M := M) hk.1 hk.2
  have e1 : gm_en ti α K R M k = .inl (ti 1, (K k).2, .inl fun j => Int32.ofInt (M k j)) := by unfold gm_en; rw [hK]
  rw [e1] at he
  rw [gm_rf_pos hk.1 (Nat.lt_of_le_of_lt hk.2 hRv.1)]
  refine va_bald hx hb hKn hP (k - 1) 1 he rfl (gm_in hi.1 hi.2) hdg ?_
  rw [gm_wn hi.1]
  exact k2 α H locs ls _ gm_xt.rf hR hL ⟨_, _, rfl, rfl, hS⟩
theorem gm_p_lald {k : Nat} {e0 : Int} (h : gm_at mi pc = some .laload) (hk : 1 ≤ k ∧ k ≤ n) (hK : (K k).1 = 2) (hi : 0 ≤ gm_w e0 ∧ gm_w e0 < (K k).2) : gm_Sp X LX d mi pc L (gm_vi e0 :: gm_vr k :: st) n K R M (pc + 1) L (gm_vl (M k (gm_w e0)) :: st) n K R M 0 0 := by
  intro p l e Rm s m args below meth c D ti adK adV A hcx hev hd hd2 hA α H locs cells slots ls sv Q' hc1 hc2 hR hL hS k2
  obtain ⟨w0, sv, rfl, h0, hS⟩ := hS
  obtain ⟨w1, sv, rfl, ⟨rfl, -⟩, hS⟩ := hS
  cases h0
  have hdg := gm_dec hcx h rfl
  obtain ⟨hx, hb, -⟩ := id hcx
  obtain ⟨hKn, hP, hD, hSv, hRv⟩ := id hR
  have he := gm_wl_at (ti := ti) (α := α) (K := K) (R := R) (M := M) hk.1 hk.2
  have e1 : gm_en ti α K R M k = .inl (ti 2, (K k).2, .inr (.inl fun j => Int64.ofInt (M k j))) := by unfold gm_en; rw [hK]
  rw [e1] at he
  rw [gm_rf_pos hk.1 (Nat.lt_of_le_of_lt hk.2 hRv.1)]
  refine va_lald hx hb hKn hP (k - 1) 2 he rfl (gm_in hi.1 hi.2) hdg ?_
  rw [gm_wn hi.1]
  exact k2 α H locs ls _ gm_xt.rf hR hL ⟨_, _, rfl, rfl, hS⟩
theorem gm_p_aald {k : Nat} {e0 : Int} (h : gm_at mi pc = some .aaload) (hk : 1 ≤ k ∧ k ≤ n) (hK : (K k).1 = 3) (hi : 0 ≤ gm_w e0 ∧ gm_w e0 < (K k).2) : gm_Sp X LX d mi pc L (gm_vi e0 :: gm_vr k :: st) n K R M (pc + 1) L (gm_vr (R k (gm_w e0)) :: st) n K R M 0 0 := by
  intro p l e Rm s m args below meth c D ti adK adV A hcx hev hd hd2 hA α H locs cells slots ls sv Q' hc1 hc2 hR hL hS k2
  obtain ⟨w0, sv, rfl, h0, hS⟩ := hS
  obtain ⟨w1, sv, rfl, ⟨rfl, -⟩, hS⟩ := hS
  cases h0
  have hdg := gm_dec hcx h rfl
  obtain ⟨hx, hb, -⟩ := id hcx
  obtain ⟨hKn, hP, hD, hSv, hRv⟩ := id hR
  have he := gm_wl_at (ti := ti) (α := α) (K := K) (R := R) (M := M) hk.1 hk.2
  have e1 : gm_en ti α K R M k = .inl (ti 3, (K k).2, .inr (.inr (.inr (.inr fun j => gm_ro α (R k j))))) := by unfold gm_en; rw [hK]
  rw [e1] at he
  rw [gm_rf_pos hk.1 (Nat.lt_of_le_of_lt hk.2 hRv.1)]
  refine va_aldq hx hb hKn hP (k - 1) 3 he rfl (gm_in hi.1 hi.2) hdg ?_
  rw [gm_wn hi.1, gm_rf_ro]
  exact k2 α H locs ls _ gm_xt.rf hR hL ⟨_, _, rfl, ⟨rfl, hRv.2 _ _⟩, hS⟩
/-- the script -/
theorem gm_p_sald {e0 : Int} (h : gm_at mi pc = some .iaload) (hi : 0 ≤ gm_w e0 ∧ gm_w e0 < LX) : gm_Sp X LX d mi pc L (gm_vi e0 :: gm_vo 2000 :: st) n K R M (pc + 1) L (gm_vi (X (gm_w e0)) :: st) n K R M 0 0 := by
  intro p l e Rm s m args below meth c D ti adK adV A hcx hev hd hd2 hA α H locs cells slots ls sv Q' hc1 hc2 hR hL hS k2
  obtain ⟨w0, sv, rfl, h0, hS⟩ := hS
  obtain ⟨w1, sv, rfl, ⟨a, rfl, ha⟩, hS⟩ := hS
  cases h0
  have hdg := gm_dec hcx h rfl
  obtain ⟨hx, hb, -⟩ := id hcx
  obtain ⟨hKn, hP, hD, hSv, hRv⟩ := id hR
  obtain ⟨-, -, -, -, -, v1, v2, v3, -⟩ := hev
  rw [ha (by omega)]
  refine va_sld hx hb v1 v2 v3 hSv (gm_in hi.1 hi.2) hdg ?_
  rw [gm_wn hi.1]
  exact k2 α H locs ls _ gm_xt.rf hR hL ⟨_, _, rfl, rfl, hS⟩
theorem gm_ofNat (k : Nat) : Int32.ofNat k = Int32.ofInt (k : Int) := (Int32.ofInt_eq_ofNat).symm
theorem gm_p_slen (h : gm_at mi pc = some .arraylength) : gm_Sp X LX d mi pc L (gm_vo 2000 :: st) n K R M (pc + 1) L (gm_vi LX :: st) n K R M 0 0 := by
  intro p l e Rm s m args below meth c D ti adK adV A hcx hev hd hd2 hA α H locs cells slots ls sv Q' hc1 hc2 hR hL hS k2
  obtain ⟨w1, sv, rfl, ⟨a, rfl, ha⟩, hS⟩ := hS
  have hdg := gm_dec hcx h rfl
  obtain ⟨hx, hb, -⟩ := id hcx
  obtain ⟨hKn, hP, hD, hSv, hRv⟩ := id hR
  obtain ⟨-, -, -, -, -, v1, v2, v3, -⟩ := hev
  rw [ha (by omega)]
  refine va_slen hx hb v1 v2 v3 hSv hdg ?_
  exact k2 α H locs ls _ gm_xt.rf hR hL ⟨_, _, rfl, by rw [gm_ofNat]; rfl, hS⟩
theorem gm_p_alen {k : Nat} (h : gm_at mi pc = some .arraylength) (hk : 1 ≤ k ∧ k ≤ n) (hK : (K k).1 ≤ 3) : gm_Sp X LX d mi pc L (gm_vr k :: st) n K R M (pc + 1) L (gm_vi ((K k).2 : Int) :: st) n K R M 0 0 := by
  intro p l e Rm s m args below meth c D ti adK adV A hcx hev hd hd2 hA α H locs cells slots ls sv Q' hc1 hc2 hR hL hS k2
  obtain ⟨w1, sv, rfl, ⟨rfl, -⟩, hS⟩ := hS
  have hdg := gm_dec hcx h rfl
  obtain ⟨hx, hb, -⟩ := id hcx
  obtain ⟨hKn, hP, hD, hSv, hRv⟩ := id hR
  have he := gm_wl_at (ti := ti) (α := α) (K := K) (R := R) (M := M) hk.1 hk.2
  rw [gm_rf_pos hk.1 (Nat.lt_of_le_of_lt hk.2 hRv.1)]
  have k3 := k2 α H locs ls (Value.int (Int32.ofInt ((K k).2 : Int)) :: sv) gm_xt.rf hR hL ⟨_, _, rfl, rfl, hS⟩
  have hc : (K k).1 = 0 ∨ (K k).1 = 1 ∨ (K k).1 = 2 ∨ (K k).1 = 3 := by omega
  rcases hc with hc | hc | hc | hc
  · have e1 : gm_en ti α K R M k = .inl (ti 0, (K k).2, .inl fun j => Int32.ofInt (M k j)) := by unfold gm_en; rw [hc]
    rw [e1] at he
    exact va_alen hx hb hKn hP (k - 1) 0 he rfl (gm_ofNat _) hdg k3
  · have e1 : gm_en ti α K R M k = .inl (ti 1, (K k).2, .inl fun j => Int32.ofInt (M k j)) := by unfold gm_en; rw [hc]
    rw [e1] at he
    exact va_alen hx hb hKn hP (k - 1) 1 he rfl (gm_ofNat _) hdg k3
  · have e1 : gm_en ti α K R M k = .inl (ti 2, (K k).2, .inr (.inl fun j => Int64.ofInt (M k j))) := by unfold gm_en; rw [hc]
    rw [e1] at he
    exact va_alen hx hb hKn hP (k - 1) 2 he rfl (gm_ofNat _) hdg k3
  · have e1 : gm_en ti α K R M k = .inl (ti 3, (K k).2, .inr (.inr (.inr (.inr fun j => gm_ro α (R k j))))) := by unfold gm_en; rw [hc]
    rw [e1] at he
    exact va_alen hx hb hKn hP (k - 1) 3 he rfl (gm_ofNat _) hdg k3
theorem gm_updM {M : gm_M} {k : Nat} {e0 v : Int} (h : 0 ≤ gm_w e0) : upd (fun j => Int32.ofInt (M k j)) (Int32.ofInt e0).toNatClampNeg (Int32.ofInt v) = fun j : Nat => Int32.ofInt (gm_uM M k (gm_w e0) v k j) := by
  funext j
  unfold upd gm_uM
  have := gm_wn h
  by_cases hj : j = (Int32.ofInt e0).toNatClampNeg
  · rw [if_pos hj, if_pos ⟨rfl, by rw [hj]; exact this⟩]
  · rw [if_neg hj, if_neg (fun q => hj (by omega))]
theorem gm_p_iast {k : Nat} {e0 x : Int} (h : gm_at mi pc = some .iastore) (hk : 1 ≤ k ∧ k ≤ n) (hK : (K k).1 = 0) (hi : 0 ≤ gm_w e0 ∧ gm_w e0 < (K k).2) : gm_Sp X LX d mi pc L (gm_vi x :: gm_vi e0 :: gm_vr k :: st) n K R M (pc + 1) L st n K R (gm_uM M k (gm_w e0) x) 0 0 := by
  intro p l e Rm s m args below meth c D ti adK adV A hcx hev hd hd2 hA α H locs cells slots ls sv Q' hc1 hc2 hR hL hS k2
  obtain ⟨w2, sv, rfl, h2, hS⟩ := hS
  obtain ⟨w0, sv, rfl, h0, hS⟩ := hS
  obtain ⟨w1, sv, rfl, ⟨rfl, -⟩, hS⟩ := hS
  cases h0; cases h2
  have hdg := gm_dec hcx h rfl
  obtain ⟨hx, hb, -⟩ := id hcx
  obtain ⟨hKn, hP, hD, hSv, hRv⟩ := id hR
  have he := gm_wl_at (ti := ti) (α := α) (K := K) (R := R) (M := M) hk.1 hk.2
  have e1 : ∀ M : gm_M, gm_en ti α K R M k = .inl (ti 0, (K k).2, .inl fun j => Int32.ofInt (M k j)) := by intro M; unfold gm_en; rw [hK]
  rw [e1] at he
  rw [gm_rf_pos hk.1 (Nat.lt_of_le_of_lt hk.2 hRv.1)]
  refine va_iast hx hb hKn hP hD hSv (k - 1) 0 he rfl (gm_in hi.1 hi.2) hdg fun H1 locs1 p1 p2 p3 => ?_
  rw [gm_updM hi.1, gm_wl_set (M' := gm_uM M k (gm_w e0) x) (R' := R) hk.1 hk.2 (e1 _) (fun k' hk' => gm_en_uM hk')] at p1 p2
  exact k2 α H1 locs1 ls sv gm_xt.rf ⟨hKn, p1, p2, p3, hRv⟩ hL hS
theorem gm_p_bast {k : Nat} {e0 x : Int} (h : gm_at mi pc = some .bastore) (hk : 1 ≤ k ∧ k ≤ n) (hK : (K k).1 = 1) (hi : 0 ≤ gm_w e0 ∧ gm_w e0 < (K k).2) : gm_Sp X LX d mi pc L (gm_vi x :: gm_vi e0 :: gm_vr k :: st) n K R M (pc + 1) L st n K R (gm_uM M k (gm_w e0) (gm_wb x)) 0 0 := by
  intro p l e Rm s m args below meth c D ti adK adV A hcx hev hd hd2 hA α H locs cells slots ls sv Q' hc1 hc2 hR hL hS k2
  obtain ⟨w2, sv, rfl, h2, hS⟩ := hS
  obtain ⟨w0, sv, rfl, h0, hS⟩ := hS
  obtain ⟨w1, sv, rfl, ⟨rfl, -⟩, hS⟩ := hS
  cases h0; cases h2
  have hdg := gm_dec hcx h rfl
  obtain ⟨hx, hb, -⟩ := id hcx
  obtain ⟨hKn, hP, hD, hSv, hRv⟩ := id hR
  have he := gm_wl_at (ti := ti) (α := α) (K := K) (R := R) (M := M) hk.1 hk.2
  have e1 : ∀ M : gm_M, gm_en ti α K R M k = .inl (ti 1, (K k).2, .inl fun j => Int32.ofInt (M k j)) := by intro M; unfold gm_en; rw [hK]
  rw [e1] at he
  rw [gm_rf_pos hk.1 (Nat.lt_of_le_of_lt hk.2 hRv.1)]
  refine va_bast hx hb hKn hP hD hSv (k - 1) 1 he rfl (gm_in hi.1 hi.2) hdg fun H1 locs1 p1 p2 p3 => ?_
  rw [vp_nar_byte, gm_i2b, gm_updM hi.1, gm_wl_set (M' := gm_uM M k (gm_w e0) (gm_wb x)) (R' := R) hk.1 hk.2 (e1 _) (fun k' hk' => gm_en_uM hk')] at p1 p2
  exact k2 α H1 locs1 ls sv gm_xt.rf ⟨hKn, p1, p2, p3, hRv⟩ hL hS
theorem gm_updL {M : gm_M} {k : Nat} {e0 v : Int} (h : 0 ≤ gm_w e0) : vp_updL (fun j => Int64.ofInt (M k j)) (Int32.ofInt e0).toNatClampNeg (Int64.ofInt v) = fun j : Nat => Int64.ofInt (gm_uM M k (gm_w e0) v k j) := by
  funext j
  unfold vp_updL gm_uM
  have := gm_wn h
  by_cases hj : j = (Int32.ofInt e0).toNatClampNeg
  · rw [if_pos hj, if_pos ⟨rfl, by rw [hj]; exact this⟩]
  · rw [if_neg hj, if_neg (fun q => hj (by omega))]
theorem gm_p_last {k : Nat} {e0 x : Int} (h : gm_at mi pc = some .lastore) (hk : 1 ≤ k ∧ k ≤ n) (hK : (K k).1 = 2) (hi : 0 ≤ gm_w e0 ∧ gm_w e0 < (K k).2) : gm_Sp X LX d mi pc L (gm_vl x :: gm_vi e0 :: gm_vr k :: st) n K R M (pc + 1) L st n K R (gm_uM M k (gm_w e0) x) 0 0 := by
  intro p l e Rm s m args below meth c D ti adK adV A hcx hev hd hd2 hA α H locs cells slots ls sv Q' hc1 hc2 hR hL hS k2
  obtain ⟨w2, sv, rfl, h2, hS⟩ := hS
  obtain ⟨w0, sv, rfl, h0, hS⟩ := hS
  obtain ⟨w1, sv, rfl, ⟨rfl, -⟩, hS⟩ := hS
  cases h0; cases h2
  have hdg := gm_dec hcx h rfl
  obtain ⟨hx, hb, -⟩ := id hcx
  obtain ⟨hKn, hP, hD, hSv, hRv⟩ := id hR
  have he := gm_wl_at (ti := ti) (α := α) (K := K) (R := R) (M := M) hk.1 hk.2
  have e1 : ∀ M : gm_M, gm_en ti α K R M k = .inl (ti 2, (K k).2, .inr (.inl fun j => Int64.ofInt (M k j))) := by intro M; unfold gm_en; rw [hK]
  rw [e1] at he
  rw [gm_rf_pos hk.1 (Nat.lt_of_le_of_lt hk.2 hRv.1)]
  refine va_last hx hb hKn hP hD hSv (k - 1) 2 he rfl (gm_in hi.1 hi.2) hdg fun H1 locs1 p1 p2 p3 => ?_
  rw [gm_updL hi.1, gm_wl_set (M' := gm_uM M k (gm_w e0) x) (R' := R) hk.1 hk.2 (e1 _) (fun k' hk' => gm_en_uM hk')] at p1 p2
  exact k2 α H1 locs1 ls sv gm_xt.rf ⟨hKn, p1, p2, p3, hRv⟩ hL hS
end GA
