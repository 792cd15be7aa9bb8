/-! 07.arr -/
section
/-! STEPS with arrays, new cells, constants. -/
theorem gm_wn {e : Int} (h : 0 ≤ gm_w e) : (((Int32.ofInt e).toNatClampNeg : Nat) : Int) = gm_w e := by rw [gm_cl]; omega
theorem gm_xt_at {α α' : Nat → Nat} {n n' : Nat} (hx : gm_xt α n α' n') {k : Nat} (hk : gm_kn n k) (h1 : 1 ≤ k) : α' k = α k := by
  rcases hk with hk | ⟨hk, h0⟩
  · exact hx.2.1 k h1 hk
  · rcases hx.2.2 with z | g
    · omega
    · exact g k hk
theorem gm_rf_ext {α α' : Nat → Nat} {n n' : Nat} (hx : gm_xt α n α' n') {k : Nat} (hk : gm_kn n k) : gm_rf α' k = gm_rf α k := gm_rf_cg (gm_xt_at hx hk)
theorem gm_ro_ext {α α' : Nat → Nat} {n n' : Nat} (hx : gm_xt α n α' n') {k : Nat} (hk : gm_kn n k) : gm_ro α' k = gm_ro α k := gm_ro_cg (gm_xt_at hx hk)
theorem gm_kn_ext {α α' : Nat → Nat} {n n' : Nat} (hx : gm_xt α n α' n') {k : Nat} (hk : gm_kn n k) : gm_kn n' k := by
  have := hx.1
  rcases hk with hk | ⟨hk, h0⟩
  · exact Or.inl (by omega)
  · exact Or.inr ⟨hk, by omega⟩
theorem gm_cv_ext {α α' adK : Nat → Nat} {n n' : Nat} (hx : gm_xt α n α' n') {v : gm_V} {w : Value} (h : gm_cv α adK n v w) : gm_cv α' adK n' v w := by
  rcases v with x | x | k | c
  · exact h
  · exact h
  · obtain ⟨rfl, hk⟩ := h
    exact ⟨(gm_rf_ext hx hk).symm, gm_kn_ext hx hk⟩
  · exact h
theorem gm_lr_ext {α α' adK : Nat → Nat} {n n' nL : Nat} (hx : gm_xt α n α' n') {L : gm_L} {ls : Array Slot} (h : gm_lr α adK n nL L ls) : gm_lr α' adK n' nL L ls := by
  obtain ⟨h1, l, h2, h3⟩ := h
  exact ⟨h1, l, h2, fun i v hi => by obtain ⟨w, a, b⟩ := h3 i v hi; exact ⟨w, gm_cv_ext hx a, b⟩⟩
theorem gm_sr_ext {α α' adK : Nat → Nat} {n n' : Nat} (hx : gm_xt α n α' n') : ∀ {st : List gm_V} {sv : List Value}, gm_sr α adK n st sv → gm_sr α' adK n' st sv := by
  intro st
  induction st with
  | nil => intro sv h; exact h
  | cons v st ih =>
    intro sv h
    obtain ⟨w, sv', rfl, a, b⟩ := h
    exact ⟨w, sv', rfl, gm_cv_ext hx a, ih b⟩
def gm_al (α : Nat → Nat) (n q : Nat) : Nat → Nat := fun a => if a = n + 1 then q else α a
theorem gm_al_xt {α : Nat → Nat} {n q : Nat} (hn : n + 1 < 100000) : gm_xt α n (gm_al α n q) (n + 1) := ⟨by omega, fun k _ h => by simp [gm_al]; omega, Or.inr fun k h => by simp [gm_al]; omega⟩
/-- the world with a new cell behind it -/
theorem gm_wl_push {ti : Nat → ClassId} {α : Nat → Nat} {n q kind len : Nat} {K : gm_K} {R : gm_R} {M : gm_M} {x : va_E} (hn : n + 1 < 100000) (hR : gm_Rv n R) (hx : gm_en ti (gm_al α n q) (gm_nK K n kind len) (gm_nR R n) (gm_nM M n) (n + 1) = x) : gm_wl ti α n K R M ++ [(q, x)] = gm_wl ti (gm_al α n q) (n + 1) (gm_nK K n kind len) (gm_nR R n) (gm_nM M n) := by
  have hold : gm_wl ti α n K R M = gm_wl ti (gm_al α n q) n (gm_nK K n kind len) (gm_nR R n) (gm_nM M n) := by
    refine gm_wl_ext fun k h1 h2 => ⟨by simp [gm_al]; omega, ?_⟩
    have eK : gm_nK K n kind len k = K k := by simp [gm_nK]; omega
    have eM : gm_nM M n k = M k := by funext b; simp [gm_nM]; omega
    have eR : gm_nR R n k = R k := by funext b; simp [gm_nR]; omega
    have e1 : ∀ j, gm_rf (gm_al α n q) (R k j) = gm_rf α (R k j) := fun j => gm_rf_ext (gm_al_xt hn) (hR.2 k j)
    have e2 : ∀ j, gm_ro (gm_al α n q) (R k j) = gm_ro α (R k j) := fun j => gm_ro_ext (gm_al_xt hn) (hR.2 k j)
    unfold gm_en gm_fs
    rw [eK, eM, eR]
    simp only [e1, e2]
  rw [hold, ← hx]
  unfold gm_wl
  rw [List.range_succ, List.map_append]
  simp [gm_al]
theorem gm_Rv_n {n : Nat} {R : gm_R} (hn : n + 1 < 100000) (h : gm_Rv n R) : gm_Rv (n + 1) (gm_nR R n) := by
  refine ⟨hn, fun k j => ?_⟩
  unfold gm_nR
  split
  · exact Or.inl (Nat.zero_le _)
  · exact gm_kn_ext (gm_al_xt (α := fun _ => 0) (q := 0) hn) (h.2 k j)
section GA
variable {X : Int → Int} {LX d bc bs mi pc : Nat} {L : gm_L} {st : List gm_V} {n : Nat} {K : gm_K} {R : gm_R} {M : gm_M} {Q : gm_Q}
theorem gm_p_iald {k : Nat} {e0 : Int} (h : gm_at mi pc = some .iaload) (hk : 1 ≤ k ∧ k ≤ n) (hK : (K k).1 = 0) (hi : 0 ≤ gm_w e0 ∧ gm_w e0 < (K k).2) : gm_Sp X LX d mi pc L (gm_vi e0 :: gm_vr k :: st) n K R M (pc + 1) L (gm_vi (M k (gm_w e0)) :: st) n K R M 0 0 := by
  intro p l e Rm s m args below meth c D ti adK adV A hcx hev hd hd2 hA α H locs cells slots ls sv Q' hc1 hc2 hR hL hS k2
  obtain ⟨w0, sv, rfl, h0, hS⟩ := hS
  obtain ⟨w1, sv, rfl, ⟨rfl, -⟩, hS⟩ := hS
  cases h0
  have hdg := gm_dec hcx h rfl
  obtain ⟨hx, hb, -⟩ := id hcx
  obtain ⟨hKn, hP, hD, hSv, hRv⟩ := id hR
  have he := gm_wl_at (ti := ti) (α := α) (K := K) (R := R) (M := M) hk.1 hk.2
  have e1 : gm_en ti α K R M k = .inl (ti 0, (K k).2, .inl fun j => Int32.ofInt (M k j)) := by unfold gm_en; rw [hK]
  rw [e1] at he
  rw [gm_rf_pos hk.1 (Nat.lt_of_le_of_lt hk.2 hRv.1)]
  refine va_iald hx hb hKn hP (k - 1) 0 he rfl (gm_in hi.1 hi.2) hdg ?_
  rw [gm_wn hi.1]
  exact k2 α H locs ls _ gm_xt.rf hR hL ⟨_, _, rfl, rfl, hS⟩
theorem gm_p_bald {k : Nat} {e0 : Int} (h : gm_at mi pc = some .baload) (hk : 1 ≤ k ∧ k ≤ n) (hK : (K k).1 = 1) (hi : 0 ≤ gm_w e0 ∧ gm_w e0 < (K k).2) : gm_Sp X LX d mi pc L (gm_vi e0 :: gm_vr k :: st) n K R M (pc + 1) L (gm_vi (M k (gm_w e0)) :: st) n K R M 0 0 := by
  intro p l e Rm s m args below meth c D ti adK adV A hcx hev hd hd2 hA α H locs cells slots ls sv Q' hc1 hc2 hR hL hS k2
  obtain ⟨w0, sv, rfl, h0, hS⟩ := hS
  obtain ⟨w1, sv, rfl, ⟨rfl, -⟩, hS⟩ := hS
  cases h0
  have hdg := gm_dec hcx h rfl
  obtain ⟨hx, hb, -⟩ := id hcx
  obtain ⟨hKn, hP, hD, hSv, hRv⟩ := id hR
  have he := gm_wl_at (ti := ti) (α := α) (K := K) (R := R) (M := M) hk.1 hk.2
  have e1 : gm_en ti α K R M k = .inl (ti 1, (K k).2, .inl fun j => Int32.ofInt (M k j)) := by unfold gm_en; rw [hK]
  rw [e1] at he
  rw [gm_rf_pos hk.1 (Nat.lt_of_le_of_lt hk.2 hRv.1)]
  refine va_bald hx hb hKn hP (k - 1) 1 he rfl (gm_in hi.1 hi.2) hdg ?_
  rw [gm_wn hi.1]
  exact k2 α H locs ls _ gm_xt.rf hR hL ⟨_, _, rfl, rfl, hS⟩
theorem gm_p_lald {k : Nat} {e0 : Int} (h : gm_at mi pc = some .laload) (hk : 1 ≤ k ∧ k ≤ n) (hK : (K k).1 = 2) (hi : 0 ≤ gm_w e0 ∧ gm_w e0 < (K k).2) : gm_Sp X LX d mi pc L (gm_vi e0 :: gm_vr k :: st) n K R M (pc + 1) L (gm_vl (M k (gm_w e0)) :: st) n K R M 0 0 := by
  intro p l e Rm s m args below meth c D ti adK adV A hcx hev hd hd2 hA α H locs cells slots ls sv Q' hc1 hc2 hR hL hS k2
  obtain ⟨w0, sv, rfl, h0, hS⟩ := hS
  obtain ⟨w1, sv, rfl, ⟨rfl, -⟩, hS⟩ := hS
  cases h0
  have hdg := gm_dec hcx h rfl
  obtain ⟨hx, hb, -⟩ := id hcx
  obtain ⟨hKn, hP, hD, hSv, hRv⟩ := id hR
  have he := gm_wl_at (ti := ti) (α := α) (K := K) (R := R) (M := M) hk.1 hk.2
  have e1 : gm_en ti α K R M k = .inl (ti 2, (K k).2, .inr (.inl fun j => Int64.ofInt (M k j))) := by unfold gm_en; rw [hK]
  rw [e1] at he
  rw [gm_rf_pos hk.1 (Nat.lt_of_le_of_lt hk.2 hRv.1)]
  refine va_lald hx hb hKn hP (k - 1) 2 he rfl (gm_in hi.1 hi.2) hdg ?_
  rw [gm_wn hi.1]
  exact k2 α H locs ls _ gm_xt.rf hR hL ⟨_, _, rfl, rfl, hS⟩
theorem gm_p_aald {k : Nat} {e0 : Int} (h : gm_at mi pc = some .aaload) (hk : 1 ≤ k ∧ k ≤ n) (hK : (K k).1 = 3) (hi : 0 ≤ gm_w e0 ∧ gm_w e0 < (K k).2) : gm_Sp X LX d mi pc L (gm_vi e0 :: gm_vr k :: st) n K R M (pc + 1) L (gm_vr (R k (gm_w e0)) :: st) n K R M 0 0 := by
  intro p l e Rm s m args below meth c D ti adK adV A hcx hev hd hd2 hA α H locs cells slots ls sv Q' hc1 hc2 hR hL hS k2
  obtain ⟨w0, sv, rfl, h0, hS⟩ := hS
  obtain ⟨w1, sv, rfl, ⟨rfl, -⟩, hS⟩ := hS
  cases h0
  have hdg := gm_dec hcx h rfl
  obtain ⟨hx, hb, -⟩ := id hcx
  obtain ⟨hKn, hP, hD, hSv, hRv⟩ := id hR
  have he := gm_wl_at (ti := ti) (α := α) (K := K) (R := R) (M := M) hk.1 hk.2
  have e1 : gm_en ti α K R M k = .inl (ti 3, (K k).2, .inr (.inr (.inr (.inr fun j => gm_ro α (R k j))))) := by unfold gm_en; rw [hK]
  rw [e1] at he
  rw [gm_rf_pos hk.1 (Nat.lt_of_le_of_lt hk.2 hRv.1)]
  refine va_aldq hx hb hKn hP (k - 1) 3 he rfl (gm_in hi.1 hi.2) hdg ?_
  rw [gm_wn hi.1, gm_rf_ro]
  exact k2 α H locs ls _ gm_xt.rf hR hL ⟨_, _, rfl, ⟨rfl, hRv.2 _ _⟩, hS⟩
/-- the script -/
theorem gm_p_sald {e0 : Int} (h : gm_at mi pc = some .iaload) (hi : 0 ≤ gm_w e0 ∧ gm_w e0 < LX) : gm_Sp X LX d mi pc L (gm_vi e0 :: gm_vo 2000 :: st) n K R M (pc + 1) L (gm_vi (X (gm_w e0)) :: st) n K R M 0 0 := by
  intro p l e Rm s m args below meth c D ti adK adV A hcx hev hd hd2 hA α H locs cells slots ls sv Q' hc1 hc2 hR hL hS k2
  obtain ⟨w0, sv, rfl, h0, hS⟩ := hS
  obtain ⟨w1, sv, rfl, ⟨a, rfl, ha⟩, hS⟩ := hS
  cases h0
  have hdg := gm_dec hcx h rfl
  obtain ⟨hx, hb, -⟩ := id hcx
  obtain ⟨hKn, hP, hD, hSv, hRv⟩ := id hR
  obtain ⟨-, -, -, -, -, v1, v2, v3, -⟩ := hev
  rw [ha (by omega)]
  refine va_sld hx hb v1 v2 v3 hSv (gm_in hi.1 hi.2) hdg ?_
  rw [gm_wn hi.1]
  exact k2 α H locs ls _ gm_xt.rf hR hL ⟨_, _, rfl, rfl, hS⟩
theorem gm_ofNat (k : Nat) : Int32.ofNat k = Int32.ofInt (k : Int) := (Int32.ofInt_eq_ofNat).symm
theorem gm_p_slen (h : gm_at mi pc = some .arraylength) : gm_Sp X LX d mi pc L (gm_vo 2000 :: st) n K R M (pc + 1) L (gm_vi LX :: st) n K R M 0 0 := by
  intro p l e Rm s m args below meth c D ti adK adV A hcx hev hd hd2 hA α H locs cells slots ls sv Q' hc1 hc2 hR hL hS k2
  obtain ⟨w1, sv, rfl, ⟨a, rfl, ha⟩, hS⟩ := hS
  have hdg := gm_dec hcx h rfl
  obtain ⟨hx, hb, -⟩ := id hcx
  obtain ⟨hKn, hP, hD, hSv, hRv⟩ := id hR
  obtain ⟨-, -, -, -, -, v1, v2, v3, -⟩ := hev
  rw [ha (by omega)]
  refine va_slen hx hb v1 v2 v3 hSv hdg ?_
  exact k2 α H locs ls _ gm_xt.rf hR hL ⟨_, _, rfl, by rw [gm_ofNat]; rfl, hS⟩
theorem gm_p_alen {k : Nat} (h : gm_at mi pc = some .arraylength) (hk : 1 ≤ k ∧ k ≤ n) (hK : (K k).1 ≤ 3) : gm_Sp X LX d mi pc L (gm_vr k :: st) n K R M (pc + 1) L (gm_vi ((K k).2 : Int) :: st) n K R M 0 0 := by
  intro p l e Rm s m args below meth c D ti adK adV A hcx hev hd hd2 hA α H locs cells slots ls sv Q' hc1 hc2 hR hL hS k2
  obtain ⟨w1, sv, rfl, ⟨rfl, -⟩, hS⟩ := hS
  have hdg := gm_dec hcx h rfl
  obtain ⟨hx, hb, -⟩ := id hcx
  obtain ⟨hKn, hP, hD, hSv, hRv⟩ := id hR
  have he := gm_wl_at (ti := ti) (α := α) (K := K) (R := R) (M := M) hk.1 hk.2
  rw [gm_rf_pos hk.1 (Nat.lt_of_le_of_lt hk.2 hRv.1)]
  have k3 := k2 α H locs ls (Value.int (Int32.ofInt ((K k).2 : Int)) :: sv) gm_xt.rf hR hL ⟨_, _, rfl, rfl, hS⟩
  have hc : (K k).1 = 0 ∨ (K k).1 = 1 ∨ (K k).1 = 2 ∨ (K k).1 = 3 := by omega
  rcases hc with hc | hc | hc | hc
  · have e1 : gm_en ti α K R M k = .inl (ti 0, (K k).2, .inl fun j => Int32.ofInt (M k j)) := by unfold gm_en; rw [hc]
    rw [e1] at he
    exact va_alen hx hb hKn hP (k - 1) 0 he rfl (gm_ofNat _) hdg k3
  · have e1 : gm_en ti α K R M k = .inl (ti 1, (K k).2, .inl fun j => Int32.ofInt (M k j)) := by unfold gm_en; rw [hc]
    rw [e1] at he
    exact va_alen hx hb hKn hP (k - 1) 1 he rfl (gm_ofNat _) hdg k3
  · have e1 : gm_en ti α K R M k = .inl (ti 2, (K k).2, .inr (.inl fun j => Int64.ofInt (M k j))) := by unfold gm_en; rw [hc]
    rw [e1] at he
    exact va_alen hx hb hKn hP (k - 1) 2 he rfl (gm_ofNat _) hdg k3
  · have e1 : gm_en ti α K R M k = .inl (ti 3, (K k).2, .inr (.inr (.inr (.inr fun j => gm_ro α (R k j))))) := by unfold gm_en; rw [hc]
    rw [e1] at he
    exact va_alen hx hb hKn hP (k - 1) 3 he rfl (gm_ofNat _) hdg k3
theorem gm_updM {M : gm_M} {k : Nat} {e0 v : Int} (h : 0 ≤ gm_w e0) : upd (fun j => Int32.ofInt (M k j)) (Int32.ofInt e0).toNatClampNeg (Int32.ofInt v) = fun j : Nat => Int32.ofInt (gm_uM M k (gm_w e0) v k j) := by
  funext j
  unfold upd gm_uM
  have := gm_wn h
  by_cases hj : j = (Int32.ofInt e0).toNatClampNeg
  · rw [if_pos hj, if_pos ⟨rfl, by rw [hj]; exact this⟩]
  · rw [if_neg hj, if_neg (fun q => hj (by omega))]
theorem gm_p_iast {k : Nat} {e0 x : Int} (h : gm_at mi pc = some .iastore) (hk : 1 ≤ k ∧ k ≤ n) (hK : (K k).1 = 0) (hi : 0 ≤ gm_w e0 ∧ gm_w e0 < (K k).2) : gm_Sp X LX d mi pc L (gm_vi x :: gm_vi e0 :: gm_vr k :: st) n K R M (pc + 1) L st n K R (gm_uM M k (gm_w e0) x) 0 0 := by
  intro p l e Rm s m args below meth c D ti adK adV A hcx hev hd hd2 hA α H locs cells slots ls sv Q' hc1 hc2 hR hL hS k2
  obtain ⟨w2, sv, rfl, h2, hS⟩ := hS
  obtain ⟨w0, sv, rfl, h0, hS⟩ := hS
  obtain ⟨w1, sv, rfl, ⟨rfl, -⟩, hS⟩ := hS
  cases h0; cases h2
  have hdg := gm_dec hcx h rfl
  obtain ⟨hx, hb, -⟩ := id hcx
  obtain ⟨hKn, hP, hD, hSv, hRv⟩ := id hR
  have he := gm_wl_at (ti := ti) (α := α) (K := K) (R := R) (M := M) hk.1 hk.2
  have e1 : ∀ M : gm_M, gm_en ti α K R M k = .inl (ti 0, (K k).2, .inl fun j => Int32.ofInt (M k j)) := by intro M; unfold gm_en; rw [hK]
  rw [e1] at he
  rw [gm_rf_pos hk.1 (Nat.lt_of_le_of_lt hk.2 hRv.1)]
  refine va_iast hx hb hKn hP hD hSv (k - 1) 0 he rfl (gm_in hi.1 hi.2) hdg fun H1 locs1 p1 p2 p3 => ?_
  rw [gm_updM hi.1, gm_wl_set (M' := gm_uM M k (gm_w e0) x) (R' := R) hk.1 hk.2 (e1 _) (fun k' hk' => gm_en_uM hk')] at p1 p2
  exact k2 α H1 locs1 ls sv gm_xt.rf ⟨hKn, p1, p2, p3, hRv⟩ hL hS
theorem gm_p_bast {k : Nat} {e0 x : Int} (h : gm_at mi pc = some .bastore) (hk : 1 ≤ k ∧ k ≤ n) (hK : (K k).1 = 1) (hi : 0 ≤ gm_w e0 ∧ gm_w e0 < (K k).2) : gm_Sp X LX d mi pc L (gm_vi x :: gm_vi e0 :: gm_vr k :: st) n K R M (pc + 1) L st n K R (gm_uM M k (gm_w e0) (gm_wb x)) 0 0 := by
  intro p l e Rm s m args below meth c D ti adK adV A hcx hev hd hd2 hA α H locs cells slots ls sv Q' hc1 hc2 hR hL hS k2
  obtain ⟨w2, sv, rfl, h2, hS⟩ := hS
  obtain ⟨w0, sv, rfl, h0, hS⟩ := hS
  obtain ⟨w1, sv, rfl, ⟨rfl, -⟩, hS⟩ := hS
  cases h0; cases h2
  have hdg := gm_dec hcx h rfl
  obtain ⟨hx, hb, -⟩ := id hcx
  obtain ⟨hKn, hP, hD, hSv, hRv⟩ := id hR
  have he := gm_wl_at (ti := ti) (α := α) (K := K) (R := R) (M := M) hk.1 hk.2
  have e1 : ∀ M : gm_M, gm_en ti α K R M k = .inl (ti 1, (K k).2, .inl fun j => Int32.ofInt (M k j)) := by intro M; unfold gm_en; rw [hK]
  rw [e1] at he
  rw [gm_rf_pos hk.1 (Nat.lt_of_le_of_lt hk.2 hRv.1)]
  refine va_bast hx hb hKn hP hD hSv (k - 1) 1 he rfl (gm_in hi.1 hi.2) hdg fun H1 locs1 p1 p2 p3 => ?_
  rw [vp_nar_byte, gm_i2b, gm_updM hi.1, gm_wl_set (M' := gm_uM M k (gm_w e0) (gm_wb x)) (R' := R) hk.1 hk.2 (e1 _) (fun k' hk' => gm_en_uM hk')] at p1 p2
  exact k2 α H1 locs1 ls sv gm_xt.rf ⟨hKn, p1, p2, p3, hRv⟩ hL hS
theorem gm_updL {M : gm_M} {k : Nat} {e0 v : Int} (h : 0 ≤ gm_w e0) : vp_updL (fun j => Int64.ofInt (M k j)) (Int32.ofInt e0).toNatClampNeg (Int64.ofInt v) = fun j : Nat => Int64.ofInt (gm_uM M k (gm_w e0) v k j) := by
  funext j
  unfold vp_updL gm_uM
  have := gm_wn h
  by_cases hj : j = (Int32.ofInt e0).toNatClampNeg
  · rw [if_pos hj, if_pos ⟨rfl, by rw [hj]; exact this⟩]
  · rw [if_neg hj, if_neg (fun q => hj (by omega))]
theorem gm_p_last {k : Nat} {e0 x : Int} (h : gm_at mi pc = some .lastore) (hk : 1 ≤ k ∧ k ≤ n) (hK : (K k).1 = 2) (hi : 0 ≤ gm_w e0 ∧ gm_w e0 < (K k).2) : gm_Sp X LX d mi pc L (gm_vl x :: gm_vi e0 :: gm_vr k :: st) n K R M (pc + 1) L st n K R (gm_uM M k (gm_w e0) x) 0 0 := by
  intro p l e Rm s m args below meth c D ti adK adV A hcx hev hd hd2 hA α H locs cells slots ls sv Q' hc1 hc2 hR hL hS k2
  obtain ⟨w2, sv, rfl, h2, hS⟩ := hS
  obtain ⟨w0, sv, rfl, h0, hS⟩ := hS
  obtain ⟨w1, sv, rfl, ⟨rfl, -⟩, hS⟩ := hS
  cases h0; cases h2
  have hdg := gm_dec hcx h rfl
  obtain ⟨hx, hb, -⟩ := id hcx
  obtain ⟨hKn, hP, hD, hSv, hRv⟩ := id hR
  have he := gm_wl_at (ti := ti) (α := α) (K := K) (R := R) (M := M) hk.1 hk.2
  have e1 : ∀ M : gm_M, gm_en ti α K R M k = .inl (ti 2, (K k).2, .inr (.inl fun j => Int64.ofInt (M k j))) := by intro M; unfold gm_en; rw [hK]
  rw [e1] at he
  rw [gm_rf_pos hk.1 (Nat.lt_of_le_of_lt hk.2 hRv.1)]
  refine va_last hx hb hKn hP hD hSv (k - 1) 2 he rfl (gm_in hi.1 hi.2) hdg fun H1 locs1 p1 p2 p3 => ?_
  rw [gm_updL hi.1, gm_wl_set (M' := gm_uM M k (gm_w e0) x) (R' := R) hk.1 hk.2 (e1 _) (fun k' hk' => gm_en_uM hk')] at p1 p2
  exact k2 α H1 locs1 ls sv gm_xt.rf ⟨hKn, p1, p2, p3, hRv⟩ hL hS
end GA
end
/-! 08.new -/
section
/-! STEPS that make cells; constants. -/
theorem gm_new_spec {o ix ci : Nat} (h : gm_new o ix = some ci) : ci < 12 ∧ Jvm.Cond.classLink (gm_rn o) ix (gm_cn ci) ∈ gm_T ∧ Jvm.Cond.instantiable (gm_cn ci) (gm_nf ci) ∈ gm_T ∧ Jvm.Cond.initialized (gm_cn ci) ∈ gm_T := by
  unfold gm_new at h
  cases hr : gm_nl.find? (fun q => decide (q.1 = o ∧ q.2.1 = ix)) with
  | none => rw [hr] at h; cases h
  | some q =>
    rw [hr] at h
    have h1 := List.find?_some hr
    have h2 := List.mem_of_find?_eq_some hr
    have h3 := List.all_eq_true.mp gm_nl_ok q h2
    obtain ⟨a1, a2, a3, a4, a5, a6⟩ := q
    simp only [decide_eq_true_eq] at h1
    obtain ⟨rfl, rfl⟩ := h1
    simp only [Option.map_some, Option.some.injEq] at h
    subst h
    simp only [Bool.and_eq_true, decide_eq_true_eq] at h3
    obtain ⟨⟨⟨b1, b2⟩, b3⟩, b4⟩ := h3
    exact ⟨b1, gm_T_in b2 rfl, gm_T_in b3 rfl, gm_T_in b4 rfl⟩
theorem gm_cs_get {ci : Nat} (h : ci < 12) : ∃ T N, gm_cs[ci]? = some (gm_cn ci, T, N) ∧ N = gm_nf ci := by
  obtain ⟨⟨C, T, N⟩, hc⟩ : ∃ q, gm_cs[ci]? = some q := ⟨_, List.getElem?_eq_getElem (by simpa [gm_cs] using h)⟩
  have : gm_cn ci = C := by unfold gm_cn; rw [hc]; rfl
  rw [this]
  exact ⟨T, N, hc, (gm_cs_ok _ _ _ _ hc).2.1⟩
theorem gm_ti_eq {D : va_G} {ti : Nat → ClassId} {s : State} {cA : ClassId} {ty : FieldType} {i : Nat} {z : ClassId} (h1 : va_K D gm_cs (gm_ty ti) s) (hi : (gm_ty ti)[i]? = some (z, ty)) (h2 : va_K D gm_cs (gm_ty ti ++ [(cA, ty)]) s) : cA = z := by
  have a := (h1.2 i _ hi).2
  have b := (h2.2 4 (cA, ty) rfl).2
  cases ty with
  | object C =>
    obtain ⟨-, -, -, -, -, e1⟩ := a
    obtain ⟨-, -, -, -, -, e2⟩ := b
    exact Option.some.inj (e2.symm.trans e1)
  | _ => exact Option.some.inj ((show s.vm.findClass _ = some cA from b).symm.trans a)
theorem gm_al_self {α : Nat → Nat} {n q : Nat} (hn : n + 1 < 100000) : gm_rf (gm_al α n q) (n + 1) = .ref q := by rw [gm_rf_pos (by omega) hn]; simp [gm_al]
section GN
variable {X : Int → Int} {LX d bc bs mi pc : Nat} {L : gm_L} {st : List gm_V} {n : Nat} {K : gm_K} {R : gm_R} {M : gm_M} {Q : gm_Q}
theorem gm_p_new {ix ci : Nat} (hn9 : n + 1 < 100000) (h : gm_at mi pc = some (.new ix)) (hn : gm_new (gm_ow mi) ix = some ci) : gm_Sp X LX d mi pc L st n K R M (pc + 3) L (gm_vr (n + 1) :: st) (n + 1) (gm_nK K n (ci + 4) 0) (gm_nR R n) (gm_nM M n) 1 (gm_nf ci) := by
  intro p l e Rm s m args below meth c D ti adK adV A hcx hev hd hd2 hA α H locs cells slots ls sv Q' hc1 hc2 hR hL hS k2
  have hdg := gm_dec hcx h rfl
  obtain ⟨hx, hb, -, hown, -, -, hts, -⟩ := id hcx
  obtain ⟨hKn, hP, hD, hSv, hRv⟩ := id hR
  obtain ⟨hci, n1, n2, n3⟩ := gm_new_spec hn
  obtain ⟨T, N, hc, rfl⟩ := gm_cs_get hci
  obtain ⟨c1, -, c3, -, c5, ty, c6, c7⟩ := gm_cs_ok _ _ _ _ hc
  have ety : gm_fty ci = ty := by unfold gm_fty; rw [c6]; rfl
  have efs : ∀ q : Nat, gm_en ti (gm_al α n q) (gm_nK K n (ci + 4) 0) (gm_nR R n) (gm_nM M n) (n + 1) = .inr (ci, gm_fs α (gm_nR R n) (gm_nM M n) (n + 1) ci) := by
    intro q
    rw [gm_en_obj (ci := ci) (by simp [gm_nK])]
    have e1 : ∀ α : Nat → Nat, gm_fs α (gm_nR R n) (gm_nM M n) (n + 1) ci = (List.range (gm_nf ci)).map fun j => if gm_isr ci j = true then Value.null else .int (Int32.ofInt 0) := by
      intro α
      unfold gm_fs
      apply List.map_congr_left
      intro j _
      simp [gm_nR, gm_nM, gm_rf]
    rw [e1, e1]
  refine va_new (fs := gm_fs α (gm_nR R n) (gm_nM M n) (n + 1) ci) hx hb hts c1 ty c7 hown (hts _ n1) (hts _ n2) (hts _ n3) hKn hP hD hSv hA hc (fun j hj => ?_) hc1 hc2 hdg (fun q H1 p1 p2 p3 => ?_)
  · unfold vp_V
    rw [List.getD_eq_getElem?_getD, gm_fs_at hj, Option.getD_some]
    rcases (gm_kinds hci hj).1 with ⟨-, e2, e3⟩ | ⟨-, e2, e3⟩ | ⟨-, e2, e3⟩
    · rw [← ety, e2, e3]; simp [gm_nM]; rfl
    · rw [← ety, e2, e3]; simp [gm_nM]; rfl
    · rw [← ety, e3]
      rcases e2 with ⟨C, e2⟩ | ⟨C, e2⟩ <;> (rw [e2]; simp [gm_nR, gm_rf]; rfl)
  · rw [← efs q, gm_wl_push hn9 hRv rfl] at p1 p2
    refine k2 (gm_al α n q) H1 locs ls _ (gm_al_xt hn9) ⟨hKn, p1, p2, p3, gm_Rv_n hn9 hRv⟩ (gm_lr_ext (gm_al_xt hn9) hL) ⟨_, _, rfl, ⟨(gm_al_self hn9).symm, Or.inl (Nat.le_refl _)⟩, gm_sr_ext (gm_al_xt hn9) hS⟩
/-- a new array of numbers: kind 0 int, 1 byte, 2 long -/
theorem gm_p_newa {at0 : ArrayType} {kd : Nat} {e0 : Int} (hn9 : n + 1 < 100000) (h : gm_at mi pc = some (.newarray at0)) (hkd : (at0 = .int ∧ kd = 0) ∨ (at0 = .byte ∧ kd = 1) ∨ (at0 = .long ∧ kd = 2)) (hi : 0 ≤ gm_w e0 ∧ gm_w e0 < 60000000) : gm_Sp X LX d mi pc L (gm_vi e0 :: st) n K R M (pc + 2) L (gm_vr (n + 1) :: st) (n + 1) (gm_nK K n kd (gm_w e0).toNat) (gm_nR R n) (gm_nM M n) 1 (gm_w e0).toNat := by
  intro p l e Rm s m args below meth c D ti adK adV A hcx hev hd hd2 hA α H locs cells slots ls sv Q' hc1 hc2 hR hL hS k2
  obtain ⟨w0, sv, rfl, h0, hS⟩ := hS
  cases h0
  have hdg := gm_dec hcx h rfl
  obtain ⟨hx, hb, -, hown, -, -, hts, -⟩ := id hcx
  obtain ⟨hKn, hP, hD, hSv, hRv⟩ := id hR
  have hneg : ¬ Int32.ofInt e0 < 0 := fun q => by
    have := (gm_lt e0 0).mp q
    have e2 : gm_w 0 = 0 := rfl
    omega
  have hN : (Int32.ofInt e0).toNatClampNeg = (gm_w e0).toNat := gm_cl e0
  rcases hkd with ⟨rfl, rfl⟩ | ⟨rfl, rfl⟩ | ⟨rfl, rfl⟩
  · refine va_newa (atype := .int) (a0 := ((gm_w e0).toNat, .inl fun j => Int32.ofInt (gm_nM M n (n + 1) j))) hx hb (hts _ gm_ac_int) rfl hKn hP hD hSv hA (fun cA => ?_) hneg hN (by show (gm_w e0).toNat * 4 ≤ _; omega) hc1 hc2 hdg fun q cA H1 p0 p1 p2 p3 => ?_
    · have : (fun j : Nat => Int32.ofInt (gm_nM M n (n + 1) j)) = fun _ => 0 := by funext j; simp [gm_nM]
      rw [this]; rfl
    · cases gm_ti_eq (i := 0) hKn rfl p0
      have e1 : gm_en ti (gm_al α n q) (gm_nK K n 0 (gm_w e0).toNat) (gm_nR R n) (gm_nM M n) (n + 1) = .inl (ti 0, (gm_w e0).toNat, .inl fun j => Int32.ofInt (gm_nM M n (n + 1) j)) := by unfold gm_en; simp [gm_nK]
      rw [← e1, gm_wl_push hn9 hRv rfl] at p1 p2
      exact k2 (gm_al α n q) H1 locs ls _ (gm_al_xt hn9) ⟨hKn, p1, p2, p3, gm_Rv_n hn9 hRv⟩ (gm_lr_ext (gm_al_xt hn9) hL) ⟨_, _, rfl, ⟨(gm_al_self hn9).symm, Or.inl (Nat.le_refl _)⟩, gm_sr_ext (gm_al_xt hn9) hS⟩
  · refine va_newa (atype := .byte) (a0 := ((gm_w e0).toNat, .inl fun j => Int32.ofInt (gm_nM M n (n + 1) j))) hx hb (hts _ gm_ac_byte) rfl hKn hP hD hSv hA (fun cA => ?_) hneg hN (by show (gm_w e0).toNat * 1 ≤ _; omega) hc1 hc2 hdg fun q cA H1 p0 p1 p2 p3 => ?_
    · have : (fun j : Nat => Int32.ofInt (gm_nM M n (n + 1) j)) = fun _ => 0 := by funext j; simp [gm_nM]
      rw [this]; rfl
    · cases gm_ti_eq (i := 1) hKn rfl p0
      have e1 : gm_en ti (gm_al α n q) (gm_nK K n 1 (gm_w e0).toNat) (gm_nR R n) (gm_nM M n) (n + 1) = .inl (ti 1, (gm_w e0).toNat, .inl fun j => Int32.ofInt (gm_nM M n (n + 1) j)) := by unfold gm_en; simp [gm_nK]
      rw [← e1, gm_wl_push hn9 hRv rfl] at p1 p2
      exact k2 (gm_al α n q) H1 locs ls _ (gm_al_xt hn9) ⟨hKn, p1, p2, p3, gm_Rv_n hn9 hRv⟩ (gm_lr_ext (gm_al_xt hn9) hL) ⟨_, _, rfl, ⟨(gm_al_self hn9).symm, Or.inl (Nat.le_refl _)⟩, gm_sr_ext (gm_al_xt hn9) hS⟩
  · refine va_newa (atype := .long) (a0 := ((gm_w e0).toNat, .inr (.inl fun j => Int64.ofInt (gm_nM M n (n + 1) j)))) hx hb (hts _ gm_ac_long) rfl hKn hP hD hSv hA (fun cA => ?_) hneg hN (by show (gm_w e0).toNat * 8 ≤ _; omega) hc1 hc2 hdg fun q cA H1 p0 p1 p2 p3 => ?_
    · have : (fun j : Nat => Int64.ofInt (gm_nM M n (n + 1) j)) = fun _ => 0 := by funext j; simp [gm_nM]
      rw [this]; rfl
    · cases gm_ti_eq (i := 2) hKn rfl p0
      have e1 : gm_en ti (gm_al α n q) (gm_nK K n 2 (gm_w e0).toNat) (gm_nR R n) (gm_nM M n) (n + 1) = .inl (ti 2, (gm_w e0).toNat, .inr (.inl fun j => Int64.ofInt (gm_nM M n (n + 1) j))) := by unfold gm_en; simp [gm_nK]
      rw [← e1, gm_wl_push hn9 hRv rfl] at p1 p2
      exact k2 (gm_al α n q) H1 locs ls _ (gm_al_xt hn9) ⟨hKn, p1, p2, p3, gm_Rv_n hn9 hRv⟩ (gm_lr_ext (gm_al_xt hn9) hL) ⟨_, _, rfl, ⟨(gm_al_self hn9).symm, Or.inl (Nat.le_refl _)⟩, gm_sr_ext (gm_al_xt hn9) hS⟩
/-- a new row of states -/
theorem gm_p_anew {ix ci : Nat} {e0 : Int} (hn9 : n + 1 < 100000) (h : gm_at mi pc = some (.anewarray ix)) (hn : gm_new (gm_ow mi) ix = some ci) (hci : gm_cn ci = "GlacierMail$State") (hi : 0 ≤ gm_w e0 ∧ gm_w e0 < 60000000) : gm_Sp X LX d mi pc L (gm_vi e0 :: st) n K R M (pc + 3) L (gm_vr (n + 1) :: st) (n + 1) (gm_nK K n 3 (gm_w e0).toNat) (gm_nR R n) (gm_nM M n) 1 (gm_w e0).toNat := by
  intro p l e Rm s m args below meth c D ti adK adV A hcx hev hd hd2 hA α H locs cells slots ls sv Q' hc1 hc2 hR hL hS k2
  obtain ⟨w0, sv, rfl, h0, hS⟩ := hS
  cases h0
  have hdg := gm_dec hcx h rfl
  obtain ⟨hx, hb, -, hown, -, -, hts, -⟩ := id hcx
  obtain ⟨hKn, hP, hD, hSv, hRv⟩ := id hR
  have hneg : ¬ Int32.ofInt e0 < 0 := fun q => by
    have := (gm_lt e0 0).mp q
    have e2 : gm_w 0 = 0 := rfl
    omega
  obtain ⟨-, n1, -, -⟩ := gm_new_spec hn
  rw [hci] at n1
  obtain ⟨-, -, -, -, -, -, -, -, v4, -⟩ := hev
  refine va_newq hx hb hown (hts _ n1) v4 hKn hP hD hSv hA hneg (gm_cl e0) (by omega) hc1 hc2 hdg fun q cA H1 p0 p1 p2 p3 => ?_
  cases gm_ti_eq (i := 3) hKn rfl p0
  have e1 : gm_en ti (gm_al α n q) (gm_nK K n 3 (gm_w e0).toNat) (gm_nR R n) (gm_nM M n) (n + 1) = .inl (ti 3, (gm_w e0).toNat, .inr (.inr (.inr (.inr fun _ => none)))) := by
    unfold gm_en; simp [gm_nK, gm_nR, gm_ro]
  rw [← e1, gm_wl_push hn9 hRv rfl] at p1 p2
  exact k2 (gm_al α n q) H1 locs ls _ (gm_al_xt hn9) ⟨hKn, p1, p2, p3, gm_Rv_n hn9 hRv⟩ (gm_lr_ext (gm_al_xt hn9) hL) ⟨_, _, rfl, ⟨(gm_al_self hn9).symm, Or.inl (Nat.le_refl _)⟩, gm_sr_ext (gm_al_xt hn9) hS⟩
theorem gm_p_aast {k r ci : Nat} {e0 : Int} (h : gm_at mi pc = some .aastore) (hk : 1 ≤ k ∧ k ≤ n) (hK : (K k).1 = 3) (hi : 0 ≤ gm_w e0 ∧ gm_w e0 < (K k).2) (hr : 1 ≤ r ∧ r ≤ n) (hKr : (K r).1 = ci + 4) (hci : ci < 12) (hcn : gm_cn ci = "GlacierMail$State") : gm_Sp X LX d mi pc L (gm_vr r :: gm_vi e0 :: gm_vr k :: st) n K R M (pc + 1) L st n K (gm_uR R k (gm_w e0) r) M 0 0 := by
  intro p l e Rm s m args below meth c D ti adK adV A hcx hev hd hd2 hA α H locs cells slots ls sv Q' hc1 hc2 hR hL hS k2
  obtain ⟨w2, sv, rfl, ⟨rfl, -⟩, hS⟩ := hS
  obtain ⟨w0, sv, rfl, h0, hS⟩ := hS
  obtain ⟨w1, sv, rfl, ⟨rfl, -⟩, hS⟩ := hS
  cases h0
  have hdg := gm_dec hcx h rfl
  obtain ⟨hx, hb, -⟩ := id hcx
  obtain ⟨hKn, hP, hD, hSv, hRv⟩ := id hR
  have he := gm_wl_at (ti := ti) (α := α) (K := K) (R := R) (M := M) hk.1 hk.2
  have he2 := gm_wl_at (ti := ti) (α := α) (K := K) (R := R) (M := M) hr.1 hr.2
  rw [gm_en_obj hKr] at he2
  have e1 : ∀ R : gm_R, gm_en ti α K R M k = .inl (ti 3, (K k).2, .inr (.inr (.inr (.inr fun j => gm_ro α (R k j))))) := by intro R; unfold gm_en; rw [hK]
  rw [e1] at he
  obtain ⟨T, N, hc, -⟩ := gm_cs_get hci
  rw [gm_rf_pos hk.1 (Nat.lt_of_le_of_lt hk.2 hRv.1), gm_rf_pos hr.1 (Nat.lt_of_le_of_lt hr.2 hRv.1)]
  refine va_astq hx hb hKn hP hD hSv (k - 1) 3 (r - 1) ci he (by rw [hcn]; rfl) he2 hc (gm_in hi.1 hi.2) hdg fun H1 locs1 p1 p2 p3 => ?_
  have e2 : va_up (fun j : Nat => gm_ro α (R k j)) (Int32.ofInt e0).toNatClampNeg (some (α r)) = fun j : Nat => gm_ro α (gm_uR R k (gm_w e0) r k j) := by
    funext j
    unfold va_up gm_uR
    have := gm_wn hi.1
    by_cases hj : j = (Int32.ofInt e0).toNatClampNeg
    · rw [if_pos hj, if_pos ⟨rfl, by rw [hj]; exact this⟩]
      rw [gm_ro_pos hr.1 (Nat.lt_of_le_of_lt hr.2 hRv.1)]
    · rw [if_neg hj, if_neg (fun q => hj (by omega))]
  rw [e2, gm_wl_set (M' := M) (R' := gm_uR R k (gm_w e0) r) hk.1 hk.2 (e1 _) (fun k' hk' => gm_en_uR hk')] at p1 p2
  exact k2 α H1 locs1 ls sv gm_xt.rf ⟨hKn, p1, p2, p3, gm_Rv_uR hRv (Or.inl hr.2)⟩ hL hS
theorem gm_ild_spec {o ix k : Nat} {v : Int} (h : gm_ild o ix = some (v, k)) : (if k = 0 then Jvm.Cond.constant (gm_rn o) ix (Int32.ofInt v) else .constantLong (gm_rn o) ix (Int64.ofInt v)) ∈ gm_T := by
  unfold gm_ild at h
  cases hr : gm_il.find? (fun q => decide (q.1 = o ∧ q.2.1 = ix)) with
  | none => rw [hr] at h; cases h
  | some q =>
    rw [hr] at h
    have h1 := List.find?_some hr
    have h3 := List.all_eq_true.mp gm_il_ok q (List.mem_of_find?_eq_some hr)
    obtain ⟨a1, a2, a3, a4, a5⟩ := q
    simp only [decide_eq_true_eq] at h1
    obtain ⟨rfl, rfl⟩ := h1
    simp only [Option.map_some, Option.some.injEq, Prod.mk.injEq] at h
    obtain ⟨rfl, rfl⟩ := h
    simp only [decide_eq_true_eq] at h3
    refine gm_T_in h3 ?_
    split <;> rfl
theorem gm_p_ldci {i : Instr} {ix : Nat} {v : Int} (h : gm_at mi pc = some i) (hi : i = .ldc ix ∨ i = .ldc_w ix) (hv : gm_ild (gm_ow mi) ix = some (v, 0)) : gm_Sp X LX d mi pc L st n K R M (pc + gm_len i) L (gm_vi v :: st) n K R M 0 0 := by
  refine gm_stk fun p l e Rm s m args below meth c hcx α adK H locs cells slots ls sv Q' hL hS k => ?_
  have hdg := gm_dec hcx h (by rcases hi with rfl | rfl <;> rfl)
  obtain ⟨hx, hb, -, hown, -, -, hts, -⟩ := hcx
  have hw := hts _ (gm_ild_spec hv)
  rcases hi with rfl | rfl
  · exact lv_ldc hx hb hown hw hdg (k _ ⟨_, _, rfl, rfl, hS⟩)
  · exact lv_ldcw hx hb hown hw hdg (k _ ⟨_, _, rfl, rfl, hS⟩)
theorem gm_p_ldcl {ix : Nat} {v : Int} (h : gm_at mi pc = some (.ldc2_w ix)) (hv : gm_ild (gm_ow mi) ix = some (v, 1)) : gm_Sp X LX d mi pc L st n K R M (pc + 3) L (gm_vl v :: st) n K R M 0 0 := by
  refine gm_stk fun p l e Rm s m args below meth c hcx α adK H locs cells slots ls sv Q' hL hS k => ?_
  have hdg := gm_dec hcx h rfl
  obtain ⟨hx, hb, -, hown, -, -, hts, -⟩ := hcx
  have hw := hts _ (gm_ild_spec hv)
  exact lv_ldc2 hx hb hown hw hdg (k _ ⟨_, _, rfl, rfl, hS⟩)
end GN
end
/-! 09.call -/
section
/-! CALLS: a method's judgement from its entry is a contract; a caller goes on behind it. -/
theorem gm_owc : (List.range 370).all (fun i => decide (gm_rn (gm_ow i) = (gm_mn i).cls)) = true := by decide +kernel
/-- the number of java/lang/Math in gm_rnl: its methods are the machine's own -/
def gm_mxi : Nat := 6
theorem gm_mxi_ok : gm_rn gm_mxi = "java/lang/Math" := rfl
theorem gm_plm : (List.range 370).all (fun i => decide (gm_ow i = gm_mxi) || plainName (gm_mn i).cls) = true := by decide +kernel
theorem gm_Ev_to {X : Int → Int} {LX : Nat} {adK adV : Nat → Nat} {A B : Nat → Prop} {s U : State} (h : gm_Ev X LX adK adV A s) (hW : s.WarmedH U.vm) (hz : s.heap.size ≤ U.heap.size) (hk : ∀ a : Nat, a < s.heap.size → ¬ A a → U.heap[a]? = s.heap[a]?) (hAB : ∀ q, B q → A q) : gm_Ev X LX adK adV B U := by
  obtain ⟨h1, h2, h3, h4, h5, h6, h7, h8, h9, h10, h11, h12, h13⟩ := h
  have hvm := hW.alike
  have hca : ∀ a b : String, va_Nw (.castable a b) s → va_Nw (.castable a b) U := fun a b h => va_tabs (c := .castable a b) rfl (rfl : (s.setVm U.vm).vm = U.vm) (by rw [Cond.castable_setVm hvm]; exact h)
  refine ⟨fun i hi => (((h1 i hi).moved hvm).kept hk).narrow hAB, fun q hq => vk_R.warm hW (h2 q hq), ((h3.moved hvm).kept hk).narrow hAB, ((h4.moved hvm).kept hk).narrow hAB, ⟨((h5.1.moved hvm).kept hk).narrow hAB, ((h5.2.1.moved hvm).kept hk).narrow hAB, h5.2.2⟩, (h6.moved hvm).kept (hk _ h7 h8), Nat.lt_of_lt_of_le h7 hz, fun q => h8 (hAB _ q), va_AO.moved hvm h9, fun q hq => va_Nw.warmM hW (h10 q hq), hca _ _ h11, fun x y hx hy => ?_, fun y hy => va_tabs (c := .declares y) rfl (rfl : (s.setVm U.vm).vm = U.vm) (by rw [Cond.declares_setVm hvm]; exact h13 y hy)⟩
  have h := h12 x y hx hy
  split
  · rename_i e
    rw [if_pos e] at h
    exact hca _ _ h
  · rename_i e
    rw [if_neg e] at h
    obtain ⟨a, b, c1, c2, c3⟩ := h
    exact ⟨a, b, by rw [hvm.findClass]; exact c1, by rw [hvm.findClass]; exact c2, by rw [hvm.assignable]; exact c3⟩
theorem gm_sr_at {α adK : Nat → Nat} {n : Nat} : ∀ {vs : List gm_V} {ws : List Value}, gm_sr α adK n vs ws → ws.length = vs.length ∧ ∀ (i : Nat) (v : gm_V), vs[i]? = some v → ∃ w, ws[i]? = some w ∧ gm_cv α adK n v w := by
  intro vs
  induction vs with
  | nil => intro ws h; cases h; exact ⟨rfl, fun i v h => by simp at h⟩
  | cons v vs ih =>
    intro ws h
    obtain ⟨w, ws', rfl, hw, h⟩ := h
    obtain ⟨h1, h2⟩ := ih h
    refine ⟨by simp [h1], fun i u hu => ?_⟩
    cases i with
    | zero => simp at hu; subst hu; exact ⟨w, rfl, hw⟩
    | succ i => simpa using h2 i u (by simpa using hu)
theorem gm_sr_app {α adK : Nat → Nat} {n : Nat} : ∀ {vs us : List gm_V} {ws : List Value}, gm_sr α adK n (vs ++ us) ws → ∃ w1 w2, ws = w1 ++ w2 ∧ gm_sr α adK n vs w1 ∧ gm_sr α adK n us w2 := by
  intro vs
  induction vs with
  | nil => intro us ws h; exact ⟨[], ws, rfl, rfl, h⟩
  | cons v vs ih =>
    intro us ws h
    obtain ⟨w, ws', rfl, hw, h⟩ := h
    obtain ⟨w1, w2, rfl, a, b⟩ := ih h
    exact ⟨w :: w1, w2, rfl, ⟨w, w1, rfl, hw, a⟩, b⟩
theorem gm_sr_snoc {α adK : Nat → Nat} {n : Nat} : ∀ {vs : List gm_V} {ws : List Value} {v : gm_V} {w : Value}, gm_sr α adK n vs ws → gm_cv α adK n v w → gm_sr α adK n (vs ++ [v]) (ws ++ [w]) := by
  intro vs
  induction vs with
  | nil => intro ws v w h hv; cases h; exact ⟨w, [], rfl, hv, rfl⟩
  | cons u vs ih =>
    intro ws v w h hv
    obtain ⟨x, ws', rfl, hx, h⟩ := h
    exact ⟨x, ws' ++ [w], rfl, hx, ih h hv⟩
theorem gm_sr_rev {α adK : Nat → Nat} {n : Nat} : ∀ {vs : List gm_V} {ws : List Value}, gm_sr α adK n vs ws → gm_sr α adK n vs.reverse ws.reverse := by
  intro vs
  induction vs with
  | nil => intro ws h; cases h; rfl
  | cons u vs ih =>
    intro ws h
    obtain ⟨x, ws', rfl, hx, h⟩ := h
    rw [List.reverse_cons, List.reverse_cons]
    exact gm_sr_snoc (ih h) hx
/-- the locals at a method's entry -/
def gm_ent (mj : Nat) (vs : List gm_V) : gm_L := vs.map some ++ List.replicate (gm_ml mj - vs.length) none
theorem gm_lg_len : ∀ {ws : List Value}, (∀ w ∈ ws, w.category = 1) → (lg_sl ws).length = ws.length := by
  intro ws
  induction ws with
  | nil => intro _; rfl
  | cons w ws ih =>
    intro h
    have h1 := h w List.mem_cons_self
    have h2 := ih fun x hx => h x (List.mem_cons_of_mem _ hx)
    have : lg_sl (w :: ws) = [Slot.val w] ++ lg_sl ws := by simp [lg_sl, h1]
    rw [this, List.length_append, h2]; simp; omega
theorem gm_args_at : ∀ {ws : List Value}, (∀ w ∈ ws, w.category = 1) → ∀ (i0 i : Nat) (w : Value), ws[i]? = some w → (i0 + i, w) ∈ lv_args i0 ws := by
  intro ws
  induction ws with
  | nil => intro _ i0 i w h; simp at h
  | cons x ws ih =>
    intro h i0 i w hi
    have h1 := h x List.mem_cons_self
    have e : lv_args i0 (x :: ws) = (i0, x) :: lv_args (i0 + 1) ws := by simp [lv_args, h1]
    rw [e]
    cases i with
    | zero => simp at hi; subst hi; exact List.mem_cons_self
    | succ i =>
      have := ih (fun y hy => h y (List.mem_cons_of_mem _ hy)) (i0 + 1) i w (by simpa using hi)
      rw [show i0 + (i + 1) = i0 + 1 + i by omega]
      exact List.mem_cons_of_mem _ this
theorem gm_lr_ent {α adK : Nat → Nat} {n mj : Nat} {vs : List gm_V} {ws : List Value} (h : gm_sr α adK n vs ws) (hcat : ∀ v ∈ vs, ¬ gm_sort v = 1) (hlen : vs.length ≤ gm_ml mj) : gm_lr α adK n (gm_ml mj) (gm_ent mj vs) ((lg_sl ws ++ List.replicate (gm_ml mj - (lg_sl ws).length) Slot.unset).toArray) := by
  obtain ⟨hl, hat⟩ := gm_sr_at h
  have hc : ∀ w ∈ ws, w.category = 1 := by
    intro w hw
    obtain ⟨i, hi⟩ := List.getElem?_of_mem hw
    have hlt : i < ws.length := (List.getElem?_eq_some_iff.mp hi).1
    have hv : vs[i]? = some (vs[i]'(by omega)) := List.getElem?_eq_getElem (by omega)
    obtain ⟨w', e, c⟩ := hat i _ hv
    rw [hi] at e; cases e
    exact gm_cat1 c (hcat _ (List.mem_of_getElem? hv))
  refine ⟨by simp [gm_ent]; omega, _, lv_entry ws (by rw [gm_lg_len hc]; omega), fun i v hi => ?_⟩
  unfold gm_ent at hi
  by_cases hlt : i < vs.length
  · rw [List.getElem?_append_left (by simpa using hlt), List.getElem?_map] at hi
    cases hv : vs[i]? with
    | none => rw [hv] at hi; simp at hi
    | some u =>
      rw [hv] at hi
      simp at hi
      subst hi
      obtain ⟨w, e, c⟩ := hat i u hv
      have := gm_args_at hc 0 i w e
      rw [Nat.zero_add] at this
      exact ⟨w, c, this⟩
  · rw [List.getElem?_append_right (by simpa using hlt)] at hi
    have := List.mem_of_getElem? hi
    have := List.eq_of_mem_replicate this
    cases this
theorem gm_mck_spec {mj : Nat} (h : mj < 370) : gm_cwd mj ∈ gm_T ∧ (gm_ow mj ≠ gm_mxi → plainName (gm_mn mj).cls = true) ∧ ((gm_mn mj).cls ≠ "java/lang/invoke/MethodHandle" ∧ (gm_mn mj).cls ≠ "java/lang/invoke/VarHandle") ∧ (parseMethodDescriptor (gm_mn mj).desc).map (fun d => d.parameters.length) = some (gm_na mj) ∧ gm_ml mj ≤ 200 ∧ gm_rn (gm_ow mj) = (gm_mn mj).cls := by
  have h1 := gm_mck_ok h
  have h2 := List.all_eq_true.mp gm_owc mj (List.mem_range.mpr h)
  have h3 := List.all_eq_true.mp gm_plm mj (List.mem_range.mpr h)
  simp only [gm_mck, Bool.and_eq_true, decide_eq_true_eq] at h1 h2
  obtain ⟨b, c, d⟩ := h1
  refine ⟨gm_cp_ok h, fun q => ?_, b, c, d, h2⟩
  simp only [Bool.or_eq_true, decide_eq_true_eq] at h3
  rcases h3 with h3 | h3
  · exact absurd h3 q
  · exact h3
section GC
variable {X : Int → Int} {LX d bc bs mi pc : Nat} {L : gm_L} {st : List gm_V} {n : Nat} {K : gm_K} {R : gm_R} {M : gm_M} {Q : gm_Q}
/-- the contract of a method without handlers, for one state of the cells -/
theorem gm_met {mj : Nat} {vs : List gm_V} {avs : List Value} (hm : mj < 370) (hmx : gm_ow mj ≠ gm_mxi) (hh : gm_hh mj = []) (l : Launch) (hl : l.stackTraces = false) {D : va_G} {ti : Nat → ClassId} {adK adV α : Nat → Nat} {A' : Nat → Prop} {H : Heap}
    (hW : gm_Wp X LX d bc bs mj 0 (gm_ent mj vs) [] n K R M Q) (hvs : gm_sr α adK n vs avs) (hcat : ∀ v ∈ vs, ¬ gm_sort v = 1) (hlen : vs.length ≤ gm_ml mj) (hP : va_P D gm_cs (gm_wl ti α n K R M) H) (hD : va_D A' (gm_wl ti α n K R M)) (hRv : gm_Rv n R) (hA' : ∀ q, H.size ≤ q → A' q) :
    vx_Met l (gm_mn mj) (gm_cwd mj :: gm_T) ({ frames := d, cells := bc, slots := bs, locals := d * 300 }) (va_Pc avs (fun U => U.heap = H ∧ gm_Ev X LX adK adV A' U ∧ va_K D gm_cs (gm_ty ti) U)) (gm_QC D ti adK A' α n Q) (gm_XC D ti A' α n Q) bc bs A' := by
  obtain ⟨-, hpl, -, -, -, hown9⟩ := gm_mck_spec hm
  refine vx_ofW (cc := gm_bc mj) (maxL := gm_ml mj) (ret := gm_rt mj) (ws' := gm_T) (hpl hmx) (by unfold gm_cwd; rw [if_pos hh]) ?_
  intro p e s m args below meth c s₁ B hml hex hv
  obtain ⟨rfl, hsz, hev, hK⟩ := hv
  have hts := atoms_spec (ws := gm_cwd mj :: gm_T) B.pre
  have hown : s.vm.findClass (gm_mn mj).cls = some m.cls := findClass_of_methodNamed B.named
  have hin : meth.name = (gm_mn mj).name := (name_of_methodNamed B.named B.method).1
  have htab : c.exceptionTable.toList = tableOf (gm_hh mj) := by
    rw [hh]
    cases hx : c.exceptionTable.toList with
    | nil => rfl
    | cons x xs => exact absurd (hex x (by rw [hx]; exact List.mem_cons_self)) id
  subst hsz
  rw [lg_entry_eq]
  exact hW p l e _ s m _ below meth c D ti adK adV A' α n bc bs ⟨B.exec, B.bytes, hml, by rw [hown9]; exact hown, B.returns, B.notSynchronized, fun w hw => hts w (List.mem_cons_of_mem _ hw), hin, hl, (by omega), htab⟩ hev (Nat.le_refl _) (Nat.le_refl _) (Nat.le_refl _) (Nat.le_refl _) hA' α s.heap [] 0 0 _ [] gm_xt.rf (by omega) (by omega) ⟨hK, hP, hD, va_S.rf, hRv⟩ (gm_lr_ent hvs hcat hlen) rfl
theorem gm_blind {avs : List Value} {H : Heap} {D : va_G} {ti : Nat → ClassId} {adK adV : Nat → Nat} {A' : Nat → Prop} : FrameBlind (va_Pc avs (fun U => U.heap = H ∧ gm_Ev X LX adK adV A' U ∧ va_K D gm_cs (gm_ty ti) U)) := by
  intro a U g mk h
  obtain ⟨h0, h1, h2, h3⟩ := h
  exact ⟨h0, h1, gm_Ev_to (U := U.calling g mk a) h2 (State.WarmedH.refl U) (Nat.le_refl _) (fun _ _ _ => rfl) (fun _ h => h), va_K.moved (u := U) (U := U.calling g mk a) (Vm.Alike.refl U.vm) h3⟩
/-- behind a call -/
theorem gm_after {p : Program} {l : Launch} {e : Env} {Rm : Room} {s : State} {m : MethodId} {args : Array Value} {below : List Frame} {meth : Method} {c : Code} {H : Heap} {locs : List Loc} {cells slots mc ms : Nat} {D : va_G} {ti : Nat → ClassId} {adK α : Nat → Nat} {A0 A1 : Nat → Prop} {a : Array Value} {ls : Array Slot} {st0 rest : List Value} {Qf : State → Prop} {H0 : Heap} {Q' : gm_Q}
    (hr : vx_Run p l e Rm s m args below meth c H locs cells slots mc ms (F0 m pc ls st0) rest (gm_QC D ti adK A1 α n Q' a) (gm_XC D ti A1 α n Q') A1) (hS : va_S A0 H0 H locs) (hA1 : ∀ q, A1 q → A0 q)
    (kk : ∀ (v : Option Value) (u : Option gm_V) (α' : Nat → Nat) (n' : Nat) (K' : gm_K) (R' : gm_R) (M' : gm_M) (H1 : Heap) (locs1 : List Loc), gm_ov α' adK n' u v → Q' (.inl u) n' K' R' M' → gm_xt α n α' n' → va_K D gm_cs (gm_ty ti) s → va_P D gm_cs (gm_wl ti α' n' K' R' M') H1 → va_D A0 (gm_wl ti α' n' K' R' M') → gm_Rv n' R' → va_S A0 H0 H1 locs1 → W p l e Rm s m args below meth c H1 locs1 (cells + mc) (slots + ms) Qf (F0 m (pc + 3) ls (v.toList ++ rest)))
    (kx : ∀ (x : Nat) (ce : Cell) (q9 : Addr) (α' : Nat → Nat) (n' : Nat) (K' : gm_K) (R' : gm_R) (M' : gm_M) (H1 : Heap) (locs1 : List Loc), x < 5 → Q' (.inr x) n' K' R' M' → gm_xt α n α' n' → va_K D gm_cs (gm_ty ti) s → va_P D gm_cs (gm_wl ti α' n' K' R' M') H1 → va_D A0 (gm_wl ti α' n' K' R' M') → gm_Rv n' R' → va_S A0 H0 H1 locs1 → H1[q9]? = some ce → ce.vm = .none → s.vm.findClass (gm_xn x) = some ce.cls → vx_W p l e Rm s m args below meth c H1 locs1 (cells + mc) (slots + ms) Qf (F0 m pc ls rest) q9) :
    W p l e Rm s m args below meth c H locs cells slots Qf (F0 m pc ls st0) := by
  intro T hT Xs
  rcases hr T hT Xs with ⟨v, st₀, t, T', L9, h0, X', hL9, e1, e2, ⟨⟨v', u, α', n', K', R', M', hv, ho, hq, hxt, hk, hp, hd9, hrv⟩, hF⟩, stp⟩ | ⟨q, st₀, t, T', L9, E, ce, h0, X', hL9, e1, e2, ⟨⟨x, α', n', K', R', M', rfl, hx5, hq, hxt, hk, hp, hd9, hrv⟩, hF⟩, hce, hcv, hcl, stp⟩
  · cases hv
    obtain ⟨k1, k2, k3⟩ := vx_keep h0 e1 hS (fun q _ h => hA1 q h) hA1 hL9 hF
    have hvm : s.vm.Alike t.vm := by rw [← e2]; exact X'.warmed.alike
    obtain ⟨t2, a1, b1⟩ := kk v u α' n' K' R' M' T'.heap (locs ++ L9) ho hq hxt (va_K.moved hvm.symm hk) (by rw [e1]; exact hp) (hd9.weaken fun _ _ _ h => hA1 _ h) hrv k3 T' rfl X'
    exact ⟨t2, stp t2 a1, b1⟩
  · obtain ⟨k1, k2, k3⟩ := vx_keep h0 e1 hS (fun q _ h => hA1 q h) hA1 hL9 hF
    have hvm : s.vm.Alike t.vm := by rw [← e2]; exact X'.warmed.alike
    obtain ⟨t2, a1, b1⟩ := kx x ce q α' n' K' R' M' T'.heap (locs ++ L9) hx5 hq hxt (va_K.moved hvm.symm hk) (by rw [e1]; exact hp) (hd9.weaken fun _ _ _ h => hA1 _ h) hrv k3 (by rw [e1]; exact hce) hcv hcl T' rfl X'
    exact ⟨t2, stp.trans a1, b1⟩
/-- what a callee owes its caller: the caller goes on with the value; a throw goes on to the caller's end -/
def gm_cont (X : Int → Int) (LX d bc bs mi pc : Nat) (L : gm_L) (st : List gm_V) (Q : gm_Q) : gm_Q := fun o n K R M => match o with
  | .inl u => gm_Wp X LX d bc bs mi pc L (u.toList ++ st) n K R M Q
  | .inr x => Q (.inr x) n K R M
theorem gm_tail {p : Program} {l : Launch} {e : Env} {Rm : Room} {s : State} {m : MethodId} {args : Array Value} {below : List Frame} {meth : Method} {c : Code} {H : Heap} {locs : List Loc} {cells slots bc' bs' mc ms n0 : Nat} {D : va_G} {ti : Nat → ClassId} {adK adV α α0 : Nat → Nat} {A A1 : Nat → Prop} {a : Array Value} {ls : Array Slot} {sv0 sv : List Value}
    (hh : gm_hh mi = []) (hcx : gm_Cx mi p l s m args meth c) (hev : gm_Ev X LX adK adV A s) (hd : d ≤ Rm.frames) (hd2 : d * 300 ≤ Rm.locals) (hmc : mc ≤ Rm.cells) (hms : ms ≤ Rm.slots) (hA : ∀ q, s.heap.size ≤ q → A q) (hxt : gm_xt α0 n0 α n) (hb1 : bc' ≤ bc) (hb2 : bs' ≤ bs) (hc1 : cells + bc ≤ mc) (hc2 : slots + bs ≤ ms) (hSv : va_S A s.heap H locs) (hL : gm_lr α adK n (gm_ml mi) L ls) (hS : gm_sr α adK n st sv) (hA1 : ∀ q, A1 q → A q)
    (hr : vx_Run p l e Rm s m args below meth c H locs cells slots bc' bs' (F0 m pc ls sv0) sv (gm_QC D ti adK A1 α n (gm_cont X LX d (bc - bc') (bs - bs') mi (pc + 3) L st Q) a) (gm_XC D ti A1 α n (gm_cont X LX d (bc - bc') (bs - bs') mi (pc + 3) L st Q)) A1) :
    W p l e Rm s m args below meth c H locs cells slots (vx_MQ below (gm_QC D ti adK A α0 n0 Q) (gm_XC D ti A α0 n0 Q) args s mc ms A) (F0 m pc ls sv0) := by
  refine gm_after hr hSv hA1 (fun v u α' n' K' R' M' H1 locs1 ho hq hx9 hk hp hdd hrv hs9 => ?_) (fun x ce q9 α' n' K' R' M' H1 locs1 hx5 hq hx9 hk hp hdd hrv hs9 hce hcv hcl => ?_)
  · refine hq p l e Rm s m args below meth c D ti adK adV A α0 n0 mc ms hcx hev hd hd2 hmc hms hA α' H1 locs1 (cells + bc') (slots + bs') ls (v.toList ++ sv) (hxt.trans hx9) (by omega) (by omega) ⟨hk, hp, hdd, hs9, hrv⟩ (gm_lr_ext hx9 hL) ?_
    cases u with
    | none => cases ho; exact gm_sr_ext hx9 hS
    | some u => obtain ⟨w, rfl, hw⟩ := ho; exact ⟨w, sv, rfl, hw, gm_sr_ext hx9 hS⟩
  · refine vx_out (ce := ce) (E := gm_xn x) (fun z hz => ?_) hcx.2.2.2.2.2.1 hce hcv hcl (fun t ht hvm => ⟨⟨x, α', n', K', R', M', rfl, hx5, hq, hxt.trans hx9, va_K.moved hvm hk, by rw [ht]; exact hp, hdd, hrv⟩, hs9.F ht⟩) hs9.2.2 (by omega) (by omega)
    rw [hcx.2.2.2.2.2.2.2.2.2.2, hh] at hz
    cases hz
end GC
end
/-! 10.inv -/
section
/-! THE CALLS, kind by kind. -/
theorem gm_cal_spec {o ix kd mj : Nat} (h : gm_cal o ix = some (kd, mj)) : mj < 370 ∧ Jvm.Cond.initialized (gm_mn mj).cls ∈ gm_T ∧ (kd ≠ 3 → Jvm.Cond.methodLink (gm_rn o) ix (gm_mn mj) ∈ gm_T) ∧ (kd = 0 → Jvm.Cond.instanceMethod (gm_mn mj) ∈ gm_T ∧ Jvm.Cond.selects (gm_mn mj).cls (gm_mn mj) (gm_mn mj) ∈ gm_T) ∧ (kd = 1 ∨ kd = 3 → Jvm.Cond.instanceMethod (gm_mn mj) ∈ gm_T ∧ (gm_mn mj).name = "<init>" ∧ gm_rt mj = none) ∧ (kd = 2 ∨ kd = 5 → Jvm.Cond.static (gm_mn mj) ∈ gm_T) ∧ (kd ≠ 5 → gm_hh mj = []) ∧ (kd = 3 → ∃ r ∈ gm_nst, r.1 = gm_rn o ∧ r.2.1 = ix ∧ r.2.2.1 = gm_mn mj) := by
  have h := gm_cal_le h
  unfold gm_cal0 at h
  cases hr : gm_co[o]? with
  | none => rw [hr] at h; simp at h
  | some r =>
    rw [hr] at h
    have h2 := gm_lookup_mem _ _ _ h
    have hlt := (List.getElem?_eq_some_iff.mp hr).1
    have h3 := List.all_eq_true.mp gm_co_ok o (List.mem_range.mpr hlt)
    rw [hr] at h3
    have h4 := List.all_eq_true.mp h3 _ h2
    obtain ⟨q, hq, hq2⟩ := List.any_eq_true.mp h4
    have h5 := gm_cl_ok hq
    obtain ⟨a1, a2, a3, a4, a5, a6, a7, a8⟩ := q
    simp only [decide_eq_true_eq, Prod.mk.injEq] at hq2
    obtain ⟨rfl, rfl, rfl, rfl⟩ := hq2
    simp only [gm_cck, Bool.and_eq_true, decide_eq_true_eq] at h5
    obtain ⟨b1, ⟨⟨⟨b2, b3⟩, b4⟩, b5⟩, b6⟩ := h5
    refine ⟨b1, gm_T_in b2 rfl, fun q => ?_, fun q => ?_, fun q => ?_, fun q => ?_, fun q => ?_, fun q => ?_⟩
    · rw [if_neg q] at b3
      exact gm_T_in (by simpa using b3) rfl
    · subst q
      simp only [if_true, Bool.and_eq_true, decide_eq_true_eq] at b4
      exact ⟨gm_T_in b4.1 rfl, gm_T_in b4.2 rfl⟩
    · rw [if_neg (by omega), if_pos q] at b4
      simp only [Bool.and_eq_true, decide_eq_true_eq] at b4
      exact ⟨gm_T_in b4.1 rfl, b4.2⟩
    · rw [if_neg (by omega), if_neg (by omega)] at b4
      exact gm_T_in (by simpa using b4) rfl
    · rw [if_neg q] at b5
      simpa using b5
    · rw [if_pos q] at b6
      obtain ⟨r9, hr9, hr8⟩ := List.any_eq_true.mp b6
      exact ⟨r9, hr9, by simpa using hr8⟩
theorem gm_cat_eq {α adK : Nat → Nat} {n : Nat} {v : gm_V} {w : Value} (h : gm_cv α adK n v w) : w.category = gm_cat v := by
  unfold gm_cat
  split
  · rename_i hs
    rcases v with x | x | y
    · simp [gm_sort] at hs
    · cases h; rfl
    · simp [gm_sort] at hs
  · rename_i hs; exact gm_cat1 h hs
theorem gm_sum_eq {α adK : Nat → Nat} {n : Nat} : ∀ {st : List gm_V} {sv : List Value}, gm_sr α adK n st sv → (sv.map fun v => v.category).sum = (st.map gm_cat).sum := by
  intro st
  induction st with
  | nil => intro sv h; cases h; rfl
  | cons v st ih =>
    intro sv h
    obtain ⟨w, sv', rfl, hw, h⟩ := h
    simp only [List.map_cons, List.sum_cons, ih h, gm_cat_eq hw]
section GI
variable {X : Int → Int} {LX d bc bs mi pc : Nat} {L : gm_L} {st : List gm_V} {n : Nat} {K : gm_K} {R : gm_R} {M : gm_M} {Q : gm_Q}
theorem gm_sub_A {A : Nat → Prop} {H0 H : Heap} {locs : List Loc} {ws : va_W} (hD : va_D A ws) (hS : va_S A H0 H locs) (hA : ∀ q, H0.size ≤ q → A q) : ∀ q, va_A ws H.size q → A q := by
  intro q h
  rcases h with ⟨k, e, h⟩ | h
  · exact hD.2 k (q, e) h
  · exact hA q (Nat.le_trans hS.1 h)
theorem gm_c_virt {ix mj k ci d' bc' bs' : Nat} {as : List gm_V} (h : gm_at mi pc = some (.invokevirtual ix)) (hc : gm_cal (gm_ow mi) ix = some (0, mj)) (hmx : gm_ow mj ≠ gm_mxi) (hh : gm_hh mi = []) (hk : 1 ≤ k ∧ k ≤ n) (hK : (K k).1 = ci + 4) (hci : ci < 12) (hcn : gm_cn ci = (gm_mn mj).cls) (hna : as.length = gm_na mj) (hcat : ∀ v ∈ as, ¬ gm_sort v = 1) (hlen : as.length + 1 ≤ gm_ml mj) (hst : (st.map gm_cat).sum ≤ 8) (hd' : d' + 1 ≤ d) (hb1 : bc' ≤ bc) (hb2 : bs' ≤ bs)
    (hW : gm_Wp X LX d' bc' bs' mj 0 (gm_ent mj (gm_vr k :: as)) [] n K R M (gm_cont X LX d (bc - bc') (bs - bs') mi (pc + 3) L st Q)) : gm_Wp X LX d bc bs mi pc L (as.reverse ++ gm_vr k :: st) n K R M Q := by
  intro p l e Rm s m args below meth c D ti adK adV A α0 n0 mc ms hcx hev hd hd2 hmc hms hA α H locs cells slots ls sv hxt hc1 hc2 hR hL hS
  obtain ⟨w1, w2, rfl, hw1, w, sv2, rfl, ⟨rfl, hkn⟩, hS2⟩ := gm_sr_app hS
  have hdg := gm_dec hcx h rfl
  obtain ⟨hx, hb, hml, hown, -, -, hts, -, hl, -⟩ := id hcx
  obtain ⟨hKn, hP, hD, hSv, hRv⟩ := id hR
  obtain ⟨hj, i1, i2, i3, -, -, i6, -⟩ := gm_cal_spec hc
  obtain ⟨j1, -, j3, j4, j5, -⟩ := gm_mck_spec hj
  have hA1 := gm_sub_A hD hSv hA
  have hvs : gm_sr α adK n (gm_vr k :: as) (Value.ref (α k) :: w1.reverse) := ⟨_, _, rfl, ⟨(gm_rf_pos hk.1 (Nat.lt_of_le_of_lt hk.2 hRv.1)).symm, hkn⟩, by have := gm_sr_rev hw1; rwa [List.reverse_reverse] at this⟩
  have hM := gm_met (adV := adV) (ti := ti) (D := D) hj hmx (i6 (by omega)) l hl hW hvs (by intro v hv; rcases List.mem_cons.mp hv with rfl | hv; exact (by simp [gm_sort]); exact hcat v hv) (by simpa using hlen) hP (hD.self (sz := H.size)) hRv (fun q h => Or.inr h)
  have he := gm_wl_at (ti := ti) (α := α) (K := K) (R := R) (M := M) hk.1 hk.2
  rw [gm_en_obj hK] at he
  obtain ⟨T, N, hcs, -⟩ := gm_cs_get hci
  have hcode : gm_cwd mj = .code (gm_mn mj) (gm_bc mj) (gm_ml mj) (gm_rt mj) := by unfold gm_cwd; rw [if_pos (i6 (by omega))]
  have hwl : w1.length = as.length := by have := (gm_sr_at hw1).1; simpa using this
  have hG : GoodIn gm_T (wsV (gm_rn (gm_ow mi)) ix (gm_mn mj).cls (gm_mn mj) (gm_cwd mj :: gm_T)) := by
    intro w hw
    refine ⟨?_, ?_⟩
    · simp only [wsV, List.cons_append, List.nil_append, List.mem_cons] at hw
      rcases hw with rfl | rfl | rfl | rfl | rfl | hw
      · exact i2 (by omega)
      · exact (i3 rfl).1
      · exact (i3 rfl).2
      · exact i1
      · exact j1
      · exact hw
    · simp only [wsV, List.cons_append, List.nil_append, List.mem_cons] at hw
      rcases hw with rfl | rfl | rfl | rfl | rfl | hw
      · exact Or.inl rfl
      · exact Or.inl rfl
      · exact Or.inl rfl
      · exact Or.inl rfl
      · exact (gm_T_good _ j1).2
      · exact (gm_T_good _ hw).2
  rw [gm_rf_pos hk.1 (Nat.lt_of_le_of_lt hk.2 hRv.1)]
  refine gm_tail (bc' := bc') (bs' := bs') hh hcx hev hd hd2 hmc hms hA hxt hb1 hb2 hc1 hc2 hSv hL hS2 hA1 (a := (Value.ref (α k) :: w1.reverse).toArray) ?_
  refine vx_runV (As := w1.reverse) (n := gm_na mj) (index := ix) (C := (gm_mn mj).cls) ⟨hx, hb, hml, hown, hts⟩ hM (cwV (rm := { frames := d', cells := bc', slots := bs', locals := d' * 300 }) (gm_na mj) hts hG (by rw [hcode]) rfl rfl ⟨rfl, j3.1, j3.2, j4⟩ ⟨by show d' + 1 ≤ _; omega, by show 8 + (gm_ml mj + 11) + d' * 300 ≤ _; omega⟩) ⟨gm_blind, ?_, fun U hU hWm => ⟨rfl, hU, gm_Ev_to hev hWm (by rw [hU]; exact hSv.1) (fun a h1 h2 => by rw [hU]; exact hSv.2.1 a h1 h2) hA1, va_K.moved hWm.alike hKn⟩⟩ rfl (by rw [List.length_reverse, hwl, hna]) ?_ (by rw [List.reverse_reverse]) (lv_room (by rw [gm_sum_eq hS2]; exact hst)) hdg ⟨by omega, by omega⟩
  · have := va_recv hKn hP hcs he
    rw [hcn] at this
    exact this
  · exact hL.2.choose_spec.1.1
end GI
end
/-! 10a.inv2 -/
section
/-! CALLS of constructors and static methods; Object's own constructor; Math's max and min. -/
section GI
variable {X : Int → Int} {LX d bc bs mi pc : Nat} {L : gm_L} {st : List gm_V} {n : Nat} {K : gm_K} {R : gm_R} {M : gm_M} {Q : gm_Q}
theorem gm_G1 {mj : Nat} (h : mj < 370) : GoodIn gm_T (gm_cwd mj :: gm_T) := by
  intro w hw
  obtain ⟨j1, -⟩ := gm_mck_spec h
  rcases List.mem_cons.mp hw with rfl | hw
  · exact ⟨j1, (gm_T_good _ j1).2⟩
  · exact gm_T_good _ hw
theorem gm_c_init {ix kd mj k d' bc' bs' : Nat} {as : List gm_V} (h : gm_at mi pc = some (.invokespecial ix)) (hc : gm_cal (gm_ow mi) ix = some (kd, mj)) (hkd : kd = 1 ∨ kd = 3) (hmx : gm_ow mj ≠ gm_mxi) (hh : gm_hh mi = []) (hk : 1 ≤ k ∧ k ≤ n) (hna : as.length = gm_na mj) (hcat : ∀ v ∈ as, ¬ gm_sort v = 1) (hlen : as.length + 1 ≤ gm_ml mj) (hst : (st.map gm_cat).sum ≤ 8) (hd' : d' + 1 ≤ d) (hb1 : bc' ≤ bc) (hb2 : bs' ≤ bs)
    (hW : gm_Wp X LX d' bc' bs' mj 0 (gm_ent mj (gm_vr k :: as)) [] n K R M (gm_cont X LX d (bc - bc') (bs - bs') mi (pc + 3) L st Q)) : gm_Wp X LX d bc bs mi pc L (as.reverse ++ gm_vr k :: st) n K R M Q := by
  intro p l e Rm s m args below meth c D ti adK adV A α0 n0 mc ms hcx hev hd hd2 hmc hms hA α H locs cells slots ls sv hxt hc1 hc2 hR hL hS
  obtain ⟨w1, w2, rfl, hw1, w, sv2, rfl, ⟨rfl, hkn⟩, hS2⟩ := gm_sr_app hS
  have hdg := gm_dec hcx h rfl
  obtain ⟨hx, hb, hml, hown, -, -, hts, -, hl, -⟩ := id hcx
  obtain ⟨hKn, hP, hD, hSv, hRv⟩ := id hR
  obtain ⟨hj, i1, i2, -, i4, -, i6, i7⟩ := gm_cal_spec hc
  obtain ⟨j1, -, j3, j4, j5, -⟩ := gm_mck_spec hj
  have hA1 := gm_sub_A hD hSv hA
  have hvs : gm_sr α adK n (gm_vr k :: as) (Value.ref (α k) :: w1.reverse) := ⟨_, _, rfl, ⟨(gm_rf_pos hk.1 (Nat.lt_of_le_of_lt hk.2 hRv.1)).symm, hkn⟩, by have := gm_sr_rev hw1; rwa [List.reverse_reverse] at this⟩
  have hM := gm_met (adV := adV) (ti := ti) (D := D) hj hmx (i6 (by omega)) l hl hW hvs (by intro v hv; rcases List.mem_cons.mp hv with rfl | hv; exact (by simp [gm_sort]); exact hcat v hv) (by simpa using hlen) hP (hD.self (sz := H.size)) hRv (fun q h => Or.inr h)
  obtain ⟨y1, y2, y3⟩ := i4 hkd
  have hcode : gm_cwd mj = .code (gm_mn mj) (gm_bc mj) (gm_ml mj) none := by unfold gm_cwd; rw [if_pos (i6 (by omega)), y3]
  have hwl : w1.length = as.length := by have := (gm_sr_at hw1).1; simpa using this
  rw [gm_rf_pos hk.1 (Nat.lt_of_le_of_lt hk.2 hRv.1)]
  have hpre : PreS s H (va_Pc (Value.ref (α k) :: w1.reverse) (fun U => U.heap = H ∧ gm_Ev X LX adK adV (va_A (gm_wl ti α n K R M) H.size) U ∧ va_K D gm_cs (gm_ty ti) U)) (Value.ref (α k) :: w1.reverse) := ⟨gm_blind, fun U hU hWm => ⟨rfl, hU, gm_Ev_to hev hWm (by rw [hU]; exact hSv.1) (fun a h1 h2 => by rw [hU]; exact hSv.2.1 a h1 h2) hA1, va_K.moved hWm.alike hKn⟩⟩
  refine gm_tail (bc' := bc') (bs' := bs') hh hcx hev hd hd2 hmc hms hA hxt hb1 hb2 hc1 hc2 hSv hL hS2 hA1 (a := (Value.ref (α k) :: w1.reverse).toArray) ?_
  have hR1 : d' + 1 ≤ Rm.frames ∧ 8 + (gm_ml mj + 11) + d' * 300 ≤ Rm.locals := ⟨by omega, by omega⟩
  have hroom := lv_room (m := m) (pc := pc) (ls := ls) (rest := w1 ++ Value.ref (α k) :: sv2) (st := sv2) (by rw [gm_sum_eq hS2]; exact hst)
  rcases hkd with rfl | rfl
  · exact vx_runI (As := w1.reverse) (n := gm_na mj) (index := ix) ⟨hx, hb, hml, hown, hts⟩ hM (cwI (rm := { frames := d', cells := bc', slots := bs', locals := d' * 300 }) (gm_na mj) hts (gm_G1 hj) (by rw [hcode]) rfl rfl (hts _ i1) (hts _ (i2 (by omega))) (hts _ y1) y2 ⟨j3.1, j3.2, j4⟩ hR1) hpre rfl (by rw [List.length_reverse, hwl, hna]) hL.2.choose_spec.1.1 (by rw [List.reverse_reverse]) hroom hdg ⟨by omega, by omega⟩
  · obtain ⟨r, hr1, hr2, hr3, hr4⟩ := i7 rfl
    have hnl := hev.2.2.2.2.2.2.2.2.2.1 r hr1
    rw [hr2, hr3, hr4] at hnl
    exact vx_runIN (As := w1.reverse) (n := gm_na mj) (index := ix) ⟨hx, hb, hml, hown, hts⟩ hM ⟨va_cnB (rm := { frames := d', cells := bc', slots := bs', locals := d' * 300 }) (gm_na mj) hts (gm_G1 hj) (by rw [hcode]) rfl rfl hnl (hts _ i1) ⟨j3.1, j3.2, j4⟩ hR1, y2, hts _ y1⟩ hpre rfl (by rw [List.length_reverse, hwl, hna]) hL.2.choose_spec.1.1 (by rw [List.reverse_reverse]) hroom hdg ⟨by omega, by omega⟩
theorem gm_c_stat {ix mj d' bc' bs' : Nat} {as : List gm_V} (h : gm_at mi pc = some (.invokestatic ix)) (hc : gm_cal (gm_ow mi) ix = some (2, mj)) (hmx : gm_ow mj ≠ gm_mxi) (hh : gm_hh mi = []) (hna : as.length = gm_na mj) (hcat : ∀ v ∈ as, ¬ gm_sort v = 1) (hlen : as.length ≤ gm_ml mj) (hst : (st.map gm_cat).sum ≤ 8) (hd' : d' + 1 ≤ d) (hb1 : bc' ≤ bc) (hb2 : bs' ≤ bs)
    (hW : gm_Wp X LX d' bc' bs' mj 0 (gm_ent mj as) [] n K R M (gm_cont X LX d (bc - bc') (bs - bs') mi (pc + 3) L st Q)) : gm_Wp X LX d bc bs mi pc L (as.reverse ++ st) n K R M Q := by
  intro p l e Rm s m args below meth c D ti adK adV A α0 n0 mc ms hcx hev hd hd2 hmc hms hA α H locs cells slots ls sv hxt hc1 hc2 hR hL hS
  obtain ⟨w1, sv2, rfl, hw1, hS2⟩ := gm_sr_app hS
  have hdg := gm_dec hcx h rfl
  obtain ⟨hx, hb, hml, hown, -, -, hts, -, hl, -⟩ := id hcx
  obtain ⟨hKn, hP, hD, hSv, hRv⟩ := id hR
  obtain ⟨hj, i1, i2, -, -, i5, i6, -⟩ := gm_cal_spec hc
  obtain ⟨j1, -, j3, j4, j5, -⟩ := gm_mck_spec hj
  have hA1 := gm_sub_A hD hSv hA
  have hvs : gm_sr α adK n as w1.reverse := by have := gm_sr_rev hw1; rwa [List.reverse_reverse] at this
  have hM := gm_met (adV := adV) (ti := ti) (D := D) hj hmx (i6 (by omega)) l hl hW hvs hcat hlen hP (hD.self (sz := H.size)) hRv (fun q h => Or.inr h)
  have hcode : gm_cwd mj = .code (gm_mn mj) (gm_bc mj) (gm_ml mj) (gm_rt mj) := by unfold gm_cwd; rw [if_pos (i6 (by omega))]
  have hwl : w1.length = as.length := by have := (gm_sr_at hw1).1; simpa using this
  have hpre : PreS s H (va_Pc w1.reverse (fun U => U.heap = H ∧ gm_Ev X LX adK adV (va_A (gm_wl ti α n K R M) H.size) U ∧ va_K D gm_cs (gm_ty ti) U)) w1.reverse := ⟨gm_blind, fun U hU hWm => ⟨rfl, hU, gm_Ev_to hev hWm (by rw [hU]; exact hSv.1) (fun a h1 h2 => by rw [hU]; exact hSv.2.1 a h1 h2) hA1, va_K.moved hWm.alike hKn⟩⟩
  refine gm_tail (bc' := bc') (bs' := bs') hh hcx hev hd hd2 hmc hms hA hxt hb1 hb2 hc1 hc2 hSv hL hS2 hA1 (a := w1.reverse.toArray) ?_
  have hR1 : d' + 1 ≤ Rm.frames ∧ 8 + (gm_ml mj + 11) + d' * 300 ≤ Rm.locals := ⟨by omega, by omega⟩
  have hroom := lv_room (m := m) (pc := pc) (ls := ls) (rest := w1 ++ sv2) (st := sv2) (by rw [gm_sum_eq hS2]; exact hst)
  exact vx_runS (As := w1.reverse) (n := gm_na mj) (index := ix) ⟨hx, hb, hml, hown, hts⟩ hM ⟨callB_of (rm := { frames := d', cells := bc', slots := bs', locals := d' * 300 }) (gm_na mj) hts (gm_G1 hj) (by rw [hcode]) rfl rfl (hts _ i1) (hts _ (i2 (by omega))) ⟨j3.1, j3.2, j4⟩ hR1, hts _ (i5 (Or.inl rfl))⟩ hpre rfl (by rw [List.length_reverse, hwl, hna]) hL.2.choose_spec.1.1 (by rw [List.reverse_reverse]) hroom hdg ⟨by omega, by omega⟩
end GI
end
/-! 10a1.nse -/
section
/-! AN EXCEPTION whose constructor calls the one above by a pool number of its own (turned from vx_ctorMadeS, vx_makeS of kit/laws). -/
def gm_chX (X : String) (ix : Nat) (rx : ByteArray) : List String → List Jvm.Cond
  | [] => Bundle.passSAtoms X Bundle.tN ix rx
  | Y :: r => Bundle.passSAtoms X Y ix rx ++ Bundle.chainSAtoms Y r
/-- what is to be known of such a throw -/
def gm_ownX (own : String) (ic : Nat) (X : String) (ix : Nat) (rx : ByteArray) (names : List String) : List Jvm.Cond :=
  Bundle.throwableAtoms ++ Bundle.throwableSAtoms ++ gm_chX X ix rx names ++
  [.methodLink own ic (Bundle.initS X), .instantiable X 6, .castable X X, .selects X Bundle.tFill0 Bundle.tFill0, .selects X Bundle.tFill Bundle.tFill, .lays X Bundle.tN "cause" "Ljava/lang/Throwable;", .lays X Bundle.tN "stackTrace" Bundle.steD, .lays X Bundle.tN "suppressedExceptions" Bundle.listD, .lays X Bundle.tN "detailMessage" "Ljava/lang/String;", .isRef (.static Bundle.tN "UNASSIGNED_STACK" Bundle.steD), .isRef (.static Bundle.tN "SUPPRESSED_SENTINEL" Bundle.listD), .fieldLink Bundle.tN 198 Bundle.tN "backtrace" "Ljava/lang/Object;", .lays Bundle.tN Bundle.tN "backtrace" "Ljava/lang/Object;", .lays X Bundle.tN "backtrace" "Ljava/lang/Object;"]
def gm_atX (own : String) (ic : Nat) (X : String) (ix : Nat) (rx : ByteArray) (names : List String) : List Jvm.Cond := (gm_ownX own ic X ix rx names).filter vx_no
section GXX
variable {p : Program} {l : Launch} {e : Env} {R : Room} {s : State} {m₀ : MethodId} {args : Array Value} {below : List Frame} {meth : Method} {c : Code} {W : State} {locs : List Loc} {cells slots : Nat}
theorem gm_chainX {pl : Platform} (hpl : pl.magicAccessors = ({} : Platform).magicAccessors) {top : MethodId} (htop : s.methodNamed? (Bundle.initS Bundle.tN) = some top) {ix : Nat} {rx : ByteArray} (x0 : decode rx 0 = .ok (.aload_n 0, 1)) (x1 : decode rx 1 = .ok (.aload_n 1, 1)) (x2 : decode rx 2 = .ok (.invokespecial ix, 3)) (x5 : decode rx 5 = .ok (.return_, 1))
    (names : List String) (X : String) (hX : Bundle.fit X = true) (hn : ∀ n ∈ names, Bundle.fit n = true) (h : ∀ w ∈ gm_chX X ix rx names, w.before args s = true) :
    ∃ (P1 : PassC) (Ps : List PassC), Ps.length = names.length ∧ P1.LinksS pl s ∧ (∀ P, P ∈ Ps → P.LinksS pl s) ∧ s.methodNamed? (Bundle.initS X) = some P1.m ∧ P1.sup = firstOf top (Ps.map (·.toPassT)) ∧ PassesOn top (Ps.map (·.toPassT)) := by
  rcases names with _ | ⟨Y, r⟩
  · obtain ⟨P, hL, h1, h2⟩ := PassC.ofS_atoms (args := args) (s := s) hpl (X := X) (Y := Bundle.tN) (Bundle.fit_spec hX).1 (by decide) x0 x1 x2 x5 h
    exact ⟨P, [], rfl, hL, (fun _ hP => nomatch hP), h1, Option.some.inj (h2.symm.trans htop), trivial⟩
  · have hY := hn Y List.mem_cons_self
    obtain ⟨P, hL, h1, h2⟩ := PassC.ofS_atoms (args := args) (s := s) hpl (X := X) (Y := Y) (Bundle.fit_spec hX).1 (Bundle.fit_spec hY).2 x0 x1 x2 x5 (fun w hw => h w (List.mem_append.mpr (.inl hw)))
    obtain ⟨P', Ps, e1, e2, e3, e4, e5, e6⟩ := Bundle.chainS (args := args) hpl htop r Y hY (fun n hm => hn n (List.mem_cons_of_mem _ hm)) (fun w hw => h w (List.mem_append.mpr (.inr hw)))
    exact ⟨P, P' :: Ps, by rw [List.length_cons, e1, List.length_cons], hL, fun Q hQ => (List.mem_cons.mp hQ).elim (fun q => by rw [q]; exact e2) (e3 Q), h1, Option.some.inj (h2.symm.trans e4), e5, e6⟩
set_option maxHeartbeats 1000000 in
theorem gm_ctorMadeX (X : Stand p l e R s m₀ args below meth c W locs cells slots) (hexec : p.tables.exec = Jvm.exec) (htr : e.platform.stackTraces = false) {own cls : String} {names : List String} {ic ix : Nat} {rx : ByteArray} (x0 : decode rx 0 = .ok (.aload_n 0, 1)) (x1 : decode rx 1 = .ok (.aload_n 1, 1)) (x2 : decode rx 2 = .ok (.invokespecial ix, 3)) (x5 : decode rx 5 = .ok (.return_, 1))
    (hown : s.vm.findClass own = some m₀.cls) (hcls : Bundle.fit cls = true) (hnames : ∀ n ∈ names, Bundle.fit n = true)
    (h : ∀ a ∈ gm_ownX own ic cls ix rx names, a.before args s = true)
    (hlocs : ∀ x ∈ locs, ∀ cell, s.heap[x.base]? = some cell → cell.vm.isStatics = false)
    {a : Addr} {cX : ClassId} {kX : Class} (hfoundX : s.vm.findClass cls = some cX) (hkX : s.vm.classes[cX]? = some kX) (hcell : W.heap[a]? = some (freshCell cX kX)) (hnew : s.heap.size ≤ a)
    {msg : Value} (hmsg : msg.isRef = true)
    {g : JFrame} (hg : g.method = m₀) (hsize : g.locals.size = c.maxLocals) {rest : List Value} (hstack : g.stack = msg :: .ref a :: .ref a :: rest)
    (hd6 : decode c.code g.pc = .ok (.invokespecial ic, 3))
    (hRframes : names.length + 3 < R.frames) (hRlocals : 2 * g.monitorRoom + ((Value.ref a :: rest).map fun v => v.category).sum + (13 * (names.length + 1) + 42) ≤ R.locals) :
    ∃ (V : State) (ce : Cell) (L : List Loc), Stand p l e R s m₀ args below meth c (V.setCell a ce) (locs ++ L) cells slots ∧ (∀ y ∈ L, y.base = a) ∧ a < V.heap.size ∧ ce.cls = cX ∧ ce.vm = .none ∧
      ∀ target, Steps p.tables e below ((V.setCell a ce).setTop { g with stack := .ref a :: rest, pc := g.pc + 3 }) target → Steps p.tables e below (W.setTop g) target := by
  have howns : e.platform.frameOwnsMonitors = true := by rw [X.admits.platform]
  have hfin : e.platform.finalization = false := by rw [X.admits.platform]
  have hpl : e.platform.magicAccessors = ({} : Platform).magicAccessors := by rw [X.admits.platform]
  have a' : ∀ x, x ∈ gm_ownX own ic cls ix rx names → x.holds args s none s [] = true := fun x hx => h x hx
  obtain ⟨T, Z0, L, -, Y⟩ := ThrowableC.of_atoms (args := args) howns hfin hpl (fun x hx => h x (by simp [gm_ownX, hx]))
  obtain ⟨Z, M, LZ, LM, hnZ⟩ := Init0T.ofS_atoms (args := args) hpl L Y (fun x hx => h x (by simp [gm_ownX, hx]))
  obtain ⟨P1, Ps, hlen, L1, hL, hP1m, hlink1, hlink⟩ := gm_chainX (args := args) hpl hnZ x0 x1 x2 x5 names cls hcls hnames (fun x hx => h x (by simp [gm_ownX, hx]))
  have hfound : s.vm.findClass cls = some P1.m.cls := findClass_of_methodNamed hP1m
  cases Option.some.inj (hfoundX.symm.trans hfound)
  obtain ⟨c1, kX', hc1, hk, hord, -, -, hn6⟩ := Cond.instantiable_spec (a' (.instantiable cls 6) (by simp [gm_ownX]))
  cases Option.some.inj (hc1.symm.trans hfound)
  cases Option.some.inj (hkX.symm.trans hk)
  have hsel0 : selectMethod e.platform s.vm P1.m.cls T.fill0 = .method T.fill0 := by
    obtain ⟨c2, r2, m2, q1, q2, q3, q4, -⟩ := Cond.selects_spec (a' (.selects cls Bundle.tFill0 Bundle.tFill0) (by simp [gm_ownX]))
    cases Option.some.inj (q1.symm.trans hfound)
    cases Option.some.inj (q2.symm.trans (State.methodFound?_of_named Y.fill0 (by decide)))
    cases Option.some.inj (q3.symm.trans Y.fill0)
    rw [Launch.admits_selectMethod X.admits]; exact q4
  have hselF : selectMethod e.platform s.vm P1.m.cls T.fill = .method T.fill := by
    obtain ⟨c2, r2, m2, q1, q2, q3, q4, -⟩ := Cond.selects_spec (a' (.selects cls Bundle.tFill Bundle.tFill) (by simp [gm_ownX]))
    cases Option.some.inj (q1.symm.trans hfound)
    cases Option.some.inj (q2.symm.trans (State.methodFound?_of_named Y.fill (by decide)))
    cases Option.some.inj (q3.symm.trans Y.fill)
    rw [Launch.admits_selectMethod X.admits]; exact q4
  obtain ⟨cellS0, hcS0, hiss⟩ := Y.statics
  obtain ⟨u0, hu0⟩ := Cond.staticRefV Y.unassigned L.unassignedStatic L.statics hcS0 hiss (a' (.isRef (.static Bundle.tN "UNASSIGNED_STACK" Bundle.steD)) (by simp [gm_ownX]))
  obtain ⟨sen, hsen⟩ := Cond.staticRefV Y.sentinel L.sentinelStatic L.statics hcS0 hiss (a' (.isRef (.static Bundle.tN "SUPPRESSED_SENTINEL" Bundle.listD)) (by simp [gm_ownX]))
  obtain ⟨ci198, i198, fB, hk198, hg198, ha198, hsB, -, hnB, htB, hffB⟩ := Cond.ownField (t := .object "java/lang/Object") Y.found L.cls (by decide +kernel) (a' (.fieldLink Bundle.tN 198 Bundle.tN "backtrace" "Ljava/lang/Object;") (by simp [gm_ownX])) (a' (.lays Bundle.tN Bundle.tN "backtrace" "Ljava/lang/Object;") (by simp [gm_ownX])) e.platform hpl
  obtain ⟨cellS, hcS', heS, -, hkeep⟩ := X.same.2.2.2.2.2 T.aS cellS0 hcS0
  have hcellS : W.heap[T.aS]? = some cellS := hcS'
  have hout' : ∀ i, (⟨T.aS, i⟩ : Loc) ∉ locs := fun i hmem => by
    have := hlocs _ hmem cellS0 hcS0
    rw [hiss] at this; cases this
  have hknownS : cellS.vm ≠ .unknown := by
    rw [heS]; intro hu
    rw [show cellS0.vm = .unknown from hu] at hiss
    cases hiss
  have hneS : T.aS ≠ a := Nat.ne_of_lt (Nat.lt_of_lt_of_le (Array.getElem?_eq_some_iff.mp hcS0).1 hnew)
  obtain ⟨iM, hffM⟩ := Y.msg
  obtain ⟨tyC, dC, hdC, hdnC⟩ := Cond.laysAt hfound hk Y.cause (a' (.lays cls Bundle.tN "cause" "Ljava/lang/Throwable;") (by simp [gm_ownX]))
  obtain ⟨tyS, dS, hdS, hdnS⟩ := Cond.laysAt hfound hk Y.stack (a' (.lays cls Bundle.tN "stackTrace" Bundle.steD) (by simp [gm_ownX]))
  obtain ⟨tyP, dP, hdP, hdnP⟩ := Cond.laysAt hfound hk Y.supp (a' (.lays cls Bundle.tN "suppressedExceptions" Bundle.listD) (by simp [gm_ownX]))
  obtain ⟨tyM, dM, hdM, hdnM⟩ := Cond.laysAt hfound hk hffM (a' (.lays cls Bundle.tN "detailMessage" "Ljava/lang/String;") (by simp [gm_ownX]))
  obtain ⟨tyB, dB, hdB, hdnB⟩ := Cond.laysAt hfound hk hffB (a' (.lays cls Bundle.tN "backtrace" "Ljava/lang/Object;") (by simp [gm_ownX]))
  have bC := Cond.laysApart hdB hdC hdnB hdnC (by rw [hnB, Y.causeName]; decide)
  have bS := Cond.laysApart hdB hdS hdnB hdnS (by rw [hnB, Y.stackName]; decide)
  have bP := Cond.laysApart hdB hdP hdnB hdnP (by rw [hnB, Y.suppName]; decide)
  have hskip : SkipFacts T e.platform s (fun u => u) u0 ((preparedCellV T.toThrowableT (freshCell P1.m.cls kX) a u0 sen).withEntry W.cur) :=
    ⟨{ ci198 := ci198, i198 := i198, fBack := fB }, ⟨hk198, hg198, ha198, hsB⟩, by
      have := fresh_default (c := P1.m.cls) tyB
      rw [htB] at this
      simpa [preparedCellV, Cell.setSlot, Cell.withEntry, Array.getElem?_setIfInBounds, bC, bS, bP, bC.symm, bS.symm, bP.symm, defaultValue] using this, fun _ _ => rfl⟩
  obtain ⟨tm, methC, cdC, kC, vm₁, hnC, -, -, -, -, -, -, -, hW₁, st1⟩ := Steps.initColdS (tb := p.tables) (e := e) (below := below) (s := s) (U := W) X.here hexec X.warmed hpl hown (t := Bundle.initS cls) rfl rfl (Bundle.fit_spec hcls).2
    (a' (.methodLink own ic (Bundle.initS cls)) (by simp [gm_ownX])) (h (.instanceMethod (Bundle.initS cls)) (by cases names <;> simp [gm_ownX, gm_chX, Bundle.passSAtoms])) (bytes := rx) (maxL := 2) (h (.code (Bundle.initS cls) rx 2 none) (by cases names <;> simp [gm_ownX, gm_chX, Bundle.passSAtoms]))
    (f := g) hg (a := a) (msg := msg) (rest := .ref a :: rest) hstack hd6
  cases Option.some.inj (hnC.symm.trans hP1m)
  have X₁ := X.noted hW₁
  obtain ⟨vm₂, X₂, st2⟩ := X₁.ctorMessageOffV hexec (g := { g with stack := .ref a :: rest }) hg hsize T L Z LZ M LM (P1 :: Ps)
    (fun P hP => by rcases List.mem_cons.mp hP with rfl | hP; exact L1; exact hL P hP) ⟨hlink1, hlink⟩ (u0 := u0) (sen := sen) (self := a) hmsg (cell := freshCell P1.m.cls kX) (cellS := cellS)
    hcell (fun _ => by simp) (by simp) rfl rfl hsel0 hselF hcellS hneS hknownS (by rw [hkeep _ (hout' _)]; exact hu0) (by rw [hkeep _ (hout' _)]; exact hsen)
    (Takes.of_laid hk hord tyC (by rw [Y.causeType]; rfl)) (Takes.of_laid hk hord tyS (by rw [Y.stackType]; exact fits_refV_array _ u0)) (Takes.of_laid hk hord tyP (by rw [Y.suppType]; exact fits_refV_object _ sen))
    (Takes.of_laid hk hord tyM (by rw [Y.msgType]; exact fits_refV_object _ ⟨msg, hmsg⟩)) Y.objLocals hskip htr [] hd6
    (by simp only [List.length_cons, hlen]; omega) (by simp only [List.length_cons, hlen]; exact hRlocals)
  have hlt : a < ((W.setVm vm₁).setVm vm₂).heap.size := (Array.getElem?_eq_some_iff.mp hcell).1
  refine ⟨(W.setVm vm₁).setVm vm₂, _, _, X₂, fun y hy => ?_, hlt, rfl, rfl, fun target hwalk => st1 _ (fun acts => ?_)⟩
  · simp only [List.mem_cons, List.not_mem_nil, or_false] at hy
    rcases hy with rfl | rfl | rfl | rfl | rfl <;> rfl
  · rw [doInvoke_state]
    exact st2 _ hwalk
end GXX
end
/-! 10b.thr -/
section
/-! STRING CONSTANTS by place, THROWS. -/
def gm_slk : List ((Nat × Nat) × Nat) := [((12, 82), 0), ((12, 87), 1), ((12, 89), 2), ((12, 65), 3), ((12, 100), 4), ((12, 109), 5), ((12, 111), 6), ((12, 122), 7), ((12, 124), 8), ((12, 126), 9), ((12, 128), 10), ((12, 130), 11), ((12, 132), 12), ((12, 134), 13), ((12, 136), 14), ((12, 96), 15), ((12, 98), 16), ((9, 19), 17), ((9, 31), 18), ((9, 36), 19), ((9, 41), 20), ((9, 131), 21), ((9, 46), 22), ((9, 51), 23), ((9, 56), 24), ((9, 61), 25), ((9, 152), 26), ((9, 66), 27), ((9, 71), 28), ((0, 123), 29), ((0, 133), 30), ((0, 140), 31), ((0, 458), 32), ((0, 455), 33), ((0, 197), 34), ((0, 215), 35), ((0, 462), 36), ((0, 241), 37), ((0, 263), 38), ((0, 272), 39), ((0, 287), 40), ((0, 289), 41), ((0, 301), 42), ((0, 460), 43), ((0, 365), 44), ((0, 379), 45), ((0, 414), 46), ((20, 181), 47), ((20, 185), 48), ((20, 190), 49), ((20, 195), 50), ((20, 156), 51), ((20, 200), 52), ((20, 205), 53), ((20, 168), 54), ((20, 210), 55), ((20, 215), 56), ((20, 220), 57), ((20, 222), 58), ((20, 275), 59), ((20, 277), 60), ((20, 279), 61), ((20, 281), 62), ((20, 256), 63), ((20, 261), 64), ((20, 263), 65), ((20, 231), 66), ((20, 233), 67), ((20, 235), 68), ((20, 237), 69), ((20, 239), 70), ((20, 241), 71), ((20, 243), 72), ((20, 268), 73), ((20, 273), 74)]
def gm_sld (o ix : Nat) : Option Nat := gm_slk.lookup (o, ix)
theorem gm_slk_ok : gm_slk.all (fun q => (match gm_sr_[q.2]? with | some r => decide (r.1 = gm_rn q.1.1 ∧ r.2.1 = q.1.2 ∧ r.2.2.2 = q.2) | none => false) && decide (q.2 < 1000)) = true := by decide +kernel
/-- the classes thrown: class of the code, its link, number, the constructor's link; words -/
def gm_xl : List (Nat × Nat × Nat × Nat × Nat × Nat) := [(0, 121, 0, 125, 1070, 176), (0, 131, 1, 135, 1139, 177), (0, 261, 2, 265, 1364, 181), (0, 453, 3, 457, 1227, 179), (0, 195, 4, 199, 1272, 180)]
def gm_xnm : List String := ["java/lang/RuntimeException", "java/lang/Exception"]
noncomputable def gm_xok (w : Jvm.Cond) (X : String) : Bool := (gm_mem w && goodWord w) || decide (w = .castable X X) || gm_dcs.any (fun y => decide (w = .declares y))
/-- of the fifth: its constructor, the pool number in it -/
def gm_xix : Nat := 13
def gm_xrx : ByteArray := ⟨#[0x2a, 0x2b, 0xb7, 0x0, 0xd, 0xb1]⟩
/-- the words of a throw -/
def gm_xat (o ic x : Nat) : List Jvm.Cond := if x = 4 then gm_atX (gm_rn o) ic (gm_xn x) gm_xix gm_xrx gm_xnm else vx_atS (gm_rn o) ic (gm_xn x) gm_xnm
noncomputable def gm_xck (q : Nat × Nat × Nat × Nat × Nat × Nat) : Bool := match q with
  | (o, ik, x, ic, p1, p2) => decide (x < 5) && decide (gm_tb (p1) = some (.classLink (gm_rn o) ik (gm_xn x))) && decide (gm_tb (p2) = some (.initialized (gm_xn x))) && (gm_xat o ic x).all (fun w => gm_xok w (gm_xn x) && vx_ot w) && (Bundle.fit (gm_xn x) && gm_xnm.all Bundle.fit)
theorem gm_xl_ok : gm_xl.all gm_xck = true := by decide +kernel
def gm_xlk (o ik : Nat) : Option (Nat × Nat) := (gm_xl.find? (fun q => decide (q.1 = o ∧ q.2.1 = ik))).map (fun q => (q.2.2.1, q.2.2.2.1))
end
/-! 11.ends -/
section
/-! HOW A METHOD ENDS. -/
section GE
variable {X : Int → Int} {LX d bc bs mi pc : Nat} {L : gm_L} {st : List gm_V} {n : Nat} {K : gm_K} {R : gm_R} {M : gm_M} {Q : gm_Q}
theorem gm_r_int {x : Int} (h : gm_at mi pc = some .ireturn) (hr : gm_rt mi = some .int ∨ gm_rt mi = some .boolean ∧ (x = 0 ∨ x = 1)) (hq : Q (.inl (some (gm_vi x))) n K R M) : gm_Wp X LX d bc bs mi pc L [gm_vi x] n K R M Q := by
  intro p l e Rm s m args below meth c D ti adK adV A α0 n0 mc ms hcx hev hd hd2 hmc hms hA α H locs cells slots ls sv hxt hc1 hc2 hR hL hS
  obtain ⟨w, sv, rfl, h1, hS⟩ := hS
  cases h1; cases hS
  have hdg := gm_dec hcx h rfl
  obtain ⟨hx, hb, -, -, hret, hlk, -⟩ := id hcx
  obtain ⟨hKn, hP, hD, hSv, hRv⟩ := id hR
  have hq' : ∀ t : State, t.heap = H → s.WarmedH t.vm → gm_QC D ti adK A α0 n0 Q args s (.returned (some (.int (Int32.ofInt x)))) t := fun t ht hW => ⟨⟨_, some (gm_vi x), α, n, K, R, M, rfl, ⟨_, rfl, rfl⟩, hq, hxt, va_K.moved hW.alike hKn, by rw [ht]; exact hP, hD, hRv⟩, hSv.F ht⟩
  refine W.widen (k := mc) (n := ms) (by omega) (by omega) (vx_ret ?_)
  rcases hr with hr | ⟨hr, h01⟩
  · exact W.iret hx hb (by rw [hret]; exact hr) hq' hSv.2.2 hdg hlk
  · exact W.zret hx hb (by rw [hret]; exact hr) (by rcases h01 with rfl | rfl <;> rfl) hq' hSv.2.2 hdg hlk
theorem gm_r_void (h : gm_at mi pc = some .return_) (hr : gm_rt mi = none) (hq : Q (.inl none) n K R M) : gm_Wp X LX d bc bs mi pc L [] n K R M Q := by
  intro p l e Rm s m args below meth c D ti adK adV A α0 n0 mc ms hcx hev hd hd2 hmc hms hA α H locs cells slots ls sv hxt hc1 hc2 hR hL hS
  cases hS
  have hdg := gm_dec hcx h rfl
  obtain ⟨hx, hb, -, -, hret, hlk, -⟩ := id hcx
  obtain ⟨hKn, hP, hD, hSv, hRv⟩ := id hR
  refine W.widen (k := mc) (n := ms) (by omega) (by omega) (vx_ret ?_)
  exact W.vret hx hb (by rw [hret]; exact hr) (fun t ht hW => ⟨⟨_, none, α, n, K, R, M, rfl, rfl, hq, hxt, va_K.moved hW.alike hKn, by rw [ht]; exact hP, hD, hRv⟩, hSv.F ht⟩) hSv.2.2 hdg hlk
theorem gm_r_ref {k : Nat} (h : gm_at mi pc = some .areturn) (hr : (∃ C, gm_rt mi = some (.object C)) ∨ ∃ t, gm_rt mi = some (.array t)) (hq : Q (.inl (some (gm_vr k))) n K R M) : gm_Wp X LX d bc bs mi pc L [gm_vr k] n K R M Q := by
  intro p l e Rm s m args below meth c D ti adK adV A α0 n0 mc ms hcx hev hd hd2 hmc hms hA α H locs cells slots ls sv hxt hc1 hc2 hR hL hS
  obtain ⟨w, sv, rfl, ⟨rfl, hk⟩, hS⟩ := hS
  cases hS
  have hdg := gm_dec hcx h rfl
  obtain ⟨hx, hb, -, -, hret, hlk, -⟩ := id hcx
  obtain ⟨hKn, hP, hD, hSv, hRv⟩ := id hR
  refine W.widen (k := mc) (n := ms) (by omega) (by omega) (vx_ret ?_)
  have hq' : ∀ t : State, t.heap = H → s.WarmedH t.vm → gm_QC D ti adK A α0 n0 Q args s (.returned (some (gm_rf α k))) t := fun t ht hW => ⟨⟨_, some (gm_vr k), α, n, K, R, M, rfl, ⟨_, rfl, rfl, hk⟩, hq, hxt, va_K.moved hW.alike hKn, by rw [ht]; exact hP, hD, hRv⟩, hSv.F ht⟩
  have hv : gm_rf α k = .null ∨ ∃ a, gm_rf α k = .ref a := gm_rf_or α k
  rcases hr with ⟨C, hr⟩ | ⟨t, hr⟩
  · exact W.aret hx hb (by rw [hret]; exact hr) (Or.inl ⟨_, rfl⟩) hv hq' hSv.2.2 hdg hlk
  · exact W.aret hx hb (by rw [hret]; exact hr) (Or.inr ⟨_, rfl⟩) hv hq' hSv.2.2 hdg hlk
theorem gm_sld_spec {o ix id : Nat} (h : gm_sld o ix = some id) : id < 1000 ∧ ∃ tx, (gm_rn o, ix, tx, id) ∈ gm_sr_ := by
  have h1 := List.all_eq_true.mp gm_slk_ok _ (gm_lookup2 _ _ _ h)
  simp only [Bool.and_eq_true, decide_eq_true_eq] at h1
  obtain ⟨h1, h2⟩ := h1
  refine ⟨h2, ?_⟩
  cases hr : gm_sr_[id]? with
  | none => rw [hr] at h1; cases h1
  | some r =>
    rw [hr] at h1
    obtain ⟨r1, r2, r3, r4⟩ := r
    simp only [decide_eq_true_eq] at h1
    obtain ⟨rfl, rfl, rfl⟩ := h1
    exact ⟨r3, List.mem_of_getElem? hr⟩
theorem gm_ldcW {p : Program} {l : Launch} {e : Env} {Rm : Room} {s : State} {m : MethodId} {args : Array Value} {below : List Frame} {meth : Method} {c : Code} {T : State} {locs : List Loc} {cells slots : Nat}
    (Xs : Stand p l e Rm s m args below meth c T locs cells slots) (hexec : p.tables.exec = Jvm.exec) {own text : String} {index : Nat} {a : Addr} (hown : s.vm.findClass own = some m.cls)
    (hconst : (Jvm.Cond.stringRef own index text).before args s = true) (hev : (Term.string own index).eval args s none [] s = some (.ref a)) {g : JFrame} (hg : g.method = m) (hdg : decode c.code g.pc = .ok (.ldc_w index, 3)) :
    ∀ target, Steps p.tables e below (T.setTop { g with pc := g.pc + 3, stack := .ref a :: g.stack }) target → Steps p.tables e below (T.setTop g) target := by
  obtain ⟨k, cf, i, a', hk, hcf, hcp, -, hr, hev'⟩ := Cond.stringRef_spec hown hconst
  cases hev.symm.trans hev'
  obtain ⟨k', hk', he⟩ := Xs.warmed.alike.2.2 _ _ hk
  have hr' : k'.resolved[index]? = some (some (.string a)) := by
    rcases Xs.warmed.entry hk hk' index with h | ⟨h, -⟩
    · rw [h]; exact hr
    · rw [hr] at h; cases h
  intro target hrest
  subst hg
  jvm_step Xs.here [hexec, hdg, ldc_w.wp_string (e := e) (s := T) (f := g) Xs.here.top hk' (by rw [he]; exact hcf) hcp hr']
  exact hrest
theorem gm_p_ldcs {i : Instr} {ix id : Nat} (h : gm_at mi pc = some i) (hi : i = .ldc ix ∨ i = .ldc_w ix) (hv : gm_sld (gm_ow mi) ix = some id) : gm_Sp X LX d mi pc L st n K R M (pc + gm_len i) L (gm_vo id :: st) n K R M 0 0 := by
  intro p l e Rm s m args below meth c D ti adK adV A hcx hev hd hd2 hA α H locs cells slots ls sv Q' hc1 hc2 hR hL hS k2
  have hdg := gm_dec hcx h (by rcases hi with rfl | rfl <;> rfl)
  obtain ⟨hx, hb, -, hown, -, -, hts, -⟩ := _root_.id hcx
  obtain ⟨hid, tx, hmem⟩ := gm_sld_spec hv
  have hZ := hev.2.1 _ hmem
  have k3 := k2 α H locs ls (Value.ref (adK id) :: sv) gm_xt.rf hR hL ⟨_, _, rfl, ⟨adK id, rfl, fun _ => rfl⟩, hS⟩
  rcases hi with rfl | rfl
  · exact va_ldcS hx hb hown hZ hdg k3
  · intro T hT Xs
    obtain ⟨t, a1, b1⟩ := k3 T hT Xs
    exact ⟨t, gm_ldcW Xs hx hown hZ.1 hZ.2 (g := F0 m pc ls sv) rfl (by rw [hb]; exact hdg) t a1, b1⟩
end GE
end
/-! 11a.obj -/
section
/-- Object's constructor: class of the code, place; word -/
def gm_oil : List ((Nat × Nat) × Nat) := [((0, 3), 188), ((1, 3), 196), ((2, 3), 202), ((3, 3), 312), ((4, 3), 331), ((7, 3), 391), ((8, 3), 429), ((10, 3), 453), ((11, 3), 459), ((13, 3), 1186), ((20, 7), 1683)]
def gm_oi (o ix : Nat) : Bool := (gm_oil.lookup (o, ix)).isSome
theorem gm_oil_ok : gm_oil.all (fun q => decide (gm_tb (q.2) = some (.methodLink (gm_rn q.1.1) q.1.2 Lib.objectInit))) = true := by decide +kernel
set_option maxRecDepth 100000 in
theorem gm_oi1 : Jvm.Cond.instanceMethod Lib.objectInit ∈ gm_T := gm_T_in (i := 189) (by decide +kernel) rfl
set_option maxRecDepth 100000 in
theorem gm_oi2 : Jvm.Cond.code Lib.objectInit ⟨#[0xb1]⟩ 1 none ∈ gm_T := gm_T_in (i := 190) (by decide +kernel) rfl
def gm_jmax : Nat := 11
def gm_jmin : Nat := 26
set_option maxRecDepth 100000 in
theorem gm_jwmax : Jvm.Cond.code Lib.Math.max.name Lib.Math.max.code 2 (some .int) ∈ gm_T := gm_T_in (i := 358) (by decide +kernel) rfl
theorem gm_jnmax : gm_mn gm_jmax = Lib.Math.max.name := by decide +kernel
set_option maxRecDepth 100000 in
theorem gm_jwmin : Jvm.Cond.code Lib.Math.min.name Lib.Math.min.code 2 (some .int) ∈ gm_T := gm_T_in (i := 610) (by decide +kernel) rfl
theorem gm_jnmin : gm_mn gm_jmin = Lib.Math.min.name := by decide +kernel
/-- the number of a method's class among those of which objects are made -/
def gm_cio (i : Nat) : Nat := (([0, 1, 2, 3, 4, 4, 4, 4, 999, 2, 2, 999, 4, 5, 6, 7, 999, 8, 9, 0, 0, 0, 0, 0, 0, 2, 999, 5, 1, 5, 5, 5, 5, 5, 4, 4, 4, 4, 999, 4, 10, 10, 4, 5, 4, 2, 0, 0, 0, 999, 0, 0, 0, 0, 0, 3, 3, 1, 2, 0, 0, 0, 3, 0, 0, 0, 0, 0, 0, 3, 999, 0, 999, 9, 7, 8, 8, 8, 8, 9, 9, 8, 999, 999, 999, 999, 999, 999, 999, 999, 999, 999, 999, 8, 8, 8, 9, 9, 8, 9, 9, 9, 2, 7, 7, 1, 7, 7, 2, 7, 7, 7, 8, 7, 7, 7, 7, 7, 7, 1, 7, 8, 999, 0, 9, 999, 10, 999, 0, 0, 999, 0, 0, 0, 0, 999, 0, 999, 0, 0, 0, 999, 0, 0, 0, 0, 999, 0, 5, 999, 0, 999, 0, 0, 3, 999, 0, 999, 0, 1, 999, 0, 0, 0, 4, 10, 999, 0, 999, 0, 5, 999, 0, 999, 0, 5, 999, 0, 999, 0, 0, 0, 0, 0, 0, 999, 0, 0, 0, 999, 0, 999, 0, 0, 999, 0, 999, 0, 0, 0, 999, 0, 6, 6, 6, 6, 999, 0, 6, 6, 999, 0, 999, 0, 0, 0, 0, 999, 0, 0, 999, 0, 999, 0, 999, 0, 999, 0, 999, 0, 999, 0, 999, 0, 11, 11, 11, 11, 11, 11, 11, 11, 11, 11, 11, 11, 11, 11, 11, 11, 11, 11, 11, 11, 11, 11, 11, 11, 11, 11, 11, 11, 11, 11, 11, 11, 11, 11, 11, 11, 11, 11, 11, 11, 11, 11, 11, 11, 11, 11, 11, 11, 11, 11, 11, 11, 11, 11, 11, 11, 11, 11, 11, 11, 11, 11, 11, 11, 11, 11, 11, 11, 11, 11, 11, 11, 11, 11, 11, 11, 11, 11, 11, 11, 11, 11, 11, 11, 11, 11, 11, 11, 11, 11, 11, 11, 11, 11, 11, 11, 11, 11, 11, 11, 11, 11, 11, 11, 11, 11, 11, 11, 11, 11, 11, 11, 11, 11, 11, 11, 11, 11, 11, 11, 11, 11, 11, 11, 11, 11, 11, 11, 11, 11, 11, 11, 11, 11, 11, 11, 999] : List Nat)[i]?).getD 999
theorem gm_cio_ok : (List.range 371).all (fun i => decide (gm_cio i = 999) || (decide (gm_cio i < 12) && decide (gm_cn (gm_cio i) = (gm_mn i).cls))) = true := by decide +kernel
end
/-! 11b.thr -/
section
/-! Object's constructor; max and min; a throw. -/
section GT
variable {X : Int → Int} {LX d bc bs mi pc : Nat} {L : gm_L} {st : List gm_V} {n : Nat} {K : gm_K} {R : gm_R} {M : gm_M} {Q : gm_Q}
theorem gm_p_oinit {ix k : Nat} (h : gm_at mi pc = some (.invokespecial ix)) (ho : gm_oi (gm_ow mi) ix = true) (hk : 1 ≤ k ∧ k ≤ n) (hst : (st.map gm_cat).sum ≤ 8) (hd' : 1 ≤ d) : gm_Sp X LX d mi pc L (gm_vr k :: st) n K R M (pc + 3) L st n K R M 0 0 := by
  intro p l e Rm s m args below meth c D ti adK adV A hcx hev hd hd2 hA α H locs cells slots ls sv Q' hc1 hc2 hR hL hS k2
  obtain ⟨w1, sv, rfl, ⟨rfl, -⟩, hS⟩ := hS
  have hdg := gm_dec hcx h rfl
  obtain ⟨hx, hb, hml, hown, -, -, hts, -⟩ := _root_.id hcx
  obtain ⟨q, hq⟩ := Option.isSome_iff_exists.mp ho
  have h1 := List.all_eq_true.mp gm_oil_ok _ (gm_lookup2 _ _ _ hq)
  simp only [decide_eq_true_eq] at h1
  rw [gm_rf_pos hk.1 (Nat.lt_of_le_of_lt hk.2 hR.2.2.2.2.1)]
  refine W.objInit hx hb hown (hts _ (gm_T_in h1 rfl)) (hts _ gm_oi1) (hts _ gm_oi2) rfl (by rw [hml]; exact hL.2.choose_spec.1.1) rfl hdg (by omega) ?_ (k2 α H locs ls sv gm_xt.rf hR hL hS)
  have : (sv.map fun v => v.category).sum ≤ 8 := by rw [gm_sum_eq hS]; exact hst
  show 2 * 0 + _ + 12 ≤ _
  omega
theorem gm_p_max {ix : Nat} {x y : Int} (h : gm_at mi pc = some (.invokestatic ix)) (hc : gm_cal (gm_ow mi) ix = some (2, gm_jmax)) (hx0 : gm_w x = x) (hy0 : gm_w y = y) (hst : (st.map gm_cat).sum ≤ 8) (hd' : 1 ≤ d) : gm_Sp X LX d mi pc L (gm_vi y :: gm_vi x :: st) n K R M (pc + 3) L (gm_vi (max x y) :: st) n K R M 0 0 := by
  intro p l e Rm s m args below meth c D ti adK adV A hcx hev hd hd2 hA α H locs cells slots ls sv Q' hc1 hc2 hR hL hS k2
  obtain ⟨w0, sv, rfl, h0, hS⟩ := hS
  obtain ⟨w1, sv, rfl, h1, hS⟩ := hS
  cases h0; cases h1
  have hdg := gm_dec hcx h rfl
  obtain ⟨hx, hb, hml, hown, -, -, hts, -⟩ := _root_.id hcx
  obtain ⟨hj, i1, i2, -, -, i5, -⟩ := gm_cal_spec hc
  rw [gm_jnmax] at i1 i2 i5
  have hsum : (sv.map fun v => v.category).sum ≤ 8 := by rw [gm_sum_eq hS]; exact hst
  refine va_mmax hx hb (by rw [hml]; exact hL.2.choose_spec.1.1.symm) hown (hts _ (i2 (by omega))) (hts _ (i5 (Or.inl rfl))) (hts _ i1) (hts _ gm_jwmax) (by omega) (by omega) (by omega) (by omega) hdg ?_
  have e : (if Int32.ofInt x < Int32.ofInt y then Int32.ofInt y else Int32.ofInt x) = Int32.ofInt (max x y) := by
    have := gm_lt x y
    rw [hx0, hy0] at this
    simp only [this]
    split
    · rename_i q; rw [Int.max_eq_right (by omega)]
    · rename_i q; rw [Int.max_eq_left (by omega)]
  rw [e]
  exact k2 α H locs ls _ gm_xt.rf hR hL ⟨_, _, rfl, rfl, hS⟩
theorem gm_p_min {ix : Nat} {x y : Int} (h : gm_at mi pc = some (.invokestatic ix)) (hc : gm_cal (gm_ow mi) ix = some (2, gm_jmin)) (hx0 : gm_w x = x) (hy0 : gm_w y = y) (hst : (st.map gm_cat).sum ≤ 8) (hd' : 1 ≤ d) : gm_Sp X LX d mi pc L (gm_vi y :: gm_vi x :: st) n K R M (pc + 3) L (gm_vi (min x y) :: st) n K R M 0 0 := by
  intro p l e Rm s m args below meth c D ti adK adV A hcx hev hd hd2 hA α H locs cells slots ls sv Q' hc1 hc2 hR hL hS k2
  obtain ⟨w0, sv, rfl, h0, hS⟩ := hS
  obtain ⟨w1, sv, rfl, h1, hS⟩ := hS
  cases h0; cases h1
  have hdg := gm_dec hcx h rfl
  obtain ⟨hx, hb, hml, hown, -, -, hts, -⟩ := _root_.id hcx
  obtain ⟨hj, i1, i2, -, -, i5, -⟩ := gm_cal_spec hc
  rw [gm_jnmin] at i1 i2 i5
  have hsum : (sv.map fun v => v.category).sum ≤ 8 := by rw [gm_sum_eq hS]; exact hst
  refine va_mmin hx hb (by rw [hml]; exact hL.2.choose_spec.1.1.symm) hown (hts _ (i2 (by omega))) (hts _ (i5 (Or.inl rfl))) (hts _ i1) (hts _ gm_jwmin) (by omega) (by omega) (by omega) (by omega) hdg ?_
  have e : (if Int32.ofInt y < Int32.ofInt x then Int32.ofInt y else Int32.ofInt x) = Int32.ofInt (min x y) := by
    have := gm_lt y x
    rw [hx0, hy0] at this
    simp only [this]
    split
    · rename_i q; rw [Int.min_eq_right (by omega)]
    · rename_i q; rw [Int.min_eq_left (by omega)]
  rw [e]
  exact k2 α H locs ls _ gm_xt.rf hR hL ⟨_, _, rfl, rfl, hS⟩
theorem gm_xlk_spec {o ik x ic : Nat} (h : gm_xlk o ik = some (x, ic)) : x < 5 ∧ Jvm.Cond.classLink (gm_rn o) ik (gm_xn x) ∈ gm_T ∧ Jvm.Cond.initialized (gm_xn x) ∈ gm_T ∧ (∀ w ∈ gm_xat o ic x, (w ∈ gm_T ∨ w = .castable (gm_xn x) (gm_xn x) ∨ ∃ y ∈ gm_dcs, w = .declares y) ∧ vx_ot w = true) ∧ Bundle.fit (gm_xn x) = true ∧ ∀ y ∈ gm_xnm, Bundle.fit y = true := by
  unfold gm_xlk at h
  cases hr : gm_xl.find? (fun q => decide (q.1 = o ∧ q.2.1 = ik)) with
  | none => rw [hr] at h; cases h
  | some q =>
    rw [hr] at h
    have h1 := List.find?_some hr
    have h3 := List.all_eq_true.mp gm_xl_ok q (List.mem_of_find?_eq_some hr)
    obtain ⟨a1, a2, a3, a4, a5, a6⟩ := q
    simp only [decide_eq_true_eq] at h1
    obtain ⟨rfl, rfl⟩ := h1
    simp only [Option.map_some, Option.some.injEq, Prod.mk.injEq] at h
    obtain ⟨rfl, rfl⟩ := h
    simp only [gm_xck, Bool.and_eq_true, decide_eq_true_eq] at h3
    obtain ⟨⟨⟨⟨b1, b2⟩, b3⟩, b4⟩, b5, b6⟩ := h3
    refine ⟨b1, gm_T_in b2 rfl, gm_T_in b3 rfl, fun w hw => ?_, b5, fun y hy => List.all_eq_true.mp b6 y hy⟩
    have h4 := List.all_eq_true.mp b4 w hw
    simp only [gm_xok, Bool.and_eq_true, Bool.or_eq_true, decide_eq_true_eq] at h4
    refine ⟨?_, h4.2⟩
    rcases h4.1 with (q | q) | q
    · exact Or.inl (List.mem_filter.mpr ⟨gm_mem_in q.1, q.2⟩)
    · exact Or.inr (Or.inl q)
    · obtain ⟨y, hy, hy2⟩ := List.any_eq_true.mp q
      exact Or.inr (Or.inr ⟨y, hy, by simpa using hy2⟩)
end GT
section GTX
variable {p : Program} {l : Launch} {e : Env} {R : Room} {s : State} {m : MethodId} {args : Array Value} {below : List Frame} {meth : Method} {c : Code} {H : Heap} {locs : List Loc} {cells slots : Nat} {Q : State → Prop} {ls : Array Slot} {rest : List Value}
theorem gm_makeX {cc : ByteArray} {pc : Nat} (lw : Bool) (hexec : p.tables.exec = Jvm.exec) (hb : c.code = cc) (hl : l.stackTraces = false) {own cls text : String} {names : List String} {ik is ic sa ix : Nat} {rx : ByteArray} (x0 : decode rx 0 = .ok (.aload_n 0, 1)) (x1 : decode rx 1 = .ok (.aload_n 1, 1)) (x2 : decode rx 2 = .ok (.invokespecial ix, 3)) (x5 : decode rx 5 = .ok (.return_, 1)) {A : Nat → Prop}
    (hown : s.vm.findClass own = some m.cls) (hcls : Bundle.fit cls = true) (hnames : ∀ n ∈ names, Bundle.fit n = true)
    (hk : (Cond.classLink own ik cls).before args s = true) (hini : (Cond.initialized cls).before args s = true) (hstr : vk_R own is text sa s) (hat : ∀ w ∈ gm_atX own ic cls ix rx names, w.before args s = true)
    (hgood : ∀ w ∈ Cond.classLink own ik cls :: Cond.initialized cls :: gm_atX own ic cls ix rx names, vx_ot w = true)
    (hU : vx_Zq Bundle.tN "UNASSIGNED_STACK" Bundle.steD A s s.heap) (hN : vx_Zq Bundle.tN "SUPPRESSED_SENTINEL" Bundle.listD A s s.heap) (hS : va_S A s.heap H locs) (hsize : ls.size = c.maxLocals)
    (d0 : decode cc pc = .ok (.new ik, 3)) (d3 : decode cc (pc + 3) = .ok (.dup, 1)) (d4 : decode cc (pc + 4) = .ok (if lw = true then (.ldc_w is, 3) else (.ldc is, 2))) (d6 : decode cc (pc + (if lw = true then 7 else 6)) = .ok (.invokespecial ic, 3))
    (hRframes : names.length + 3 < R.frames) (hRlocals : (rest.map fun v => v.category).sum + (13 * (names.length + 1) + 43) ≤ R.locals) (hRcells : cells + 1 ≤ R.cells) (hRslots : slots + 6 ≤ R.slots)
    (kk : ∀ (q : Nat) (H1 : Heap) (ce : Cell), H1[q]? = some ce → ce.vm = .none → s.vm.findClass cls = some ce.cls → H.size ≤ H1.size → (∀ a : Nat, a < H.size → H1[a]? = H[a]?) → va_S A s.heap H1 locs → W p l e R s m args below meth c H1 locs (cells + 1) (slots + 6) Q (F0 m (pc + (if lw = true then 7 else 6) + 3) ls (.ref q :: rest))) :
    W p l e R s m args below meth c H locs cells slots Q (F0 m pc ls rest) := by
  intro T hT X
  subst hT
  have htr : e.platform.stackTraces = false := (show e.platform.stackTraces = l.stackTraces by rw [X.admits.platform]).trans hl
  have Y := vx_rebase X (R' := { frames := R.frames, locals := R.locals, cells := 1, slots := 6 }) (Nat.le_refl _) (Nat.le_refl _) hRcells hRslots
  obtain ⟨s', hA'⟩ : ∃ z, z = (T.setVm s.vm).setFrames (.invoking m args :: below) := ⟨_, rfl⟩
  rw [← hA'] at Y
  have hvm : s'.vm = s.vm := by rw [hA']; rfl
  have hhp : s'.heap = T.heap := by rw [hA']; rfl
  have hW0 : s.WarmedH s'.vm := by rw [hvm]; exact State.WarmedH.refl s
  have hat' : ∀ w ∈ gm_atX own ic cls ix rx names, w.before args s' = true := fun w hw => vx_ot_at hW0 hvm.symm (hgood w (List.mem_cons_of_mem _ (List.mem_cons_of_mem _ hw))) (hat w hw)
  have hk' : (Cond.classLink own ik cls).before args s' = true := vx_ot_at hW0 hvm.symm (hgood _ List.mem_cons_self) hk
  have hini' : (Cond.initialized cls).before args s' = true := vx_ot_at hW0 hvm.symm (hgood _ (List.mem_cons_of_mem _ List.mem_cons_self)) hini
  have hU' : vx_Zq Bundle.tN "UNASSIGNED_STACK" Bundle.steD A s' s'.heap := by rw [hhp]; exact vx_Zq.moved hW0.alike (hU.kept hS.2.1)
  have hN' : vx_Zq Bundle.tN "SUPPRESSED_SENTINEL" Bundle.listD A s' s'.heap := by rw [hhp]; exact vx_Zq.moved hW0.alike (hN.kept hS.2.1)
  have h : ∀ w ∈ gm_ownX own ic cls ix rx names, w.before args s' = true := vx_own hat' (vx_isRefq hU'.1) (vx_isRefq hN'.1) hU'.2.word hN'.2.word
  have hown' : s'.vm.findClass own = some m.cls := by rw [hvm]; exact hown
  have hins : (Cond.instantiable cls 6).before args s' = true := h _ (by simp [gm_ownX])
  obtain ⟨vm₁, cX, kX, hfX, hkX, -, -, X₁, st1⟩ := Y.newCold hexec (own := own) (C := cls) (index := ik) (n := 6) hown' hk' hins hini'
    (g := F0 m pc ls rest) rfl (by rw [hb]; exact d0) (Nat.le_refl _) (Nat.le_refl _)
  generalize hT1 : (T.setVm vm₁).pushCell { cls := cX, slots := kX.instanceTypes.map defaultValue, vm := .none } = T1 at X₁ st1
  have hcat : (Value.ref T.heap.size).category = 1 := rfl
  have hcellA : T1.heap[T.heap.size]? = some (freshCell cX kX) := by rw [← hT1]; exact State.heap_pushCell_size _ _
  have d3' : decode c.code (pc + 3) = .ok (.dup, 1) := by rw [hb]; exact d3
  have hstr' : vk_R own is text sa s' := vk_R.warm hW0 hstr
  obtain ⟨V, ce, L, Z, hL, hlt, hcl9, hvm9, st⟩ := gm_ctorMadeX X₁ hexec htr (own := own) (cls := cls) (names := names) (ic := ic) x0 x1 x2 x5 hown' hcls hnames h (fun x hx => nomatch hx) hfX hkX hcellA (by rw [hhp]; exact Nat.le_refl _) (msg := .ref sa) rfl
    (g := { method := m, pc := pc + (if lw = true then 7 else 6), locals := ls, stack := .ref sa :: .ref T.heap.size :: .ref T.heap.size :: rest, locked := none }) rfl hsize (rest := rest) rfl
    (by rw [hb]; exact d6) hRframes (by simp only [List.map_cons, List.sum_cons, hcat]; omega)
  have Z0 := Stand.forget (locs := []) Z (fun y hy => by rw [hL y hy, hhp]; exact Nat.le_refl _)
  obtain ⟨f1, f2⟩ := vx_frame Z0.same
  rw [hhp] at f1 f2
  have hh : (V.setCell T.heap.size ce).heap[T.heap.size]? = some ce := heapAt_setCell_self (s := V) ce hlt
  subst hA'
  have X5 := vx_back9 X Y Z0
  have X6 : Stand p l e R s m args below meth c (V.setCell T.heap.size ce) locs (cells + 1) (slots + 6) := { X5 with same := X5.same.mono (by omega) (by omega) }
  obtain ⟨t, a1, b1⟩ := kk T.heap.size (V.setCell T.heap.size ce).heap ce hh hvm9 (by rw [hcl9]; exact hfX) f1 (fun q hq => f2 q hq (fun z hz => nomatch hz)) ⟨Nat.le_trans hS.1 f1, fun q h1 h2 => (f2 q (Nat.lt_of_lt_of_le h1 hS.1) (fun z hz => nomatch hz)).trans (hS.2.1 q h1 h2), hS.2.2⟩ _ rfl X6
  refine ⟨t, st1 _ ?_, b1⟩
  show Steps p.tables e below (T1.setTop { method := m, pc := pc + 3, locals := ls, stack := .ref T.heap.size :: rest, locked := none }) _
  jvm_step X₁.here [X₁.here.top, hexec, d3', Value.category]
  cases lw with
  | true => exact gm_ldcW X₁ hexec (own := own) (text := text) (index := is) (a := sa) hown' hstr'.1 hstr'.2 (g := { method := m, pc := pc + 4, locals := ls, stack := .ref T.heap.size :: .ref T.heap.size :: rest, locked := none }) rfl (by rw [hb]; exact d4) _ (st _ a1)
  | false => exact X₁.ldcString hexec (own := own) (text := text) (index := is) (a := sa) hown' hstr'.1 hstr'.2 (g := { method := m, pc := pc + 4, locals := ls, stack := .ref T.heap.size :: .ref T.heap.size :: rest, locked := none }) rfl (by rw [hb]; exact d4) _ (st _ a1)
end GTX
section GTY
variable {X : Int → Int} {LX d bc bs mi pc : Nat} {L : gm_L} {st : List gm_V} {n : Nat} {K : gm_K} {R : gm_R} {M : gm_M} {Q : gm_Q}
theorem gm_throw {ik is ic x id : Nat} {lw : Bool} (hh : gm_hh mi = []) (h : gm_at mi pc = some (.new ik)) (hx : gm_xlk (gm_ow mi) ik = some (x, ic)) (h3 : gm_at mi (pc + 3) = some .dup) (h4 : gm_at mi (pc + 4) = some (if lw = true then .ldc_w is else .ldc is)) (h5 : gm_at mi (pc + (if lw = true then 7 else 6)) = some (.invokespecial ic)) (h6 : gm_at mi (pc + (if lw = true then 10 else 9)) = some .athrow) (hs : gm_sld (gm_ow mi) is = some id) (hst : (st.map gm_cat).sum ≤ 8) (hd' : 6 ≤ d) (hb1 : 1 ≤ bc) (hb2 : 6 ≤ bs) (hq : Q (.inr x) n K R M) : gm_Wp X LX d bc bs mi pc L st n K R M Q := by
  intro p l e Rm s m args below meth c D ti adK adV A α0 n0 mc ms hcx hev hd hd2 hmc hms hA α H locs cells slots ls sv hxt hc1 hc2 hR hL hS
  obtain ⟨hx9, hb, hml, hown, -, hlk, hts, -, hl, -, htab⟩ := _root_.id hcx
  obtain ⟨hKn, hP, hD, hSv, hRv⟩ := _root_.id hR
  obtain ⟨x1, x2, x3, x4, x5, x6⟩ := gm_xlk_spec hx
  obtain ⟨hid, tx, hmem⟩ := gm_sld_spec hs
  have hZ := hev.2.1 _ hmem
  have d0 := gm_dec hcx h rfl
  have d3 := gm_dec hcx h3 rfl
  have hsum : (sv.map fun v => v.category).sum ≤ 8 := by rw [gm_sum_eq hS]; exact hst
  have hat : ∀ w ∈ gm_xat (gm_ow mi) ic x, w.before args s = true := by
    intro w hw
    rcases (x4 w hw).1 with q | q | ⟨y, hy, q⟩
    · exact hts _ q
    · have h9 := hev.2.2.2.2.2.2.2.2.2.2.2.1 x x x1 x1
      rw [if_pos rfl] at h9
      rw [q]
      exact va_Nw.use rfl h9
    · rw [q]
      exact va_Nw.use rfl (hev.2.2.2.2.2.2.2.2.2.2.2.2 y hy)
  have hgood : ∀ w ∈ Jvm.Cond.classLink (gm_rn (gm_ow mi)) ik (gm_xn x) :: Jvm.Cond.initialized (gm_xn x) :: gm_xat (gm_ow mi) ic x, vx_ot w = true := by
    intro w hw
    rcases List.mem_cons.mp hw with rfl | hw
    · rfl
    · rcases List.mem_cons.mp hw with rfl | hw
      · rfl
      · exact (x4 w hw).2
  have hout : ∀ pc' : Nat, ∀ z ∈ c.exceptionTable.toList, covers z pc' = false := by
    intro pc' z hz
    rw [htab, hh] at hz
    cases hz
  have hXC : ∀ t : State, s.vm.Alike t.vm → H.size ≤ t.heap.size → (∀ q : Nat, q < H.size → t.heap[q]? = H[q]?) → gm_XC D ti A α0 n0 Q (gm_xn x) s t := by
    intro t hvm hz hk
    refine ⟨⟨x, α, n, K, R, M, rfl, x1, hq, hxt, va_K.moved hvm hKn, hP.kept (fun k y hy => hk y.1 ((hP k y hy).lt)), hD, hRv⟩, Nat.le_trans hSv.1 hz, fun q h1 h2 => ?_⟩
    rw [hk q (Nat.lt_of_lt_of_le h1 hSv.1)]
    exact hSv.2.1 q h1 h2
  have hsz : ls.size = c.maxLocals := by rw [hml]; exact hL.2.choose_spec.1.1
  by_cases hx4 : x = 4
  · have e4 : gm_xat (gm_ow mi) ic x = gm_atX (gm_rn (gm_ow mi)) ic (gm_xn x) gm_xix gm_xrx gm_xnm := by unfold gm_xat; rw [if_pos hx4]
    rw [e4] at hat hgood
    have d4 : decode (gm_bc mi) (pc + 4) = .ok (if lw = true then (.ldc_w is, 3) else (.ldc is, 2)) := by
      cases lw with
      | true => exact gm_dec hcx h4 rfl
      | false => exact gm_dec hcx h4 rfl
    have d6 := gm_dec hcx h5 rfl
    have d9 := gm_dec hcx h6 rfl
    refine gm_makeX lw hx9 hb hl (names := gm_xnm) (ix := gm_xix) (rx := gm_xrx) (by decide +kernel) (by decide +kernel) (by decide +kernel) (by decide +kernel) hown x5 x6 (hts _ x2) (hts _ x3) hZ hat hgood hev.2.2.1 hev.2.2.2.1 hSv hsz d0 d3 d4 d6 (by show 2 + 3 < _; omega) (by show _ + (13 * (2 + 1) + 43) ≤ _; omega) (by omega) (by omega) (fun q H1 ce h1 h2 h3 h7 h8 h9 => ?_)
    refine vx_athrow hx9 hb (pc := pc + (if lw = true then 7 else 6) + 3) (by cases lw <;> exact d9) (vx_out (ce := ce) (E := gm_xn x) (hout _) hlk h1 h2 h3 (fun t ht hvm => hXC t hvm (by rw [ht]; exact h7) (fun q hq => by rw [ht]; exact h8 q hq)) h9.2.2 (by omega) (by omega))
  have e4 : gm_xat (gm_ow mi) ic x = vx_atS (gm_rn (gm_ow mi)) ic (gm_xn x) gm_xnm := by unfold gm_xat; rw [if_neg hx4]
  rw [e4] at hat hgood
  cases lw with
  | true =>
    have d4 := gm_dec hcx h4 rfl
    have d7 := gm_dec hcx h5 rfl
    have d10 := gm_dec hcx h6 rfl
    exact vx_throwSW (names := gm_xnm) hx9 hb hl hown x5 x6 (hts _ x2) (hts _ x3) hZ hat hgood hev.2.2.1 hev.2.2.2.1 hSv hsz d0 d3 d4 d7 d10 (hout _) (by show 2 + 3 < _; omega) (by show _ + (13 * (2 + 1) + 43) ≤ _; omega) (by omega) (by omega) hlk hXC hSv.2.2 (by omega) (by omega)
  | false =>
    have d4 := gm_dec hcx h4 rfl
    have d6 := gm_dec hcx h5 rfl
    have d9 := gm_dec hcx h6 rfl
    exact vx_throwS (names := gm_xnm) hx9 hb hl hown x5 x6 (hts _ x2) (hts _ x3) hZ hat hgood hev.2.2.1 hev.2.2.2.1 hSv hsz d0 d3 d4 d6 d9 (hout _) (by show 2 + 3 < _; omega) (by show _ + (13 * (2 + 1) + 43) ≤ _; omega) (by omega) (by omega) hlk hXC hSv.2.2 (by omega) (by omega)
end GTY
end
/-! 11c.acp -/
section
/-! SYSTEM.ARRAYCOPY: class of the code, place; word. Laid by wip/am/gen_tables.py -/
def gm_acl : List ((Nat × Nat) × Nat) := [((2, 40), 756), ((5, 150), 1182)]
def gm_ac (o ix : Nat) : Bool := (gm_acl.lookup (o, ix)).isSome
theorem gm_acl_ok : gm_acl.all (fun q => decide (gm_tb (q.2) = some (.methodLink (gm_rn q.1.1) q.1.2 arraycopyName))) = true := by decide +kernel
set_option maxRecDepth 100000 in
theorem gm_ac1 : (.native arraycopyName : Jvm.Cond) ∈ gm_T := gm_T_in (i := 758) (by decide +kernel) rfl
set_option maxRecDepth 100000 in
theorem gm_ac2 : (.static arraycopyName : Jvm.Cond) ∈ gm_T := gm_T_in (i := 757) (by decide +kernel) rfl
set_option maxRecDepth 100000 in
theorem gm_ac3 : (.initialized "java/lang/System" : Jvm.Cond) ∈ gm_T := gm_T_in (i := 168) (by decide +kernel) rfl
end
/-! 11d.cpy -/
section
/-! A ROW COPIED by System.arraycopy. -/
section GA2
variable {X : Int → Int} {LX d bc bs mi pc : Nat} {L : gm_L} {st : List gm_V} {n : Nat} {K : gm_K} {R : gm_R} {M : gm_M} {Q : gm_Q}
/-- m numbers of the row k1 from sp on, copied into the row k2 from dp on -/
def gm_cpM (M : gm_M) (k1 k2 : Nat) (sp dp m : Int) : gm_M := fun a b => if a = k2 ∧ dp ≤ b ∧ b < dp + m then M k1 (sp + (b - dp)) else M a b
theorem gm_cpM_ne {k1 k2 k : Nat} {sp dp m : Int} (h : k ≠ k2) (ti : Nat → ClassId) (α : Nat → Nat) : gm_en ti α K R (gm_cpM M k1 k2 sp dp m) k = gm_en ti α K R M k := by
  have e : gm_cpM M k1 k2 sp dp m k = M k := by
    funext b
    unfold gm_cpM
    rw [if_neg (fun q => h q.1)]
  unfold gm_en gm_fs
  rw [e]
theorem gm_p_acopy {ix k1 k2 : Nat} {sp dp m : Int} (h : gm_at mi pc = some (.invokestatic ix)) (ha : gm_ac (gm_ow mi) ix = true) (hk1 : 1 ≤ k1 ∧ k1 ≤ n) (hK1 : (K k1).1 = 0) (hk2 : 1 ≤ k2 ∧ k2 ≤ n) (hK2 : (K k2).1 = 0) (i1 : gm_w sp = sp) (i2 : gm_w dp = dp) (i3 : gm_w m = m) (h1 : 0 ≤ sp) (h2 : 0 ≤ dp) (h3 : 0 ≤ m) (h4 : sp + m ≤ (K k1).2) (h5 : dp + m ≤ (K k2).2) (hst : (st.map gm_cat).sum ≤ 8) (hd' : 1 ≤ d) : gm_Sp X LX d mi pc L (gm_vi m :: gm_vi dp :: gm_vr k2 :: gm_vi sp :: gm_vr k1 :: st) n K R M (pc + 3) L st n K R (gm_cpM M k1 k2 sp dp m) 0 0 := by
  intro p l e Rm s me args below meth c D ti adK adV A hcx hev hd hd2 hA α H locs cells slots ls sv Q' hc1 hc2 hR hL hS kk
  obtain ⟨w3, sv, rfl, g3, hS⟩ := hS
  obtain ⟨w2, sv, rfl, g2, hS⟩ := hS
  obtain ⟨wb, sv, rfl, ⟨rfl, -⟩, hS⟩ := hS
  obtain ⟨w1, sv, rfl, g1, hS⟩ := hS
  obtain ⟨wa, sv, rfl, ⟨rfl, -⟩, hS⟩ := hS
  cases g1; cases g2; cases g3
  have hdg := gm_dec hcx h rfl
  obtain ⟨hx, hb, hml, hown, -, -, hts, -⟩ := _root_.id hcx
  obtain ⟨hKn, hP, hD, hSv, hRv⟩ := _root_.id hR
  obtain ⟨q, hq⟩ := Option.isSome_iff_exists.mp ha
  have h9 := List.all_eq_true.mp gm_acl_ok _ (gm_lookup2 _ _ _ hq)
  simp only [decide_eq_true_eq] at h9
  have he1 := gm_wl_at (ti := ti) (α := α) (K := K) (R := R) (M := M) hk1.1 hk1.2
  have he2 := gm_wl_at (ti := ti) (α := α) (K := K) (R := R) (M := M) hk2.1 hk2.2
  have e1 : gm_en ti α K R M k1 = .inl (ti 0, (K k1).2, .inl fun j => Int32.ofInt (M k1 j)) := by unfold gm_en; rw [hK1]
  have e2 : ∀ M : gm_M, gm_en ti α K R M k2 = .inl (ti 0, (K k2).2, .inl fun j => Int32.ofInt (M k2 j)) := by intro M; unfold gm_en; rw [hK2]
  rw [e1] at he1
  rw [e2] at he2
  rw [gm_rf_pos hk1.1 (Nat.lt_of_le_of_lt hk1.2 hRv.1), gm_rf_pos hk2.1 (Nat.lt_of_le_of_lt hk2.2 hRv.1)]
  have n1 : ((Int32.ofInt sp).toNatClampNeg : Int) = sp := by rw [gm_cl, i1]; omega
  have n2 : ((Int32.ofInt dp).toNatClampNeg : Int) = dp := by rw [gm_cl, i2]; omega
  have n3 : ((Int32.ofInt m).toNatClampNeg : Int) = m := by rw [gm_cl, i3]; omega
  have lt0 : ∀ z : Int, gm_w z = z → 0 ≤ z → ¬ Int32.ofInt z < 0 := by
    intro z hz hz0 hlt
    have h8 : Int32.ofInt z < Int32.ofInt 0 := hlt
    rw [gm_lt, hz] at h8
    have : gm_w 0 = 0 := by decide
    omega
  have hnf : nativeFrameWords "java/lang/System" "arraycopy" 5 ≤ 200 := by decide +kernel
  have hsum : (sv.map fun v => v.category).sum ≤ 8 := by rw [gm_sum_eq hS]; exact hst
  refine va_copyi hx hb (by rw [hml]; exact hL.2.choose_spec.1.1.symm) hown (hts _ (gm_T_in h9 rfl)) (hts _ gm_ac1) (hts _ gm_ac2) (hts _ gm_ac3) hKn hP hD hSv (k1 - 1) (k2 - 1) 0 0 he1 he2 rfl rfl rfl (lt0 _ i1 h1) (lt0 _ i2 h2) (lt0 _ i3 h3) (by omega) (by omega) (fun _ _ => rfl) (by omega) (by omega) hdg fun H1 locs1 p1 p2 p3 => ?_
  have e3 : (va_cpy (fun j : Nat => Int32.ofInt (M k1 j)) (fun j : Nat => Int32.ofInt (M k2 j)) (Int32.ofInt sp).toNatClampNeg (Int32.ofInt dp).toNatClampNeg (Int32.ofInt m).toNatClampNeg) = fun j : Nat => Int32.ofInt (gm_cpM M k1 k2 sp dp m k2 j) := by
    funext j
    unfold va_cpy gm_cpM
    by_cases e : (Int32.ofInt dp).toNatClampNeg ≤ j ∧ j < (Int32.ofInt dp).toNatClampNeg + (Int32.ofInt m).toNatClampNeg
    · rw [if_pos e, if_pos ⟨rfl, by omega, by omega⟩]
      have e5 : (((Int32.ofInt sp).toNatClampNeg + (j - (Int32.ofInt dp).toNatClampNeg) : Nat) : Int) = sp + ((j : Int) - dp) := by omega
      show Int32.ofInt (M k1 (((Int32.ofInt sp).toNatClampNeg + (j - (Int32.ofInt dp).toNatClampNeg) : Nat) : Int)) = _
      rw [e5]
    · rw [if_neg e, if_neg (fun q => e ⟨by omega, by omega⟩)]
  rw [e3, gm_wl_set (M' := gm_cpM M k1 k2 sp dp m) (R' := R) hk2.1 hk2.2 (e2 _) (fun k' hk' => gm_cpM_ne hk' ti α)] at p1 p2
  exact kk α H1 locs1 ls sv gm_xt.rf ⟨hKn, p1, p2, p3, hRv⟩ hL hS
end GA2
end
/-! 11e.upc -/
section
/-! CALLS of a method that is inherited or abstract where it is named: (class of the code, place, class of the object): the method, its name there, its owner; words. Laid by wip/am/gen_tables.py -/
def gm_ul : List ((Nat × Nat × Nat) × Nat × MethodName × String × Nat × Nat × Nat × Nat × Nat) := [((0, 117, 7), 72, ⟨"GlacierMail$ValleyReader", "readText", "(I)I"⟩, "GlacierMail$TextReader", 814, 815, 817, 818, 163), ((10, 24, 9), 73, ⟨"GlacierMail$TextReader", "clear", "()V"⟩, "GlacierMail$TextReader", 820, 822, 823, 824, 166), ((10, 24, 7), 74, ⟨"GlacierMail$TextReader", "clear", "()V"⟩, "GlacierMail$TextReader", 820, 822, 827, 828, 164), ((10, 34, 9), 79, ⟨"GlacierMail$TextReader", "readLine", "()Z"⟩, "GlacierMail$TextReader", 845, 847, 848, 849, 166), ((10, 34, 7), 103, ⟨"GlacierMail$TextReader", "readLine", "()Z"⟩, "GlacierMail$TextReader", 845, 847, 968, 969, 164), ((0, 139, 9), 72, ⟨"GlacierMail$LawReader", "readText", "(I)I"⟩, "GlacierMail$TextReader", 1162, 1163, 1164, 818, 163)]
noncomputable def gm_wok (p : Nat) (w : Jvm.Cond) : Bool := decide (gm_tb (p) = some w) && goodWord w
noncomputable def gm_uck : (Nat × Nat × Nat) × Nat × MethodName × String × Nat × Nat × Nat × Nat × Nat → Bool
  | ((o, ix, ci), mj, x, ow, p1, p2, p3, p4, p5) => gm_wok p1 (.methodLink (gm_rn o) ix x) && (gm_wok p2 (.sameMethod x.cls ow x.name x.desc) && (gm_wok p3 (.selects (gm_cn ci) x (gm_mn mj)) && (gm_wok p4 (.instanceMethod (gm_mn mj)) && (gm_wok p5 (.initialized (gm_mn mj).cls) && (decide (⟨ow, x.name, x.desc⟩ ∈ gm_dcs) && (decide (ow ≠ "java/lang/invoke/MethodHandle" ∧ ow ≠ "java/lang/invoke/VarHandle") && (decide (x.desc = (gm_mn mj).desc) && (decide (mj < 370) && (decide (ci < 12) && (decide (gm_hh mj = []) && decide (gm_ow mj ≠ gm_mxi)))))))))))
set_option maxRecDepth 100000 in
theorem gm_ul_ok : gm_ul.all gm_uck = true := by decide +kernel
def gm_up (o ix ci : Nat) : Option Nat := (gm_ul.find? fun q => decide (q.1 = (o, ix, ci))).map fun q => q.2.1
end
/-! 11f.upv -/
section
/-! A CALL of a method that is inherited, or abstract where it is named. -/
section GUP
variable {X : Int → Int} {LX d bc bs mi pc : Nat} {L : gm_L} {st : List gm_V} {n : Nat} {K : gm_K} {R : gm_R} {M : gm_M} {Q : gm_Q}
theorem gm_up_spec {o ix ci mj : Nat} (h : gm_up o ix ci = some mj) : ∃ (x : MethodName) (ow : String), Jvm.Cond.methodLink (gm_rn o) ix x ∈ gm_T ∧ Jvm.Cond.sameMethod x.cls ow x.name x.desc ∈ gm_T ∧ Jvm.Cond.selects (gm_cn ci) x (gm_mn mj) ∈ gm_T ∧ Jvm.Cond.instanceMethod (gm_mn mj) ∈ gm_T ∧ Jvm.Cond.initialized (gm_mn mj).cls ∈ gm_T ∧ ⟨ow, x.name, x.desc⟩ ∈ gm_dcs ∧ (ow ≠ "java/lang/invoke/MethodHandle" ∧ ow ≠ "java/lang/invoke/VarHandle") ∧ x.desc = (gm_mn mj).desc ∧ mj < 370 ∧ ci < 12 ∧ gm_hh mj = [] ∧ gm_ow mj ≠ gm_mxi := by
  unfold gm_up at h
  cases hq : gm_ul.find? fun q => decide (q.1 = (o, ix, ci)) with
  | none => rw [hq] at h; cases h
  | some q =>
    rw [hq] at h
    have h1 := List.find?_some hq
    have h2 := List.all_eq_true.mp gm_ul_ok q (List.mem_of_find?_eq_some hq)
    obtain ⟨q1, mj', x, ow, p1, p2, p3, p4, p5⟩ := q
    have h1 : q1 = (o, ix, ci) := of_decide_eq_true h1
    subst h1
    have e : mj' = mj := by simpa using h
    subst e
    simp only [gm_uck, gm_wok, Bool.and_eq_true, decide_eq_true_eq] at h2
    obtain ⟨a1, a2, a3, a4, a5, a6, a7, a8, a9, a10, a11, a12⟩ := h2
    exact ⟨x, ow, gm_T_in a1.1 a1.2, gm_T_in a2.1 a2.2, gm_T_in a3.1 a3.2, gm_T_in a4.1 a4.2, gm_T_in a5.1 a5.2, a6, a7, a8, a9, a10, a11, a12⟩
theorem gm_c_up {ix mj k ci d' bc' bs' : Nat} {as : List gm_V} (h : gm_at mi pc = some (.invokevirtual ix)) (hc : gm_up (gm_ow mi) ix ci = some mj) (hh : gm_hh mi = []) (hk : 1 ≤ k ∧ k ≤ n) (hK : (K k).1 = ci + 4) (hna : as.length = gm_na mj) (hcat : ∀ v ∈ as, ¬ gm_sort v = 1) (hlen : as.length + 1 ≤ gm_ml mj) (hst : (st.map gm_cat).sum ≤ 8) (hd' : d' + 1 ≤ d) (hb1 : bc' ≤ bc) (hb2 : bs' ≤ bs)
    (hW : gm_Wp X LX d' bc' bs' mj 0 (gm_ent mj (gm_vr k :: as)) [] n K R M (gm_cont X LX d (bc - bc') (bs - bs') mi (pc + 3) L st Q)) : gm_Wp X LX d bc bs mi pc L (as.reverse ++ gm_vr k :: st) n K R M Q := by
  intro p l e Rm s m args below meth c D ti adK adV A α0 n0 mc ms hcx hev hd hd2 hmc hms hA α H locs cells slots ls sv hxt hc1 hc2 hR hL hS
  obtain ⟨w1, w2, rfl, hw1, w, sv2, rfl, ⟨rfl, hkn⟩, hS2⟩ := gm_sr_app hS
  have hdg := gm_dec hcx h rfl
  obtain ⟨hx, hb, hml, hown, -, -, hts, -, hl, -⟩ := id hcx
  obtain ⟨hKn, hP, hD, hSv, hRv⟩ := id hR
  obtain ⟨x, ow, u1, u2, u3, u4, u5, u6, u7, u8, hj, hci, hhj, hmx⟩ := gm_up_spec hc
  obtain ⟨j1, -, j3, j4, j5, -⟩ := gm_mck_spec hj
  have hA1 := gm_sub_A hD hSv hA
  have hvs : gm_sr α adK n (gm_vr k :: as) (Value.ref (α k) :: w1.reverse) := ⟨_, _, rfl, ⟨(gm_rf_pos hk.1 (Nat.lt_of_le_of_lt hk.2 hRv.1)).symm, hkn⟩, by have := gm_sr_rev hw1; rwa [List.reverse_reverse] at this⟩
  have hM := gm_met (adV := adV) (ti := ti) (D := D) hj hmx hhj l hl hW hvs (by intro v hv; rcases List.mem_cons.mp hv with rfl | hv; exact (by simp [gm_sort]); exact hcat v hv) (by simpa using hlen) hP (hD.self (sz := H.size)) hRv (fun q h => Or.inr h)
  have he := gm_wl_at (ti := ti) (α := α) (K := K) (R := R) (M := M) hk.1 hk.2
  rw [gm_en_obj hK] at he
  obtain ⟨T, N, hcs, -⟩ := gm_cs_get hci
  have hcode : gm_cwd mj = .code (gm_mn mj) (gm_bc mj) (gm_ml mj) (gm_rt mj) := by unfold gm_cwd; rw [if_pos hhj]
  have hwl : w1.length = as.length := by have := (gm_sr_at hw1).1; simpa using this
  have hG : GoodIn gm_T (va_wsU (gm_rn (gm_ow mi)) ix (gm_cn ci) ow x (gm_mn mj) (gm_cwd mj :: gm_T)) := by
    intro w hw
    simp only [va_wsU, List.cons_append, List.nil_append, List.mem_cons] at hw
    rcases hw with rfl | rfl | rfl | rfl | rfl | rfl | hw
    · exact gm_T_good _ u1
    · exact gm_T_good _ u2
    · exact gm_T_good _ u3
    · exact gm_T_good _ u4
    · exact gm_T_good _ u5
    · exact gm_T_good _ j1
    · exact gm_T_good _ hw
  rw [gm_rf_pos hk.1 (Nat.lt_of_le_of_lt hk.2 hRv.1)]
  refine gm_tail (bc' := bc') (bs' := bs') hh hcx hev hd hd2 hmc hms hA hxt hb1 hb2 hc1 hc2 hSv hL hS2 hA1 (a := (Value.ref (α k) :: w1.reverse).toArray) ?_
  refine vx_runU (As := w1.reverse) (n := gm_na mj) (index := ix) (C := gm_cn ci) (owner := ow) (x := x) ⟨hx, hb, hml, hown, hts⟩ hM (va_cwA (rm := { frames := d', cells := bc', slots := bs', locals := d' * 300 }) (gm_na mj) hts hG (by rw [hcode]) rfl rfl (hev.2.2.2.2.2.2.2.2.2.2.2.2 _ u6) ⟨u7.1, u7.2, by rw [u8]; exact j4⟩ ⟨by show d' + 1 ≤ _; omega, by show 8 + (gm_ml mj + 11) + d' * 300 ≤ _; omega⟩) ⟨gm_blind, ?_, fun U hU hWm => ⟨rfl, hU, gm_Ev_to hev hWm (by rw [hU]; exact hSv.1) (fun a h1 h2 => by rw [hU]; exact hSv.2.1 a h1 h2) hA1, va_K.moved hWm.alike hKn⟩⟩ rfl (by rw [List.length_reverse, hwl, hna]) ?_ (by rw [List.reverse_reverse]) (lv_room (by rw [gm_sum_eq hS2]; exact hst)) hdg ⟨by omega, by omega⟩
  · exact va_recv hKn hP hcs he
  · exact hL.2.choose_spec.1.1
end GUP
end
/-! 11g.ctc -/
section
/-! WHAT IS CAUGHT: class of the code, place; the number of the class caught; word. Laid by wip/am/gen_tables.py -/
def gm_ctl : List ((Nat × Nat) × Nat × Nat) := [((15, 13), 0, 808), ((15, 15), 1, 809), ((15, 28), 3, 1214), ((15, 37), 4, 1259), ((15, 57), 2, 1359)]
def gm_ctc (o ix : Nat) : Option Nat := (gm_ctl.lookup (o, ix)).map fun q => q.1
theorem gm_ctl_ok : gm_ctl.all (fun q => decide (q.2.1 < 5) && decide (gm_tb (q.2.2) = some (.classLink (gm_rn q.1.1) q.1.2 (gm_xn q.2.1)))) = true := by decide +kernel
end
/-! 11h.hnd -/
section
/-! A CALLEE'S THROW goes on at this method's handler. -/
/-- none: not told; some none: not caught here; some (some h): caught, it goes on at h -/
def gm_hit (o pc x : Nat) : Bool → List (Nat × Nat × Nat × Nat) → Option (Option Nat)
  | fl, [] => if fl = true then none else some none
  | fl, q :: r => if q.1 ≤ pc ∧ pc < q.2.1 then (if q.2.2.2 = 0 then none else match gm_ctc o q.2.2.2 with
    | some y => if y = x then some (some q.2.2.1) else gm_hit o pc x true r
    | none => none) else gm_hit o pc x fl r
theorem gm_hit_some {o pc x h : Nat} : ∀ {rows : List (Nat × Nat × Nat × Nat)} {fl : Bool}, gm_hit o pc x fl rows = some (some h) → ∃ pre q suf, rows = pre ++ q :: suf ∧ q.2.2.1 = h ∧ (q.1 ≤ pc ∧ pc < q.2.1) ∧ ¬ q.2.2.2 = 0 ∧ gm_ctc o q.2.2.2 = some x ∧ ∀ z ∈ pre, ¬ (z.1 ≤ pc ∧ pc < z.2.1) ∨ (¬ z.2.2.2 = 0 ∧ ∃ y, gm_ctc o z.2.2.2 = some y ∧ ¬ y = x) := by
  intro rows
  induction rows with
  | nil => intro fl h; unfold gm_hit at h; split at h <;> cases h
  | cons q r ih =>
    intro fl h1
    unfold gm_hit at h1
    split at h1
    · rename_i e1
      split at h1
      · cases h1
      · rename_i e2
        cases hc : gm_ctc o q.2.2.2 with
        | none => rw [hc] at h1; cases h1
        | some y =>
          rw [hc] at h1
          dsimp only at h1
          split at h1
          · rename_i e3
            cases h1
            subst e3
            exact ⟨[], q, r, rfl, rfl, e1, e2, hc, fun z hz => nomatch hz⟩
          · rename_i e3
            obtain ⟨pre, q', suf, a1, a2, a3, a4, a5, a6⟩ := ih h1
            refine ⟨q :: pre, q', suf, by rw [a1]; rfl, a2, a3, a4, a5, fun z hz => ?_⟩
            rcases List.mem_cons.mp hz with rfl | hz
            · exact .inr ⟨e2, y, hc, e3⟩
            · exact a6 z hz
    · rename_i e1
      obtain ⟨pre, q', suf, a1, a2, a3, a4, a5, a6⟩ := ih h1
      refine ⟨q :: pre, q', suf, by rw [a1]; rfl, a2, a3, a4, a5, fun z hz => ?_⟩
      rcases List.mem_cons.mp hz with rfl | hz
      · exact .inl e1
      · exact a6 z hz
theorem gm_hit_none {o pc x : Nat} : ∀ {rows : List (Nat × Nat × Nat × Nat)} {fl : Bool}, gm_hit o pc x fl rows = some none → ∀ z ∈ rows, ¬ (z.1 ≤ pc ∧ pc < z.2.1) ∨ fl = true := by
  intro rows
  induction rows with
  | nil => intro fl _ z hz; cases hz
  | cons q r ih =>
    intro fl h1 z hz
    unfold gm_hit at h1
    split at h1
    · split at h1
      · cases h1
      · cases hc : gm_ctc o q.2.2.2 with
        | none => rw [hc] at h1; cases h1
        | some y =>
          rw [hc] at h1
          dsimp only at h1
          split at h1
          · cases h1
          · exfalso
            clear ih hz
            induction r with
            | nil => unfold gm_hit at h1; cases h1
            | cons q2 r2 ih2 =>
              unfold gm_hit at h1
              split at h1
              · split at h1
                · cases h1
                · cases hc2 : gm_ctc o q2.2.2.2 with
                  | none => rw [hc2] at h1; cases h1
                  | some y2 =>
                    rw [hc2] at h1
                    dsimp only at h1
                    split at h1
                    · cases h1
                    · exact ih2 h1
              · exact ih2 h1
    · rename_i e1
      rcases List.mem_cons.mp hz with rfl | hz
      · exact .inl e1
      · exact ih h1 z hz
section GH
variable {X : Int → Int} {LX d bc bs mi pc : Nat} {L : gm_L} {st : List gm_V} {n : Nat} {K : gm_K} {R : gm_R} {M : gm_M} {Q : gm_Q}
theorem gm_cov0 {q : Nat × Nat × Nat × Nat} {pc : Nat} (h : ¬ (q.1 ≤ pc ∧ pc < q.2.1)) : covers ⟨q.1, q.2.1, q.2.2.1, q.2.2.2⟩ pc = false := by
  simp only [covers]
  simpa using h
theorem gm_cov1 {q : Nat × Nat × Nat × Nat} {pc : Nat} (h : q.1 ≤ pc ∧ pc < q.2.1) : covers ⟨q.1, q.2.1, q.2.2.1, q.2.2.2⟩ pc = true := by
  simp only [covers]
  simpa using h
/-- what a callee owes a caller with handlers -/
def gm_contH (X : Int → Int) (LX d bc bs mi pc pc' : Nat) (L : gm_L) (st : List gm_V) (Q : gm_Q) : gm_Q := fun o n K R M => match o with
  | .inl u => gm_Wp X LX d bc bs mi pc' L (u.toList ++ st) n K R M Q
  | .inr x => match gm_hit (gm_ow mi) pc x false (gm_hh mi) with
    | some (some h) => gm_Wp X LX d bc bs mi h L [gm_vo 4000] n K R M Q
    | some none => Q (.inr x) n K R M
    | none => False
theorem gm_tailH {p : Program} {l : Launch} {e : Env} {Rm : Room} {s : State} {m : MethodId} {args : Array Value} {below : List Frame} {meth : Method} {c : Code} {H : Heap} {locs : List Loc} {cells slots bc' bs' mc ms n0 : Nat} {D : va_G} {ti : Nat → ClassId} {adK adV α α0 : Nat → Nat} {A A1 : Nat → Prop} {a : Array Value} {ls : Array Slot} {sv0 sv : List Value}
    (hcx : gm_Cx mi p l s m args meth c) (hev : gm_Ev X LX adK adV A s) (hd : d ≤ Rm.frames) (hd2 : d * 300 ≤ Rm.locals) (hmc : mc ≤ Rm.cells) (hms : ms ≤ Rm.slots) (hA : ∀ q, s.heap.size ≤ q → A q) (hxt : gm_xt α0 n0 α n) (hb1 : bc' ≤ bc) (hb2 : bs' ≤ bs) (hc1 : cells + bc ≤ mc) (hc2 : slots + bs ≤ ms) (hSv : va_S A s.heap H locs) (hL : gm_lr α adK n (gm_ml mi) L ls) (hS : gm_sr α adK n st sv) (hA1 : ∀ q, A1 q → A q)
    (hr : vx_Run p l e Rm s m args below meth c H locs cells slots bc' bs' (F0 m pc ls sv0) sv (gm_QC D ti adK A1 α n (gm_contH X LX d (bc - bc') (bs - bs') mi pc (pc + 3) L st Q) a) (gm_XC D ti A1 α n (gm_contH X LX d (bc - bc') (bs - bs') mi pc (pc + 3) L st Q)) A1) :
    W p l e Rm s m args below meth c H locs cells slots (vx_MQ below (gm_QC D ti adK A α0 n0 Q) (gm_XC D ti A α0 n0 Q) args s mc ms A) (F0 m pc ls sv0) := by
  refine gm_after hr hSv hA1 (fun v u α' n' K' R' M' H1 locs1 ho hq hx9 hk hp hdd hrv hs9 => ?_) (fun x ce q9 α' n' K' R' M' H1 locs1 hx5 hq hx9 hk hp hdd hrv hs9 hce hcv hcl => ?_)
  · refine hq p l e Rm s m args below meth c D ti adK adV A α0 n0 mc ms hcx hev hd hd2 hmc hms hA α' H1 locs1 (cells + bc') (slots + bs') ls (v.toList ++ sv) (hxt.trans hx9) (by omega) (by omega) ⟨hk, hp, hdd, hs9, hrv⟩ (gm_lr_ext hx9 hL) ?_
    cases u with
    | none => cases ho; exact gm_sr_ext hx9 hS
    | some u => obtain ⟨w, rfl, hw⟩ := ho; exact ⟨w, sv, rfl, hw, gm_sr_ext hx9 hS⟩
  · have htab : c.exceptionTable.toList = tableOf (gm_hh mi) := hcx.2.2.2.2.2.2.2.2.2.2
    have hq2 : (match gm_hit (gm_ow mi) pc x false (gm_hh mi) with
      | some (some h) => gm_Wp X LX d (bc - bc') (bs - bs') mi h L [gm_vo 4000] n' K' R' M' Q
      | some none => Q (.inr x) n' K' R' M'
      | none => False) := hq
    cases hhit : gm_hit (gm_ow mi) pc x false (gm_hh mi) with
    | none => rw [hhit] at hq2; exact hq2.elim
    | some o =>
      rw [hhit] at hq2
      cases o with
      | none =>
        dsimp only at hq2
        refine vx_out (ce := ce) (E := gm_xn x) (fun z hz => ?_) hcx.2.2.2.2.2.1 hce hcv hcl (fun t ht hvm => ⟨⟨x, α', n', K', R', M', rfl, hx5, hq2, hxt.trans hx9, va_K.moved hvm hk, by rw [ht]; exact hp, hdd, hrv⟩, hs9.F ht⟩) hs9.2.2 (by omega) (by omega)
        rw [htab] at hz
        obtain ⟨q, hq1, rfl⟩ := List.mem_map.mp hz
        rcases gm_hit_none hhit q hq1 with h9 | h9
        · exact gm_cov0 h9
        · cases h9
      | some h =>
        dsimp only at hq2
        obtain ⟨pre, q, suf, b1, b2, b3, b4, b5, b6⟩ := gm_hit_some hhit
        have hsplit : c.exceptionTable.toList = tableOf pre ++ ⟨q.1, q.2.1, q.2.2.1, q.2.2.2⟩ :: tableOf suf := by
          rw [htab, b1]
          simp [tableOf]
        obtain ⟨-, -, -, hown, -, -, hts, -⟩ := _root_.id hcx
        have hcs : ∀ (x y : Nat), x < 5 → y < 5 → if x = y then va_Nw (.castable (gm_xn x) (gm_xn y)) s else va_Nc (gm_xn x) (gm_xn y) s := hev.2.2.2.2.2.2.2.2.2.2.2.1
        have hlk : ∀ (t y : Nat), gm_ctc (gm_ow mi) t = some y → y < 5 ∧ (Jvm.Cond.classLink (gm_rn (gm_ow mi)) t (gm_xn y)).before args s = true := by
          intro t y hty
          unfold gm_ctc at hty
          cases hz : gm_ctl.lookup (gm_ow mi, t) with
          | none => rw [hz] at hty; cases hty
          | some z =>
            rw [hz] at hty
            have hz2 := List.all_eq_true.mp gm_ctl_ok _ (gm_lookup2 _ _ _ hz)
            simp only [Bool.and_eq_true, decide_eq_true_eq] at hz2
            have e9 : z.1 = y := by simpa using hty
            rw [e9] at hz2
            exact ⟨hz2.1, hts _ (gm_T_in hz2.2 rfl)⟩
        have hxx := hcs x x hx5 hx5
        rw [if_pos rfl] at hxx
        refine vx_catch (ce := ce) (E := gm_xn x) (name := gm_xn x) (own := gm_rn (gm_ow mi)) hown (tableOf pre) ⟨q.1, q.2.1, q.2.2.1, q.2.2.2⟩ (tableOf suf) hsplit (fun z hz => ?_) (gm_cov1 b3) b4 (hlk _ _ b5).2 (va_Nw.use rfl hxx) hce hcv hcl ?_
        · obtain ⟨q3, hq3, rfl⟩ := List.mem_map.mp hz
          rcases b6 q3 hq3 with h9 | ⟨h9, y, h10, h11⟩
          · exact .inl (gm_cov0 h9)
          · obtain ⟨h12, h13⟩ := hlk _ _ h10
            have h14 := hcs x y hx5 h12
            rw [if_neg (fun e => h11 e.symm)] at h14
            exact .inr ⟨h9, gm_xn y, h13, h14⟩
        · show W p l e Rm s m args below meth c H1 locs1 _ _ _ (F0 m q.2.2.1 ls [.ref q9])
          rw [b2]
          exact hq2 p l e Rm s m args below meth c D ti adK adV A α0 n0 mc ms hcx hev hd hd2 hmc hms hA α' H1 locs1 (cells + bc') (slots + bs') ls [.ref q9] (hxt.trans hx9) (by omega) (by omega) ⟨hk, hp, hdd, hs9, hrv⟩ (gm_lr_ext hx9 hL) ⟨_, _, rfl, ⟨q9, rfl, fun h => by omega⟩, rfl⟩
end GH
end
/-! 11i.vch -/
section
/-! A CALL out of a method with handlers. -/
section GVH
variable {X : Int → Int} {LX d bc bs mi pc : Nat} {L : gm_L} {st : List gm_V} {n : Nat} {K : gm_K} {R : gm_R} {M : gm_M} {Q : gm_Q}
theorem gm_c_virtH {ix mj k ci d' bc' bs' : Nat} {as : List gm_V} (h : gm_at mi pc = some (.invokevirtual ix)) (hc : gm_cal (gm_ow mi) ix = some (0, mj)) (hmx : gm_ow mj ≠ gm_mxi) (hk : 1 ≤ k ∧ k ≤ n) (hK : (K k).1 = ci + 4) (hci : ci < 12) (hcn : gm_cn ci = (gm_mn mj).cls) (hna : as.length = gm_na mj) (hcat : ∀ v ∈ as, ¬ gm_sort v = 1) (hlen : as.length + 1 ≤ gm_ml mj) (hst : (st.map gm_cat).sum ≤ 8) (hd' : d' + 1 ≤ d) (hb1 : bc' ≤ bc) (hb2 : bs' ≤ bs)
    (hW : gm_Wp X LX d' bc' bs' mj 0 (gm_ent mj (gm_vr k :: as)) [] n K R M (gm_contH X LX d (bc - bc') (bs - bs') mi pc (pc + 3) L st Q)) : gm_Wp X LX d bc bs mi pc L (as.reverse ++ gm_vr k :: st) n K R M Q := by
  intro p l e Rm s m args below meth c D ti adK adV A α0 n0 mc ms hcx hev hd hd2 hmc hms hA α H locs cells slots ls sv hxt hc1 hc2 hR hL hS
  obtain ⟨w1, w2, rfl, hw1, w, sv2, rfl, ⟨rfl, hkn⟩, hS2⟩ := gm_sr_app hS
  have hdg := gm_dec hcx h rfl
  obtain ⟨hx, hb, hml, hown, -, -, hts, -, hl, -⟩ := id hcx
  obtain ⟨hKn, hP, hD, hSv, hRv⟩ := id hR
  obtain ⟨hj, i1, i2, i3, -, -, i6, -⟩ := gm_cal_spec hc
  obtain ⟨j1, -, j3, j4, j5, -⟩ := gm_mck_spec hj
  have hA1 := gm_sub_A hD hSv hA
  have hvs : gm_sr α adK n (gm_vr k :: as) (Value.ref (α k) :: w1.reverse) := ⟨_, _, rfl, ⟨(gm_rf_pos hk.1 (Nat.lt_of_le_of_lt hk.2 hRv.1)).symm, hkn⟩, by have := gm_sr_rev hw1; rwa [List.reverse_reverse] at this⟩
  have hM := gm_met (adV := adV) (ti := ti) (D := D) hj hmx (i6 (by omega)) l hl hW hvs (by intro v hv; rcases List.mem_cons.mp hv with rfl | hv; exact (by simp [gm_sort]); exact hcat v hv) (by simpa using hlen) hP (hD.self (sz := H.size)) hRv (fun q h => Or.inr h)
  have he := gm_wl_at (ti := ti) (α := α) (K := K) (R := R) (M := M) hk.1 hk.2
  rw [gm_en_obj hK] at he
  obtain ⟨T, N, hcs, -⟩ := gm_cs_get hci
  have hcode : gm_cwd mj = .code (gm_mn mj) (gm_bc mj) (gm_ml mj) (gm_rt mj) := by unfold gm_cwd; rw [if_pos (i6 (by omega))]
  have hwl : w1.length = as.length := by have := (gm_sr_at hw1).1; simpa using this
  have hG : GoodIn gm_T (wsV (gm_rn (gm_ow mi)) ix (gm_mn mj).cls (gm_mn mj) (gm_cwd mj :: gm_T)) := by
    intro w hw
    refine ⟨?_, ?_⟩
    · simp only [wsV, List.cons_append, List.nil_append, List.mem_cons] at hw
      rcases hw with rfl | rfl | rfl | rfl | rfl | hw
      · exact i2 (by omega)
      · exact (i3 rfl).1
      · exact (i3 rfl).2
      · exact i1
      · exact j1
      · exact hw
    · simp only [wsV, List.cons_append, List.nil_append, List.mem_cons] at hw
      rcases hw with rfl | rfl | rfl | rfl | rfl | hw
      · exact Or.inl rfl
      · exact Or.inl rfl
      · exact Or.inl rfl
      · exact Or.inl rfl
      · exact (gm_T_good _ j1).2
      · exact (gm_T_good _ hw).2
  rw [gm_rf_pos hk.1 (Nat.lt_of_le_of_lt hk.2 hRv.1)]
  refine gm_tailH (bc' := bc') (bs' := bs') hcx hev hd hd2 hmc hms hA hxt hb1 hb2 hc1 hc2 hSv hL hS2 hA1 (a := (Value.ref (α k) :: w1.reverse).toArray) ?_
  refine vx_runV (As := w1.reverse) (n := gm_na mj) (index := ix) (C := (gm_mn mj).cls) ⟨hx, hb, hml, hown, hts⟩ hM (cwV (rm := { frames := d', cells := bc', slots := bs', locals := d' * 300 }) (gm_na mj) hts hG (by rw [hcode]) rfl rfl ⟨rfl, j3.1, j3.2, j4⟩ ⟨by show d' + 1 ≤ _; omega, by show 8 + (gm_ml mj + 11) + d' * 300 ≤ _; omega⟩) ⟨gm_blind, ?_, fun U hU hWm => ⟨rfl, hU, gm_Ev_to hev hWm (by rw [hU]; exact hSv.1) (fun a h1 h2 => by rw [hU]; exact hSv.2.1 a h1 h2) hA1, va_K.moved hWm.alike hKn⟩⟩ rfl (by rw [List.length_reverse, hwl, hna]) ?_ (by rw [List.reverse_reverse]) (lv_room (by rw [gm_sum_eq hS2]; exact hst)) hdg ⟨by omega, by omega⟩
  · have := va_recv hKn hP hcs he
    rw [hcn] at this
    exact this
  · exact hL.2.choose_spec.1.1
theorem gm_cont_H {L : gm_L} {st : List gm_V} {o : gm_O} (hh : gm_hh mi = []) {pc' : Nat} (h : gm_contH X LX d bc bs mi pc pc' L st Q o n K R M) : gm_cont X LX d bc bs mi pc' L st Q o n K R M := by
  cases o with
  | inl u => exact h
  | inr x =>
    have h2 : (match gm_hit (gm_ow mi) pc x false (gm_hh mi) with
      | some (some h) => gm_Wp X LX d bc bs mi h L [gm_vo 4000] n K R M Q
      | some none => Q (.inr x) n K R M
      | none => False) := h
    rw [hh] at h2
    exact h2
end GVH
end
