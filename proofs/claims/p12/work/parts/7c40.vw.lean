/-! 7c40.vw -/
section
/-! THE LAW'S CALLS, told of class and reference by one state. -/
theorem gm_lc_ne {L : gm_L} {j i : Nat} (h : ¬ i + 1 = j) : (gm_lc L j)[i]? = L[i]? := by
  cases j with
  | zero => rfl
  | succ j =>
    show (match L[j]? with
      | some (some (.inr (.inl _))) => L.set j none
      | _ => L)[i]? = _
    split
    · rw [List.getElem?_set, if_neg (by omega)]
    · rfl
/-- the law's variables: script, class, reference, out, i -/
noncomputable def mn_L (i : Int) (L : gm_L) : Prop := L.length = 7 ∧ L[0]? = some (some (gm_vo 2000)) ∧ L[1]? = some (some (gm_vr 1)) ∧ L[2]? = some (some (gm_vr 226)) ∧ L[3]? = some (some (gm_vr 245)) ∧ L[4]? = some (some (gm_vi i))
theorem mn_L_s {i y : Int} {L : gm_L} {j : Nat} (h : mn_L i L) (hj : j = 5 ∨ j = 6) : mn_L i (gm_lst L j (gm_vi y)) := by
  obtain ⟨h0, h1, h2, h3, h4, h5⟩ := h
  show mn_L i ((gm_lc L j).set j (some (gm_vi y)))
  have e : ∀ k, k < 4 → ((gm_lc L j).set j (some (gm_vi y)))[k]? = L[k]? := fun k hk => by
    rw [List.getElem?_set, if_neg (by omega), gm_lc_ne (by omega)]
  refine ⟨by rw [List.length_set, gm_lc_len]; exact h0, (e 0 (by decide)).trans h1, (e 1 (by decide)).trans h2, (e 2 (by decide)).trans h3, (e 3 (by decide)).trans h4, ?_⟩
  rw [List.getElem?_set, if_neg (by omega)]
  rcases hj with rfl | rfl
  · show (match L[4]? with
      | some (some (.inr (.inl _))) => L.set 4 none
      | _ => L)[4]? = _
    rw [h5]
    exact h5
  · rw [gm_lc_ne (by decide)]
    exact h5
section MN
variable {X : Int → Int} {LX d bc bs pc n : Nat} {L : gm_L} {st : List gm_V} {K : gm_K} {R : gm_R} {M : gm_M} {Q : gm_Q}
theorem mn_arg {j i : Int} (a0 : gm_at 370 pc = some (.aload_n 0)) (a1 : gm_at 370 (pc + 1) = some (.iload 4)) (a2 : gm_at 370 (pc + 3) = some (.iconst j)) (a3 : gm_at 370 (pc + 4) = some .iadd) (a4 : gm_at 370 (pc + 5) = some .iaload) (hL : mn_L i L) (hi : 0 ≤ i ∧ i + 6 ≤ (LX : Int)) (hj : 1 ≤ j ∧ j ≤ 5) (hX : LX ≤ 3072) (k : gm_Wp X LX d bc bs 370 (pc + 6) L (gm_vi (X (i + j)) :: st) n K R M Q) : gm_Wp X LX d bc bs 370 pc L st n K R M Q := by
  obtain ⟨h0, h1, h2, h3, h4, h5⟩ := hL
  have w : gm_w (i + j) = i + j := gm_w_id (by omega) (by omega)
  refine gm_sz (gm_p_load a0 (sr := 2) (j := 0) rfl h1 rfl) ?_
  refine gm_sz (gm_p_load a1 (sr := 0) (j := 4) rfl h5 rfl) ?_
  refine gm_sz (gm_p_const a2 (v := gm_vi j) rfl) ?_
  refine gm_sz (gm_p_bin a3 (f := fun x y => x + y) rfl) ?_
  refine gm_sz (gm_p_sald a4 (by rw [w]; omega)) ?_
  rw [w]
  exact k
/-- a truth, as javac lays it down -/
noncomputable def bz (x : Int) : Int := if gm_w x = gm_w 0 then 0 else 1
theorem bz_0 {x : Int} : 0 ≤ bz x := by unfold bz; split <;> decide
theorem bz_1 {x : Int} : bz x ≤ 1 := by unfold bz; split <;> decide
theorem mn_bool {x : Int} (a0 : gm_at 370 pc = some (.ifCond .eq 7)) (a1 : gm_at 370 (pc + 3) = some (.iconst 1)) (a2 : gm_at 370 (pc + 4) = some (.goto 4)) (a3 : gm_at 370 (pc + 7) = some (.iconst 0)) (k : gm_Wp X LX d bc bs 370 (pc + 8) L (gm_vi (bz x) :: st) n K R M Q) : gm_Wp X LX d bc bs 370 pc L (gm_vi x :: st) n K R M Q := by
  have t7 : gm_tgt pc 7 = pc + 7 := by unfold gm_tgt; omega
  have t4 : gm_tgt (pc + 4) 4 = pc + 8 := by unfold gm_tgt; omega
  refine gm_b_if a0 (by omega) (fun hp => ?_) (fun hp => ?_)
  · have hp : gm_w x = gm_w 0 := hp
    rw [t7]
    refine gm_sz (gm_p_const a3 (v := gm_vi 0) rfl) ?_
    rw [show bz x = 0 from if_pos hp] at k
    exact k
  · have hp : ¬ gm_w x = gm_w 0 := hp
    refine gm_sz (gm_p_const a1 (v := gm_vi 1) rfl) ?_
    refine gm_sz (gm_p_goto (pc := pc + 4) a2 (by omega)) ?_
    rw [show bz x = 1 from if_neg hp] at k
    rw [t4]
    exact k
end MN
theorem bc_in0 : bc_in [] [] := trivial
theorem bc_in1 {b : Int × Int} {bs : List (Int × Int)} {x : Int} {xs : List Int} (h : b.1 ≤ x ∧ x ≤ b.2) (h2 : bc_in bs xs) : bc_in (b :: bs) (x :: xs) := ⟨h, h2⟩
theorem mn_w {x : Int} (h : gm_ir x) : -2147483648 ≤ x ∧ x ≤ 2147483647 := ⟨h.1, by have := h.2; omega⟩
noncomputable def mn_u (r : Bool) (u : Option gm_V) : Prop := if r = true then ∃ y, u = some (gm_vi y) else u = none
noncomputable def w_r (r : Bool) (S : ck_Sum) : Bool := S.2.2.2.2.2.all fun oc => match oc.1 with
  | .inr none => !r
  | .inr (some _) => r
  | _ => false
/-- class and reference are told the same, of whatever state -/
noncomputable def RELW (la : Nat → Nat) (K : gm_K) (M : gm_M) : Prop := ∃ (N : Int → Int) (lw : Option (List lln)) (A : List (Int → Int)) (im : Option ((Int → Int) × Option (List lln))) (t w : Int) (f : Int → Int), REL la K M N lw A im t w f
section VW
variable {X : Int → Int} {LX : Nat} {O : gm_Or} {g z g1 bc bs ix mj pc : Nat} {la : Nat → Nat} {K : gm_K} {R : gm_R} {M : gm_M} {L : gm_L} {st : List gm_V} {Q : gm_Q} {N : Int → Int} {lw : Option (List lln)} {A : List (Int → Int)} {im : Option ((Int → Int) × Option (List lln))} {t w : Int} {f : Int → Int} {S : ck_Sum} {l l0 l1 : List ck_Sum} {ds : List (Int × Int)} {xs : List Int} {r : Bool} {u : Option gm_V} {P : (Nat → Nat) → gm_K → gm_M → Prop}
theorem hck_int {oc : ck_Oc} (h : bc_ok O z g1 S = true) (hoc : oc ∈ S.2.2.2.2.2) : (match oc.1 with
  | .inr none => true
  | .inr (some (.inl _)) => true
  | _ => false) = true := by
  simp only [bc_ok, Bool.and_eq_true, decide_eq_true_eq] at h
  obtain ⟨-, -, -, -, h5⟩ := h
  have h6 := List.all_eq_true.mp h5 oc hoc
  simp only [Bool.and_eq_true, decide_eq_true_eq] at h6
  exact h6.1
theorem vr_s (h : w_r r S = true) (hok : bc_ok O z g1 S = true) (hv : mq_V S u) : mn_u r u := by
  obtain ⟨oc, hoc, σ, ho⟩ := hv
  have h9 := List.all_eq_true.mp h oc hoc
  unfold mn_u
  rcases hoc1 : oc.1 with x | a
  · rw [hoc1] at h9; cases h9
  · rw [hoc1] at ho
    rcases a with _ | a
    · rw [hoc1] at h9
      have h9 : (!r) = true := h9
      rw [if_neg (by cases r <;> simp_all)]
      cases u with
      | none => rfl
      | some v => exact absurd ho id
    · rw [hoc1] at h9
      have h9 : r = true := h9
      rw [if_pos h9]
      have h10 := hck_int (S := S) hok hoc
      rw [hoc1] at h10
      cases u with
      | none => exact absurd ho id
      | some v =>
        rcases a with a | a
        · obtain ⟨y, rfl, -⟩ := ho
          exact ⟨y, rfl⟩
        · cases h10
/-- behind a call -/
noncomputable def rq_K (X : Int → Int) (LX bc bs pc : Nat) (L : gm_L) (st : List gm_V) (Q : gm_Q) (g : Nat) (r : Bool) (P : (Nat → Nat) → gm_K → gm_M → Prop) : Prop := ∀ (u : Option gm_V) (la2 : Nat → Nat) (K2 : gm_K) (R2 : gm_R) (M2 : gm_M), mn_u r u → bg g la2 K2 R2 M2 → P la2 K2 M2 → gm_Wp X LX 280 (bc - 6) (bs - 600) 370 pc L (u.toList ++ st) (245 + 4 * g) K2 R2 M2 Q
theorem rq_go (hw : w_r r S = true) (hok : bc_ok O z g1 S = true) (k : rq_K X LX bc bs pc L st Q g r P) : mq_K X LX bc bs pc L st Q g P (fun u _ => mq_V S u) := fun u la2 K2 R2 M2 hv hb2 hp => k u la2 K2 R2 M2 (vr_s hw hok hv) hb2 hp
theorem lw_0 (hR : REL la K M N lw A im t w f) (h3 : la 3 = 0) : lw = none := by
  cases lw with
  | none => rfl
  | some ls => exact absurd h3 (hR.2.1.1.2 ls rfl).1
theorem lw_1 (hR : REL la K M N lw A im t w f) (h3 : ¬ la 3 = 0) : ∃ ls, lw = some ls := by
  cases lw with
  | none => exact absurd (hR.2.1.1.1 rfl) h3
  | some ls => exact ⟨ls, rfl⟩
theorem rq_as {k1 : Nat} (ha : bc_args S k1 false = true) (hin : bc_in (bc_box S) xs) (hi : ∀ x ∈ xs, gm_ir x) : ∀ σ, ck_gas σ S.2.2.1 (gm_vr k1 :: xs.map gm_vi) := fun σ => by
  have := bc_gas2 (σ := σ) ha hin hi
  rwa [mw_as] at this
/-- a call that only asks: the class, by one of the law's own methods -/
theorem rq_x (hb : bg g la K R M) (hg : g < 10000) (hR : REL la K M N lw A im t w f) (h : gm_at 370 pc = some (.invokestatic ix)) (hc : gm_cal (gm_ow 370) ix = some (5, mj)) (hmx : gm_ow mj ≠ gm_mxi) (hhj : ¬ gm_hh mj = []) (hna : xs.length + 2 = gm_na mj) (hlen : xs.length + 2 ≤ gm_ml mj) (hst : (st.map gm_cat).sum ≤ 8) (s0 : ∀ S ∈ l0, ck_Ok q0_O X LX mj S) (s1 : ∀ S ∈ l1, ck_Ok qL_O X LX mj S) (c0 : l0.all (fun S => w_k q0_O 0 0 1 true S && w_r r S) = true) (c1 : l1.all (fun S => w_k qL_O 246 1 1 true S && w_r r S) = true) (v0 : bc_cov 60 ds (l0.map bc_box) = true) (v1 : bc_cov 60 ds (l1.map bc_box) = true) (hx : bc_in ds xs) (hi : ∀ x ∈ xs, gm_ir x) (hbc : 6 ≤ bc) (hbs : 600 ≤ bs) (k : rq_K X LX bc bs (pc + 3) L st Q g r (fun la2 K2 M2 => REL la2 K2 M2 N lw A im t w f)) : gm_Wp X LX 280 bc bs 370 pc L (gm_vr 245 :: ((xs.map gm_vi).reverse ++ gm_vr 1 :: st)) (245 + 4 * g) K R M Q := by
  by_cases h3 : la 3 = 0
  · have hz : bs_ok la 0 0 := Or.inl ⟨rfl, rfl, h3⟩
    have el := lw_0 hR h3
    subst el
    obtain ⟨S, hS, hin⟩ := mw_in v0 hx
    have hck := List.all_eq_true.mp c0 S hS
    simp only [Bool.and_eq_true] at hck
    obtain ⟨hck, hw⟩ := hck
    have hck2 := hck
    simp only [w_k, Bool.and_eq_true, decide_eq_true_eq] at hck2
    exact bc_statX (O := q0_O) (z := 0) (g1 := 0) hb hz hg q0_nmu (fun _ _ _ _ h => q0_p h) (bs_q0 hb hR) h hc hmx hhj hna hlen hst (s0 S hS) hck2.1 (by omega) (by omega) (by omega) (fun σ => bc_gas2 hck2.2.1 hin hi) (wk0_s hb h3 hck hR hbc hbs (rq_go hw hck2.1 k))
  · have hz : bs_ok la 246 1 := Or.inr (Or.inr ⟨rfl, rfl, h3⟩)
    obtain ⟨ls, rfl⟩ := lw_1 hR h3
    obtain ⟨S, hS, hin⟩ := mw_in v1 hx
    have hck := List.all_eq_true.mp c1 S hS
    simp only [Bool.and_eq_true] at hck
    obtain ⟨hck, hw⟩ := hck
    have hck2 := hck
    simp only [w_k, Bool.and_eq_true, decide_eq_true_eq] at hck2
    exact bc_statX (O := qL_O) (z := 246) (g1 := 1) hb hz hg qL_nmu (fun _ _ _ _ h => pl_o (qL_p h)) (bs_qL hb h3 hR) h hc hmx hhj hna hlen hst (s1 S hS) hck2.1 (by omega) (by omega) (by omega) (fun σ => bc_gas2 hck2.2.1 hin hi) (wkL_s hb h3 hck hR hbc hbs (rq_go hw hck2.1 k))
/-- the class itself -/
theorem rq_d (hb : bg g la K R M) (hg : g < 10000) (hR : REL la K M N lw A im t w f) (h : gm_at 370 pc = some (.invokevirtual ix)) (hc : gm_cal (gm_ow 370) ix = some (0, mj)) (hmx : gm_ow mj ≠ gm_mxi) (hcn : gm_cn 0 = (gm_mn mj).cls) (hna : xs.length = gm_na mj) (hlen : xs.length + 1 ≤ gm_ml mj) (hst : (st.map gm_cat).sum ≤ 8) (s0 : ∀ S ∈ l0, ck_Ok q0_O X LX mj S) (s1 : ∀ S ∈ l1, ck_Ok qL_O X LX mj S) (c0 : l0.all (fun S => w_k q0_O 0 0 1 false S && w_r r S) = true) (c1 : l1.all (fun S => w_k qL_O 246 1 1 false S && w_r r S) = true) (v0 : bc_cov 60 ds (l0.map bc_box) = true) (v1 : bc_cov 60 ds (l1.map bc_box) = true) (hx : bc_in ds xs) (hi : ∀ x ∈ xs, gm_ir x) (hbc : 6 ≤ bc) (hbs : 600 ≤ bs) (k : rq_K X LX bc bs (pc + 3) L st Q g r (fun la2 K2 M2 => REL la2 K2 M2 N lw A im t w f)) : gm_Wp X LX 280 bc bs 370 pc L ((xs.map gm_vi).reverse ++ gm_vr 1 :: st) (245 + 4 * g) K R M Q := by
  by_cases h3 : la 3 = 0
  · have hz : bs_ok la 0 0 := Or.inl ⟨rfl, rfl, h3⟩
    have el := lw_0 hR h3
    subst el
    obtain ⟨S, hS, hin⟩ := mw_in v0 hx
    have hck := List.all_eq_true.mp c0 S hS
    simp only [Bool.and_eq_true] at hck
    obtain ⟨hck, hw⟩ := hck
    have hck2 := hck
    simp only [w_k, Bool.and_eq_true, decide_eq_true_eq] at hck2
    exact bc_virtX (O := q0_O) (z := 0) (g1 := 0) (k1 := 1) (ci := 0) hb hz hg q0_nmu (fun _ _ _ _ h => q0_p h) (bs_q0 hb hR) ⟨by decide, by decide⟩ (mw_k1 hb).1 h hc hmx (by decide) hcn hna hlen hst (s0 S hS) hck2.1 (by omega) (by omega) (by omega) (rq_as hck2.2.1 hin hi) (wk0_s hb h3 hck hR hbc hbs (rq_go hw hck2.1 k))
  · have hz : bs_ok la 246 1 := Or.inr (Or.inr ⟨rfl, rfl, h3⟩)
    obtain ⟨ls, rfl⟩ := lw_1 hR h3
    obtain ⟨S, hS, hin⟩ := mw_in v1 hx
    have hck := List.all_eq_true.mp c1 S hS
    simp only [Bool.and_eq_true] at hck
    obtain ⟨hck, hw⟩ := hck
    have hck2 := hck
    simp only [w_k, Bool.and_eq_true, decide_eq_true_eq] at hck2
    exact bc_virtX (O := qL_O) (z := 246) (g1 := 1) (k1 := 1) (ci := 0) hb hz hg qL_nmu (fun _ _ _ _ h => pl_o (qL_p h)) (bs_qL hb h3 hR) ⟨by decide, by decide⟩ (mw_k1 hb).1 h hc hmx (by decide) hcn hna hlen hst (s1 S hS) hck2.1 (by omega) (by omega) (by omega) (rq_as hck2.2.1 hin hi) (wkL_s hb h3 hck hR hbc hbs (rq_go hw hck2.1 k))
/-- the reference -/
theorem rq_m (hb : bg g la K R M) (hg : g < 10000) (hR : REL la K M N lw A im t w f) (h : gm_at 370 pc = some (.invokevirtual ix)) (hc : gm_cal (gm_ow 370) ix = some (0, mj)) (hmx : gm_ow mj ≠ gm_mxi) (hcn : gm_cn 11 = (gm_mn mj).cls) (hna : xs.length = gm_na mj) (hlen : xs.length + 1 ≤ gm_ml mj) (hst : (st.map gm_cat).sum ≤ 8) (s0 : ∀ S ∈ l, ck_Ok qR_O X LX mj S) (c0 : l.all (fun S => w_kR S && w_r r S) = true) (v0 : bc_cov 60 ds (l.map bc_box) = true) (hx : bc_in ds xs) (hi : ∀ x ∈ xs, gm_ir x) (hbc : 6 ≤ bc) (hbs : 600 ≤ bs) (k : rq_K X LX bc bs (pc + 3) L st Q g r (fun la2 K2 M2 => REL la2 K2 M2 N lw A im t w f)) : gm_Wp X LX 280 bc bs 370 pc L ((xs.map gm_vi).reverse ++ gm_vr 226 :: st) (245 + 4 * g) K R M Q := by
  obtain ⟨S, hS, hin⟩ := mw_in v0 hx
  have hck := List.all_eq_true.mp c0 S hS
  simp only [Bool.and_eq_true] at hck
  obtain ⟨hck, hw⟩ := hck
  have hck2 := hck
  simp only [w_kR, Bool.and_eq_true, decide_eq_true_eq] at hck2
  exact bc_virtX (O := qR_O) (z := 100003) (g1 := 0) (k1 := 226) (ci := 11) hb (Or.inr (Or.inl ⟨rfl, rfl⟩)) hg qR_nmu (fun _ _ _ _ h => qR_p h) (bs_qR hb hR) ⟨by decide, by decide⟩ (mw_k1 hb).2 h hc hmx (by decide) hcn hna hlen hst (s0 S hS) hck2.1 (by omega) (by omega) (by omega) (rq_as hck2.2.1 hin hi) (wkR_s hb hck hR hbc hbs (rq_go hw hck2.1 k))
/-- FIT: the class, the reference -/
theorem ft_x (hb : bg g la K R M) (hg : g < 10000) (hR : REL la K M N lw A im t w f) (h : gm_at 370 pc = some (.invokestatic ix)) (hc : gm_cal (gm_ow 370) ix = some (5, mj)) (hmx : gm_ow mj ≠ gm_mxi) (hhj : ¬ gm_hh mj = []) (hna : xs.length + 2 = gm_na mj) (hlen : xs.length + 2 ≤ gm_ml mj) (hst : (st.map gm_cat).sum ≤ 8) (s0 : ∀ S ∈ l0, ck_Ok p2_O X LX mj S) (s1 : ∀ S ∈ l1, ck_Ok p2_OL X LX mj S) (c0 : l0.all (fun S => w_ft p2_O 0 0 1 true 1 1 S && w_r r S) = true) (c1 : l1.all (fun S => w_ft p2_OL 246 1 1 true 1 1 S && w_r r S) = true) (v0 : bc_cov 60 ds (l0.map bc_box) = true) (v1 : bc_cov 60 ds (l1.map bc_box) = true) (hx : bc_in ds xs) (hi : ∀ x ∈ xs, gm_ir x) (hbc : 6 ≤ bc) (hbs : 600 ≤ bs) (k : rq_K X LX bc bs (pc + 3) L st Q g r (fun la2 K2 M2 => MID la2 K2 M2 N lw A im 0 w f N lw A im t w f)) : gm_Wp X LX 280 bc bs 370 pc L (gm_vr 245 :: ((xs.map gm_vi).reverse ++ gm_vr 1 :: st)) (245 + 4 * g) K R M Q := by
  by_cases h3 : la 3 = 0
  · have hz : bs_ok la 0 0 := Or.inl ⟨rfl, rfl, h3⟩
    obtain ⟨S, hS, hin⟩ := mw_in v0 hx
    have hck := List.all_eq_true.mp c0 S hS
    simp only [Bool.and_eq_true] at hck
    obtain ⟨hck, hw⟩ := hck
    have hck2 := hck
    simp only [w_ft, Bool.and_eq_true, decide_eq_true_eq] at hck2
    exact bc_statX (O := p2_O) (z := 0) (g1 := 0) hb hz hg p2_nmu (fun _ _ _ _ h => h) (bs_F0 hb) h hc hmx hhj hna hlen hst (s0 S hS) hck2.1 (by omega) (by omega) (by omega) (fun σ => bc_gas2 hck2.2.1 hin hi) (fx_K hb hz hck hR hbc hbs (rq_go hw hck2.1 k))
  · have hz : bs_ok la 246 1 := Or.inr (Or.inr ⟨rfl, rfl, h3⟩)
    obtain ⟨S, hS, hin⟩ := mw_in v1 hx
    have hck := List.all_eq_true.mp c1 S hS
    simp only [Bool.and_eq_true] at hck
    obtain ⟨hck, hw⟩ := hck
    have hck2 := hck
    simp only [w_ft, Bool.and_eq_true, decide_eq_true_eq] at hck2
    exact bc_statX (O := p2_OL) (z := 246) (g1 := 1) hb hz hg pl_nmu (fun _ _ _ _ h => pl_o h) (bs_F1 hb h3) h hc hmx hhj hna hlen hst (s1 S hS) hck2.1 (by omega) (by omega) (by omega) (fun σ => bc_gas2 hck2.2.1 hin hi) (fx_K hb hz hck hR hbc hbs (rq_go hw hck2.1 k))
theorem ft_m (hb : bg g la K R M) (hg : g < 10000) (hR : MID la K M N lw A im 0 w f N lw A im t w f) (h : gm_at 370 pc = some (.invokevirtual ix)) (hc : gm_cal (gm_ow 370) ix = some (0, mj)) (hmx : gm_ow mj ≠ gm_mxi) (hcn : gm_cn 11 = (gm_mn mj).cls) (hna : xs.length = gm_na mj) (hlen : xs.length + 1 ≤ gm_ml mj) (hst : (st.map gm_cat).sum ≤ 8) (s0 : ∀ S ∈ l, ck_Ok p2_O X LX mj S) (c0 : l.all (fun S => w_ft p2_O 100003 0 226 false 226 8 S && w_r r S) = true) (v0 : bc_cov 60 ds (l.map bc_box) = true) (hx : bc_in ds xs) (hi : ∀ x ∈ xs, gm_ir x) (hbc : 6 ≤ bc) (hbs : 600 ≤ bs) (k : rq_K X LX bc bs (pc + 3) L st Q g r (fun la2 K2 M2 => REL la2 K2 M2 N lw A im 0 w f)) : gm_Wp X LX 280 bc bs 370 pc L ((xs.map gm_vi).reverse ++ gm_vr 226 :: st) (245 + 4 * g) K R M Q := by
  obtain ⟨S, hS, hin⟩ := mw_in v0 hx
  have hck := List.all_eq_true.mp c0 S hS
  simp only [Bool.and_eq_true] at hck
  obtain ⟨hck, hw⟩ := hck
  have hck2 := hck
  simp only [w_ft, Bool.and_eq_true, decide_eq_true_eq] at hck2
  exact bc_virtX (O := p2_O) (z := 100003) (g1 := 0) (k1 := 226) (ci := 11) hb (Or.inr (Or.inl ⟨rfl, rfl⟩)) hg p2_nmu (fun _ _ _ _ h => h) (bs_F0 hb) ⟨by decide, by decide⟩ (mw_k1 hb).2 h hc hmx (by decide) hcn hna hlen hst (s0 S hS) hck2.1 (by omega) (by omega) (by omega) (rq_as hck2.2.1 hin hi) (fm_K hb hck hR hbc hbs (rq_go hw hck2.1 k))
/-- m.thrown() -/
theorem mn_th {j0 : Nat} (hb : bg g la K R M) (h : gm_at 370 pc = some (.invokevirtual ix)) (hc : gm_cal (gm_ow 370) ix = some (0, mj)) (hmx : gm_ow mj ≠ gm_mxi) (hh : gm_hh 370 = []) (hcn : gm_cn 11 = (gm_mn mj).cls) (hna : 0 = gm_na mj) (hlen : 1 ≤ gm_ml mj) (hst : (st.map gm_cat).sum ≤ 8) (a0 : gm_at mj 0 = some (.aload_n 0)) (a1 : gm_at mj 1 = some (.getfield j0)) (a2 : gm_at mj 4 = some .ireturn) (hf : gm_fld (gm_ow mj) j0 11 = some 0) (hs : ¬ gm_isr 11 0 = true) (hr : gm_rt mj = some .int) (k : gm_Wp X LX 280 bc bs 370 (pc + 3) L (gm_vi (M 226 0) :: st) (245 + 4 * g) K R M Q) : gm_Wp X LX 280 bc bs 370 pc L (gm_vr 226 :: st) (245 + 4 * g) K R M Q := by
  have k226 : (1 ≤ 226 ∧ 226 ≤ 245 + 4 * g) ∧ (K 226).1 = 11 + 4 := e0k (e0F hb.2.1) (k := 226) (c := 11) (by decide +kernel)
  refine gm_c_virt (k := 226) (ci := 11) (mj := mj) (ix := ix) (pc := pc) (as := []) (st := st) (d' := 1) (bc' := 0) (bs' := 0) h hc hmx hh k226.1 k226.2 (by decide) hcn hna fw_c0 hlen hst (by decide) (Nat.zero_le _) (Nat.zero_le _) ?_
  refine gm_sz (gm_p_load (pc := 0) (i := .aload_n 0) (sr := 2) (j := 0) a0 rfl rfl rfl) ?_
  refine gm_sz (fw_gi (pc := 1) (ix := j0) (ci := 11) (j := 0) (x := M 226 0) a1 k226 hf hs rfl) ?_
  refine gm_r_int (pc := 4) a2 (Or.inl hr) ?_
  show gm_Wp X LX 280 (bc - 0) (bs - 0) 370 (pc + 3) L (gm_vi (M 226 0) :: st) (245 + 4 * g) K R M Q
  exact k
theorem mn_l5 {i y : Int} (hL : mn_L i L) : (gm_lst L 5 (gm_vi y))[5]? = some (some (gm_vi y)) := by
  show ((gm_lc L 5).set 5 (some (gm_vi y)))[5]? = _
  rw [List.getElem?_set, if_pos rfl, if_pos (by rw [gm_lc_len]; have := hL.1; omega)]
theorem mn_l6 {i y : Int} (hL : mn_L i L) : (gm_lst L 6 (gm_vi y))[6]? = some (some (gm_vi y)) := by
  show ((gm_lc L 6).set 6 (some (gm_vi y)))[6]? = _
  rw [List.getElem?_set, if_pos rfl, if_pos (by rw [gm_lc_len]; have := hL.1; omega)]
theorem mn_l65 {x y : Int} (h : L[5]? = some (some (gm_vi x))) : (gm_lst L 6 (gm_vi y))[5]? = some (some (gm_vi x)) := by
  show ((gm_lc L 6).set 6 (some (gm_vi y)))[5]? = _
  rw [List.getElem?_set, if_neg (by decide)]
  show (match L[5]? with
    | some (some (.inr (.inl _))) => L.set 5 none
    | _ => L)[5]? = _
  rw [h]
  exact h
/-- thrown the same, and, where nothing is, the same number -/
theorem mn_cmpA {i c y : Int} {p ixt jt : Nat} (hb : bg g la K R M) (hL : mn_L i L) (l5 : L[5]? = some (some (gm_vi c))) (l6 : L[6]? = some (some (gm_vi y))) (a0 : gm_at 370 p = some (.aload_n 2)) (a1 : gm_at 370 (p + 1) = some (.invokevirtual ixt)) (hc : gm_cal (gm_ow 370) ixt = some (0, mj)) (hmx : gm_ow mj ≠ gm_mxi) (hh : gm_hh 370 = []) (hcn : gm_cn 11 = (gm_mn mj).cls) (hna : 0 = gm_na mj) (hlen : 1 ≤ gm_ml mj) (b0 : gm_at mj 0 = some (.aload_n 0)) (b1 : gm_at mj 1 = some (.getfield jt)) (b2 : gm_at mj 4 = some .ireturn) (hf : gm_fld (gm_ow mj) jt 11 = some 0) (hs : ¬ gm_isr 11 0 = true) (hr : gm_rt mj = some .int)
    (a4 : gm_at 370 (p + 4) = some (.iload 5)) (a6 : gm_at 370 (p + 6) = some (.if_icmp .eq 5)) (a11 : gm_at 370 (p + 11) = some (.iload 5)) (a13 : gm_at 370 (p + 13) = some (.ifCond .ne 15)) (a16 : gm_at 370 (p + 16) = some (.aload_n 3)) (a17 : gm_at 370 (p + 17) = some (.iconst 0)) (a18 : gm_at 370 (p + 18) = some .laload) (a19 : gm_at 370 (p + 19) = some (.iload 6)) (a21 : gm_at 370 (p + 21) = some .i2l) (a22 : gm_at 370 (p + 22) = some .lcmp) (a23 : gm_at 370 (p + 23) = some (.ifCond .eq 5))
    (hth : gm_w (M 226 0) = gm_w c) (hv : gm_w c = gm_w 0 → gm_w6 (M 245 0) = gm_w6 (gm_w y)) (k : gm_Wp X LX 280 bc bs 370 (p + 28) L [] (245 + 4 * g) K R M Q) : gm_Wp X LX 280 bc bs 370 p L [] (245 + 4 * g) K R M Q := by
  have t1 : gm_tgt (p + 6) 5 = p + 11 := by unfold gm_tgt; omega
  have t2 : gm_tgt (p + 13) 15 = p + 28 := by unfold gm_tgt; omega
  have t3 : gm_tgt (p + 23) 5 = p + 28 := by unfold gm_tgt; omega
  have k245 : K 245 = (2, 1) := (hb.2.1.1 245 (2, 1) (by decide +kernel)).2.2
  refine gm_sz (gm_p_load a0 (sr := 2) (j := 2) rfl hL.2.2.2.1 rfl) ?_
  refine mn_th hb a1 hc hmx hh hcn hna hlen (by decide) b0 b1 b2 hf hs hr ?_
  refine gm_sz (gm_p_load (pc := p + 4) a4 (sr := 0) (j := 5) rfl l5 rfl) ?_
  refine gm_b_ic (cc := .eq) (pc := p + 6) a6 (by omega) (fun _ => ?_) (fun hp => absurd hth hp)
  rw [t1]
  refine gm_sz (gm_p_load (pc := p + 11) a11 (sr := 0) (j := 5) rfl l5 rfl) ?_
  refine gm_b_if (cc := .ne) (pc := p + 13) a13 (by omega) (fun hp => ?_) (fun hp => ?_)
  · rw [t2]
    exact k
  · have h0 : gm_w c = gm_w 0 := Classical.not_not.mp hp
    refine gm_sz (gm_p_load (pc := p + 16) a16 (sr := 2) (j := 3) rfl hL.2.2.2.2.1 rfl) ?_
    refine gm_sz (gm_p_const (pc := p + 17) a17 (v := gm_vi 0) rfl) ?_
    refine gm_sz (gm_p_lald (pc := p + 18) (k := 245) a18 ⟨by decide, by omega⟩ (by rw [k245]) (by rw [k245]; decide)) ?_
    refine gm_sz (gm_p_load (pc := p + 19) a19 (sr := 0) (j := 6) rfl l6 rfl) ?_
    refine gm_sz (gm_p_i2l (pc := p + 21) a21) ?_
    refine gm_sz (gm_p_lcmp (pc := p + 22) a22) ?_
    have eq0 : gm_lcm (M 245 (gm_w 0)) (gm_w y) = 0 := by
      have a : gm_w6 (M 245 0) = gm_w6 (gm_w y) := hv h0
      show gm_lcm (M 245 0) (gm_w y) = 0
      unfold gm_lcm
      rw [if_neg (by omega), if_pos a]
    rw [eq0]
    refine gm_b_if (cc := .eq) (pc := p + 23) a23 (by omega) (fun _ => ?_) (fun hp3 => absurd rfl hp3)
    rw [t3]
    exact k
end VW
end
/-! 7c42.ct -/
section
/-! THE CLASS'S CONSTRUCTOR, told by two rows at once: what is reached by the same references is the same. -/
noncomputable def dt_S (n n1 n2 : Nat) (S : Nat → Nat → Prop) (K1 : gm_K) (R1 : gm_R) (M1 : gm_M) (K2 : gm_K) (R2 : gm_R) (M2 : gm_M) : Prop :=
  (∀ k, 1 ≤ k → k ≤ n → S k k) ∧
  (∀ k1 k2 c j r1 r2 : Nat, S k1 k2 → K1 k1 = K2 k2 → (K1 k1).1 = c + 4 → j < gm_nf c → gm_isr c j = true → R1 k1 (j : Int) = r1 → R2 k2 (j : Int) = r2 → 1 ≤ r1 → r1 ≤ n1 → r1 < 100000 → 1 ≤ r2 → r2 ≤ n2 → r2 < 100000 → S r1 r2) ∧
  (∀ k1 k2 : Nat, S k1 k2 → K1 k1 = K2 k2 → (K1 k1).1 = 0 → ∀ j : Nat, j < (K1 k1).2 → Int32.ofInt (M1 k1 (j : Int)) = Int32.ofInt (M2 k2 (j : Int)))
theorem dt_mem2 {D : va_G} {ti : Nat → ClassId} {H : Heap} {α α1 α2 : Nat → Nat} {n n1 n2 : Nat} {K1 K2 : gm_K} {R1 R2 : gm_R} {M1 M2 : gm_M} (x1 : gm_xt α n α1 n1) (x2 : gm_xt α n α2 n2) (p1 : va_P D gm_cs (gm_wl ti α1 n1 K1 R1 M1) H) (p2 : va_P D gm_cs (gm_wl ti α2 n2 K2 R2 M2) H) : dt_S n n1 n2 (fun k1 k2 => α1 k1 = α2 k2 ∧ (1 ≤ k1 ∧ k1 ≤ n1) ∧ 1 ≤ k2 ∧ k2 ≤ n2) K1 R1 M1 K2 R2 M2 := by
  refine ⟨fun k h1 h2 => ⟨(x1.2.1 k h1 h2).trans (x2.2.1 k h1 h2).symm, ⟨h1, Nat.le_trans h2 x1.1⟩, h1, Nat.le_trans h2 x2.1⟩, fun k1 k2 c j r1 r2 hs hK h hj hr e1 e2 b1 b2 b3 b4 b5 b6 => ⟨?_, ⟨b1, b2⟩, b4, b5⟩, fun k1 k2 hs hK h j hj => ?_⟩
  · obtain ⟨ha, ⟨s1, s2⟩, s3, s4⟩ := hs
    have a1 := p1 _ _ (gm_wl_at (ti := ti) (α := α1) (K := K1) (R := R1) (M := M1) s1 s2)
    have a2 := p2 _ _ (gm_wl_at (ti := ti) (α := α2) (K := K2) (R := R2) (M := M2) s3 s4)
    rw [← ha] at a2
    have g1 : gm_en ti α1 K1 R1 M1 k1 = .inr (c, gm_fs α1 R1 M1 k1 c) := gm_en_obj h
    have g2 : gm_en ti α2 K2 R2 M2 k2 = .inr (c, gm_fs α2 R2 M2 k2 c) := gm_en_obj (by rw [← hK]; exact h)
    rw [g1] at a1
    rw [g2] at a2
    obtain ⟨q1, hq1, c1, v1, -, -, f1⟩ := a1
    obtain ⟨q2, hq2, c2, v2, -, -, f2⟩ := a2
    have hq1 : gm_cs[c]? = some q1 := hq1
    have hq2 : gm_cs[c]? = some q2 := hq2
    rw [hq1] at hq2
    cases hq2
    rw [v1] at v2
    cases v2
    have hc : c < 12 := (List.getElem?_eq_some_iff.mp hq1).1
    obtain ⟨T, N, w1, w2⟩ := gm_cs_get hc
    rw [hq1] at w1
    cases w1
    have g1 : c1.slots[D.2 c j]? = some (vp_V (gm_fs α1 R1 M1 k1 c) j) := f1 j (by show j < N; omega)
    have g2 : c1.slots[D.2 c j]? = some (vp_V (gm_fs α2 R2 M2 k2 c) j) := f2 j (by show j < N; omega)
    rw [g1] at g2
    have g3 := Option.some.inj g2
    unfold vp_V at g3
    rw [List.getD_eq_getElem?_getD, List.getD_eq_getElem?_getD, gm_fs_at hj, gm_fs_at hj, if_pos hr, if_pos hr, e1, e2] at g3
    cases r1 with
    | zero => omega
    | succ a =>
      cases r2 with
      | zero => omega
      | succ b =>
        have g4 : (if a + 1 < 100000 then Value.ref (α1 (a + 1)) else match α1 (a + 1) with | 0 => Value.null | x + 1 => Value.ref x) = (if b + 1 < 100000 then Value.ref (α2 (b + 1)) else match α2 (b + 1) with | 0 => Value.null | x + 1 => Value.ref x) := g3
        rw [if_pos b3, if_pos b6] at g4
        exact Value.ref.inj g4
  · obtain ⟨ha, ⟨s1, s2⟩, s3, s4⟩ := hs
    have a1 := p1 _ _ (gm_wl_at (ti := ti) (α := α1) (K := K1) (R := R1) (M := M1) s1 s2)
    have a2 := p2 _ _ (gm_wl_at (ti := ti) (α := α2) (K := K2) (R := R2) (M := M2) s3 s4)
    rw [← ha] at a2
    have e1 : gm_en ti α1 K1 R1 M1 k1 = .inl (ti 0, (K1 k1).2, .inl fun j => Int32.ofInt (M1 k1 j)) := by unfold gm_en; rw [h]
    have e2 : gm_en ti α2 K2 R2 M2 k2 = .inl (ti 0, (K1 k1).2, .inl fun j => Int32.ofInt (M2 k2 j)) := by unfold gm_en; rw [← hK, h]
    rw [e1] at a1
    rw [e2] at a2
    have a3 : H[α1 k1]? = some (arrV (ti 0) (K1 k1).2 (fun j => .int (Int32.ofInt (M1 k1 (j : Int))))) := a1
    have a4 : H[α1 k1]? = some (arrV (ti 0) (K1 k1).2 (fun j => .int (Int32.ofInt (M2 k2 (j : Int))))) := a2
    rw [a3] at a4
    have a5 := dt_arr (f := fun j : Nat => .int (Int32.ofInt (M1 k1 (j : Int)))) (g := fun j : Nat => .int (Int32.ofInt (M2 k2 (j : Int)))) (Option.some.inj a4) j hj
    exact Value.int.inj a5
theorem gm_Wp_and2 {X : Int → Int} {LX d bc bs mi pc n : Nat} {L : gm_L} {st : List gm_V} {K : gm_K} {R : gm_R} {M : gm_M} {Q1 Q2 : gm_Q} (h1 : gm_Wp X LX d bc bs mi pc L st n K R M Q1) (h2 : gm_Wp X LX d bc bs mi pc L st n K R M Q2) : gm_Wp X LX d bc bs mi pc L st n K R M (fun o n1 K1 R1 M1 => Q1 o n1 K1 R1 M1 ∧ ∃ (o2 : gm_O) (n2 : Nat) (K2 : gm_K) (R2 : gm_R) (M2 : gm_M) (S : Nat → Nat → Prop), Q2 o2 n2 K2 R2 M2 ∧ dt_o o o2 ∧ dt_S n n1 n2 S K1 R1 M1 K2 R2 M2) := by
  intro p l e Rm s m args below meth c D ti adK adV A α0 n0 mc ms hcx hev hd hd2 hmc hms hA α H locs cells slots ls sv hxt hc1 hc2 hR hL hS
  have k1 := h1 p l e Rm s m args below meth c D ti adK adV A α n mc ms hcx hev hd hd2 hmc hms hA α H locs cells slots ls sv gm_xt.rf hc1 hc2 hR hL hS
  have k2 := h2 p l e Rm s m args below meth c D ti adK adV A α n mc ms hcx hev hd hd2 hmc hms hA α H locs cells slots ls sv gm_xt.rf hc1 hc2 hR hL hS
  intro T hT Xs
  obtain ⟨t1, s1, o1, r1, e1, q1⟩ := k1 T hT Xs
  obtain ⟨t2, s2, o2, r2, e2, q2⟩ := k2 T hT Xs
  obtain ⟨rfl, rfl⟩ := dt_end s1 e1 s2 e2
  refine ⟨t1, s1, o1, r1, e1, ?_⟩
  rcases q1 with ⟨⟨⟨v1, u1, α1, n1, K1, R1, M1, ho1, hv1, hq1, hx1, hk1, hp1, hd1, hr1⟩, hF1⟩, hL1⟩ | ⟨a1, ho1, E1, ce1, L1, ⟨⟨x1, α1, n1, K1, R1, M1, hE1, hx15, hq1, hx1, hk1, hp1, hd1, hr1⟩, hF1⟩, hrest⟩
  · rcases q2 with ⟨⟨⟨v2, u2, α2, n2, K2, R2, M2, ho2, hv2, hq2, hx2, hk2, hp2, hd2', hr2⟩, -⟩, -⟩ | ⟨a2, ho2, -⟩
    · rw [ho1] at ho2
      cases ho2
      exact Or.inl ⟨⟨⟨v1, u1, α1, n1, K1, R1, M1, ho1, hv1, ⟨hq1, .inl u2, n2, K2, R2, M2, _, hq2, dt_cv hv1 hv2, dt_mem2 hx1 hx2 hp1 hp2⟩, gm_xt.trans hxt hx1, hk1, hp1, hd1, hr1⟩, hF1⟩, hL1⟩
    · rw [ho1] at ho2
      cases ho2
  · rcases q2 with ⟨⟨⟨v2, u2, α2, n2, K2, R2, M2, ho2, hv2, hq2, hx2, hk2, hp2, hd2', hr2⟩, -⟩, -⟩ | ⟨a2, ho2, E2, ce2, L2, ⟨⟨x2, α2, n2, K2, R2, M2, hE2, hx25, hq2, hx2, hk2, hp2, hd2', hr2⟩, -⟩, -⟩
    · rw [ho1] at ho2
      cases ho2
    · exact Or.inr ⟨a1, ho1, E1, ce1, L1, ⟨⟨x1, α1, n1, K1, R1, M1, hE1, hx15, ⟨hq1, .inr x2, n2, K2, R2, M2, _, hq2, trivial, dt_mem2 hx1 hx2 hp1 hp2⟩, gm_xt.trans hxt hx1, hk1, hp1, hd1, hr1⟩, hF1⟩, hrest⟩
noncomputable def st_U : ck_F := match pc_s130u.2.2.2.2.2 with
  | oc :: _ => oc.2.2
  | [] => ([], [], [])
/-- THE ROW of the class's constructor, every heat told -/
noncomputable def pc_s130 : ck_Sum := (pc_s130u.1, pc_s130u.2.1, pc_s130u.2.2.1, pc_s130u.2.2.2.1, pc_s130u.2.2.2.2.1, [(.inr none, 225, (st_U.1, st_U.2.1, st_H ++ st_U.2.2))])
set_option maxRecDepth 100000 in
theorem st_u1 : pc_s130u.2.2.2.2.2 = [(.inr none, 225, st_U)] ∧ (pc_s130u.2.1 = 1 ∧ pc_s130u.2.2.2.1 = ([(1, 4, 0)], [], [])) := ⟨rfl, rfl, rfl⟩
set_option maxRecDepth 100000 in
theorem st_u2 : (st_U.1.any (fun q => decide (q = (200, 8, 0))) && st_U.1.any (fun q => decide (q = (201, 0, 300)))) = true ∧ (st_U.2.1.any (fun q => decide (q = (1, 8, 200))) && (st_U.2.1.any (fun q => decide (q = (200, 1, 201))) && st_U.2.2.any (fun q => decide (q.1 = 201 ∧ q.2.1 = 0 ∧ q.2.2.1 = 299)))) = true := by decide +kernel
set_option maxRecDepth 100000 in
theorem st_u3 : st_H.all (fun q => decide (q.1 = 201 ∧ 0 ≤ q.2.1 ∧ q.2.1 = q.2.2.1 ∧ q.2.1 < 300)) = true := by decide +kernel
theorem st_any {T : Type} {l : List T} {p : T → Prop} [DecidablePred p] (h : l.any (fun q => decide (p q)) = true) : ∃ q ∈ l, p q := by
  obtain ⟨q, h1, h2⟩ := List.any_eq_true.mp h
  exact ⟨q, h1, of_decide_eq_true h2⟩
theorem pc_s130_s {X : Int → Int} {LX : Nat} : ck_Ok ck_O0 X LX 0 pc_s130 := by
  intro d σ vs n K R M hd hn ha hm hF hf
  have h1 := pc_s130u_s (X := X) (LX := LX) d σ vs n K R M hd hn ha hm hF hf
  have h2 := pc_w130_s (X := X) (LX := LX) d σ vs n K R M hd hn ha hm hF hf
  refine gm_Wp_mono ?_ (gm_Wp_and2 h1 h2)
  rintro o n1 K1 R1 M1 ⟨⟨g1, g2, oc, hoc, g3, g4, g5⟩, o2, n2, K2, R2, M2, S, ⟨-, w2, oc2, hoc2, -, w4, w5⟩, -, hS⟩
  rw [st_u1.1] at hoc
  have hoc : oc = (.inr none, 225, st_U) := List.mem_singleton.mp hoc
  subst hoc
  have hoc2 : oc2 = (.inr none, 225, ([(200, 8, 0), (201, 0, 300)], [(1, 8, 200), (200, 1, 201)], st_H)) := List.mem_singleton.mp hoc2
  subst hoc2
  have g4 : n1 = 225 := g4
  have w4 : n2 = 225 := w4
  have hn : n = 1 := hn.trans st_u1.2.1
  have u2 := st_u2
  simp only [Bool.and_eq_true] at u2
  obtain ⟨⟨a1, a2⟩, a3, a4, a5⟩ := u2
  obtain ⟨q1, m1, rfl⟩ := st_any a1
  obtain ⟨q2, m2, rfl⟩ := st_any a2
  obtain ⟨q3, m3, rfl⟩ := st_any a3
  obtain ⟨q4, m4, rfl⟩ := st_any a4
  obtain ⟨q5, m5, b1, b2, b3⟩ := st_any a5
  have k1 : K1 200 = (8, 0) := (g5.1 _ m1).2
  have k2 : K1 201 = (0, 300) := (g5.1 _ m2).2
  have k3 : R1 1 8 = 200 := (g5.2.1 _ m3).2
  have k4 : R1 200 1 = 201 := (g5.2.1 _ m4).2
  have k5 : K2 200 = (8, 0) := (w5.1 (200, 8, 0) (by simp)).2
  have k6 : K2 201 = (0, 300) := (w5.1 (201, 0, 300) (by simp)).2
  have k7 : R2 1 8 = 200 := (w5.2.1 (1, 8, 200) (by simp)).2
  have k8 : R2 200 1 = 201 := (w5.2.1 (200, 1, 201) (by simp)).2
  have k0 : K 1 = (4, 0) := by
    have hf1 := hf.1
    rw [show pc_s130.2.2.2.1 = ([(1, 4, 0)], [], []) from st_u1.2.2] at hf1
    exact (hf1 (1, 4, 0) (by simp)).2
  have c1 : K1 1 = (4, 0) := (g2.2.1 1 (by omega)).trans k0
  have c2 : K2 1 = (4, 0) := (w2.2.1 1 (by omega)).trans k0
  have s1 : S 1 1 := hS.1 1 (Nat.le_refl _) (by omega)
  have s2 : S 200 200 := hS.2.1 1 1 0 8 200 200 s1 (c1.trans c2.symm) (by rw [c1]) (by decide) (by decide) k3 k7 (by omega) (by omega) (by omega) (by omega) (by omega) (by omega)
  have s3 : S 201 201 := hS.2.1 200 200 4 1 201 201 s2 (k1.trans k5.symm) (by rw [k1]) (by decide) (by decide) k4 k8 (by omega) (by omega) (by omega) (by omega) (by omega) (by omega)
  have hH : ∀ j : Int, 0 ≤ j → j < 300 → gm_ir (M2 201 j) → M1 201 j = M2 201 j := fun j j0 j1 hj => by
    have h3 := hS.2.2 201 201 s3 (k2.trans k6.symm) (by rw [k2]) j.toNat (by rw [k2]; show j.toNat < 300; omega)
    rw [show ((j.toNat : Nat) : Int) = j by omega] at h3
    have h4 := (g5.2.2 q5 m5).2 j (by omega) (by omega)
    rw [b1] at h4
    exact dt_i h3 h4.1 hj
  refine ⟨g1, g2, (.inr none, 225, (st_U.1, st_U.2.1, st_H ++ st_U.2.2)), List.mem_singleton.mpr rfl, g3, g4, g5.1, g5.2.1, fun q hq => ?_⟩
  rcases List.mem_append.mp hq with hq | hq
  · obtain ⟨e1, e2, e3, e4⟩ := of_decide_eq_true (List.all_eq_true.mp st_u3 q hq)
    have h3 := w5.2.2 q hq
    refine ⟨by omega, fun j j1 j2 => ?_⟩
    have h4 := h3.2 j j1 j2
    rw [e1] at h4 ⊢
    rw [hH j (by omega) (by omega) h4.1]
    exact h4
  · exact g5.2.2 q hq
end
/-! 7c43.go -/
section
/-! FROM THE ENTRY to the loop's head, told of class and reference. -/
noncomputable def st_A : ck_F := match pc_s130.2.2.2.2.2 with
  | oc :: _ => oc.2.2
  | [] => ([], [], [])
noncomputable def st_B : ck_F := match pc_s132.2.2.2.2.2 with
  | oc :: _ => oc.2.2
  | [] => ([], [], [])
noncomputable def st_F : ck_F := (st_A.1 ++ (st_B.1 ++ [(1, 4, 0), (226, 15, 0), (245, 2, 1)]), st_A.2.1 ++ st_B.2.1, st_A.2.2 ++ (st_B.2.2 ++ [(226, 0, 12, ck_one 0), (226, 14, 25, ck_one 0), (226, 27, 60, ck_one 0), (245, 0, 0, ck_one 0)]))
/-- the reference's row in parts: what is ahead of the heats, the heats, what is behind -/
noncomputable def st_Bp : List (Nat × Int × Int × ck_I) := [(226, 26, 26, ck_one (-1)), (227, 13, 13, ck_one 1), (227, 12, 12, ck_one 3), (227, 11, 11, ck_one 2), (227, 10, 10, ck_one 10), (227, 1, 1, ck_one 40), (227, 0, 0, ck_one 3), (226, 13, 13, ck_one (-1)), (232, 0, 4, ck_one 0), (244, 0, 5, ck_one 0), (243, 0, 5, ck_one 0), (227, 2, 9, ck_one 0), (238, 0, 23, ck_one 0)]
noncomputable def st_H2 : List (Nat × Int × Int × ck_I) := [(234, 299, 299, ck_one 9), (234, 298, 298, ck_one 4), (234, 297, 297, ck_one 5), (234, 296, 296, ck_one 1), (234, 295, 295, ck_one 2), (234, 294, 294, ck_one 7), (234, 293, 293, ck_one 3), (234, 292, 292, ck_one 9), (234, 291, 291, ck_one 2), (234, 290, 290, ck_one 4), (234, 289, 289, ck_one 2), (234, 288, 288, ck_one 9), (234, 287, 287, ck_one 5), (234, 286, 286, ck_one 3), (234, 285, 285, ck_one 2), (234, 284, 284, ck_one 8), (234, 283, 283, ck_one 1), (234, 282, 282, ck_one 9), (234, 281, 281, ck_one 5), (234, 280, 280, ck_one 9), (234, 279, 279, ck_one 0), (234, 278, 278, ck_one 5), (234, 277, 277, ck_one 2), (234, 276, 276, ck_one 8), (234, 275, 275, ck_one 7), (234, 274, 274, ck_one 2), (234, 273, 273, ck_one 9), (234, 272, 272, ck_one 4), (234, 271, 271, ck_one 6), (234, 270, 270, ck_one 9), (234, 269, 269, ck_one 1), (234, 268, 268, ck_one 1), (234, 267, 267, ck_one 3), (234, 266, 266, ck_one 8), (234, 265, 265, ck_one 3), (234, 264, 264, ck_one 6), (234, 263, 263, ck_one 0), (234, 262, 262, ck_one 9), (234, 261, 261, ck_one 7), (234, 260, 260, ck_one 1), (234, 259, 259, ck_one 0), (234, 258, 258, ck_one 1), (234, 257, 257, ck_one 6), (234, 256, 256, ck_one 0), (234, 255, 255, ck_one 2), (234, 254, 254, ck_one 1), (234, 253, 253, ck_one 9), (234, 252, 252, ck_one 1), (234, 251, 251, ck_one 8), (234, 250, 250, ck_one 5), (234, 249, 249, ck_one 0), (234, 248, 248, ck_one 0), (234, 247, 247, ck_one 2), (234, 246, 246, ck_one 9), (234, 245, 245, ck_one 5), (234, 244, 244, ck_one 2), (234, 243, 243, ck_one 0), (234, 242, 242, ck_one 4), (234, 241, 241, ck_one 5), (234, 240, 240, ck_one 5), (234, 239, 239, ck_one 9), (234, 238, 238, ck_one 1), (234, 237, 237, ck_one 4), (234, 236, 236, ck_one 9), (234, 235, 235, ck_one 4), (234, 234, 234, ck_one 8), (234, 233, 233, ck_one 4), (234, 232, 232, ck_one 1), (234, 231, 231, ck_one 6), (234, 230, 230, ck_one 2), (234, 229, 229, ck_one 3), (234, 228, 228, ck_one 1), (234, 227, 227, ck_one 3), (234, 226, 226, ck_one 8), (234, 225, 225, ck_one 1), (234, 224, 224, ck_one 2), (234, 223, 223, ck_one 6), (234, 222, 222, ck_one 6), (234, 221, 221, ck_one 5), (234, 220, 220, ck_one 8), (234, 219, 219, ck_one 6), (234, 218, 218, ck_one 7), (234, 217, 217, ck_one 5), (234, 216, 216, ck_one 4), (234, 215, 215, ck_one 4), (234, 214, 214, ck_one 2), (234, 213, 213, ck_one 2), (234, 212, 212, ck_one 1), (234, 211, 211, ck_one 4), (234, 210, 210, ck_one 2), (234, 209, 209, ck_one 7), (234, 208, 208, ck_one 5), (234, 207, 207, ck_one 8), (234, 206, 206, ck_one 7), (234, 205, 205, ck_one 0), (234, 204, 204, ck_one 9), (234, 203, 203, ck_one 9), (234, 202, 202, ck_one 0), (234, 201, 201, ck_one 0), (234, 200, 200, ck_one 3), (234, 199, 199, ck_one 6), (234, 198, 198, ck_one 5), (234, 197, 197, ck_one 6), (234, 196, 196, ck_one 1), (234, 195, 195, ck_one 1), (234, 194, 194, ck_one 3), (234, 193, 193, ck_one 9), (234, 192, 192, ck_one 4), (234, 191, 191, ck_one 5), (234, 190, 190, ck_one 3), (234, 189, 189, ck_one 8), (234, 188, 188, ck_one 5), (234, 187, 187, ck_one 6), (234, 186, 186, ck_one 1), (234, 185, 185, ck_one 9), (234, 184, 184, ck_one 3), (234, 183, 183, ck_one 5), (234, 182, 182, ck_one 8), (234, 181, 181, ck_one 4), (234, 180, 180, ck_one 2), (234, 179, 179, ck_one 3), (234, 178, 178, ck_one 1), (234, 177, 177, ck_one 8), (234, 176, 176, ck_one 2), (234, 175, 175, ck_one 7), (234, 174, 174, ck_one 1), (234, 173, 173, ck_one 7), (234, 172, 172, ck_one 3), (234, 171, 171, ck_one 6), (234, 170, 170, ck_one 8), (234, 169, 169, ck_one 8), (234, 168, 168, ck_one 6), (234, 167, 167, ck_one 6), (234, 166, 166, ck_one 6), (234, 165, 165, ck_one 1), (234, 164, 164, ck_one 6), (234, 163, 163, ck_one 8), (234, 162, 162, ck_one 3), (234, 161, 161, ck_one 7), (234, 160, 160, ck_one 9), (234, 159, 159, ck_one 7), (234, 158, 158, ck_one 3), (234, 157, 157, ck_one 1), (234, 156, 156, ck_one 3), (234, 155, 155, ck_one 6), (234, 154, 154, ck_one 5), (234, 153, 153, ck_one 9), (234, 152, 152, ck_one 3), (234, 151, 151, ck_one 7), (234, 150, 150, ck_one 9), (234, 149, 149, ck_one 7), (234, 148, 148, ck_one 3), (234, 147, 147, ck_one 7), (234, 146, 146, ck_one 6), (234, 145, 145, ck_one 1), (234, 144, 144, ck_one 4), (234, 143, 143, ck_one 5), (234, 142, 142, ck_one 5), (234, 141, 141, ck_one 5), (234, 140, 140, ck_one 5), (234, 139, 139, ck_one 4), (234, 138, 138, ck_one 9), (234, 137, 137, ck_one 0), (234, 136, 136, ck_one 0), (234, 135, 135, ck_one 5), (234, 134, 134, ck_one 2), (234, 133, 133, ck_one 0), (234, 132, 132, ck_one 0), (234, 131, 131, ck_one 2), (234, 130, 130, ck_one 5), (234, 129, 129, ck_one 5), (234, 128, 128, ck_one 6), (234, 127, 127, ck_one 9), (234, 126, 126, ck_one 1), (234, 125, 125, ck_one 0), (234, 124, 124, ck_one 3), (234, 123, 123, ck_one 7), (234, 122, 122, ck_one 6), (234, 121, 121, ck_one 2), (234, 120, 120, ck_one 6), (234, 119, 119, ck_one 9), (234, 118, 118, ck_one 0), (234, 117, 117, ck_one 0), (234, 116, 116, ck_one 8), (234, 115, 115, ck_one 0), (234, 114, 114, ck_one 3), (234, 113, 113, ck_one 4), (234, 112, 112, ck_one 3), (234, 111, 111, ck_one 8), (234, 110, 110, ck_one 1), (234, 109, 109, ck_one 4), (234, 108, 108, ck_one 6), (234, 107, 107, ck_one 3), (234, 106, 106, ck_one 6), (234, 105, 105, ck_one 5), (234, 104, 104, ck_one 2), (234, 103, 103, ck_one 7), (234, 102, 102, ck_one 4), (234, 101, 101, ck_one 1), (234, 100, 100, ck_one 2), (234, 99, 99, ck_one 1), (234, 98, 98, ck_one 8), (234, 97, 97, ck_one 9), (234, 96, 96, ck_one 4), (234, 95, 95, ck_one 3), (234, 94, 94, ck_one 5), (234, 93, 93, ck_one 4), (234, 92, 92, ck_one 9), (234, 91, 91, ck_one 5), (234, 90, 90, ck_one 0), (234, 89, 89, ck_one 1), (234, 88, 88, ck_one 6), (234, 87, 87, ck_one 1), (234, 86, 86, ck_one 1), (234, 85, 85, ck_one 9), (234, 84, 84, ck_one 0), (234, 83, 83, ck_one 6), (234, 82, 82, ck_one 3), (234, 81, 81, ck_one 2), (234, 80, 80, ck_one 3), (234, 79, 79, ck_one 4), (234, 78, 78, ck_one 1), (234, 77, 77, ck_one 5), (234, 76, 76, ck_one 6), (234, 75, 75, ck_one 2), (234, 74, 74, ck_one 4), (234, 73, 73, ck_one 6), (234, 72, 72, ck_one 8), (234, 71, 71, ck_one 0), (234, 70, 70, ck_one 6), (234, 69, 69, ck_one 6), (234, 68, 68, ck_one 9), (234, 67, 67, ck_one 7), (234, 66, 66, ck_one 8), (234, 65, 65, ck_one 9), (234, 64, 64, ck_one 0), (234, 63, 63, ck_one 4), (234, 62, 62, ck_one 1), (234, 61, 61, ck_one 3), (234, 60, 60, ck_one 9), (234, 59, 59, ck_one 5), (234, 58, 58, ck_one 7), (234, 57, 57, ck_one 7), (234, 56, 56, ck_one 2), (234, 55, 55, ck_one 8), (234, 54, 54, ck_one 2), (234, 53, 53, ck_one 3), (234, 52, 52, ck_one 4), (234, 51, 51, ck_one 0), (234, 50, 50, ck_one 3), (234, 49, 49, ck_one 4), (234, 48, 48, ck_one 2), (234, 47, 47, ck_one 3), (234, 46, 46, ck_one 5), (234, 45, 45, ck_one 6), (234, 44, 44, ck_one 7), (234, 43, 43, ck_one 3), (234, 42, 42, ck_one 5), (234, 41, 41, ck_one 8), (234, 40, 40, ck_one 8), (234, 39, 39, ck_one 6), (234, 38, 38, ck_one 1), (234, 37, 37, ck_one 3), (234, 36, 36, ck_one 4), (234, 35, 35, ck_one 7), (234, 34, 34, ck_one 1), (234, 33, 33, ck_one 2), (234, 32, 32, ck_one 4), (234, 31, 31, ck_one 5), (234, 30, 30, ck_one 4), (234, 29, 29, ck_one 6), (234, 28, 28, ck_one 2), (234, 27, 27, ck_one 5), (234, 26, 26, ck_one 1), (234, 25, 25, ck_one 4), (234, 24, 24, ck_one 7), (234, 23, 23, ck_one 1), (234, 22, 22, ck_one 5), (234, 21, 21, ck_one 8), (234, 20, 20, ck_one 6), (234, 19, 19, ck_one 6), (234, 18, 18, ck_one 7), (234, 17, 17, ck_one 3), (234, 16, 16, ck_one 9), (234, 15, 15, ck_one 3), (234, 14, 14, ck_one 5), (234, 13, 13, ck_one 0), (234, 12, 12, ck_one 4), (234, 11, 11, ck_one 7), (234, 10, 10, ck_one 9), (234, 9, 9, ck_one 6), (234, 8, 8, ck_one 2), (234, 7, 7, ck_one 9), (234, 6, 6, ck_one 0), (234, 5, 5, ck_one 7), (234, 4, 4, ck_one 1), (234, 3, 3, ck_one 5), (234, 2, 2, ck_one 3), (234, 1, 1, ck_one 8), (234, 0, 0, ck_one 8)]
noncomputable def st_Bs : List (Nat × Int × Int × ck_I) := [(239, 0, 299, ck_one 0), (237, 0, 299, ck_one 0), (236, 0, 299, ck_one 0), (233, 0, 399, ck_one 0), (231, 0, 399, ck_one 0), (229, 0, 1243, ck_one 0), (228, 0, 1243, ck_one 0), (227, 14, 2092, ck_one 0), (242, 0, 2407, ck_one 0), (241, 0, 2407, ck_one 0), (240, 0, 2407, ck_one 0), (230, 0, 4739, ck_one 0), (235, 0, 29699, ck_one 0)]
/-- the facts, the heats left out -/
noncomputable def st_F0 : ck_F := (st_A.1 ++ (st_B.1 ++ [(1, 4, 0), (226, 15, 0), (245, 2, 1)]), st_A.2.1 ++ st_B.2.1, st_U.2.2 ++ ((st_Bp ++ ((234, 0, 299, (0, 9, [])) :: st_Bs)) ++ [(226, 0, 12, ck_one 0), (226, 14, 25, ck_one 0), (226, 27, 60, ck_one 0), (245, 0, 0, ck_one 0)]))
set_option maxRecDepth 100000 in
theorem st_b1 : st_B.2.2 = st_Bp ++ (st_H2 ++ st_Bs) := rfl
theorem st_a1 : st_A.2.2 = st_H ++ st_U.2.2 := rfl
set_option maxRecDepth 100000 in
theorem st_d3 : (List.range 300).all (fun y => st_cov (st_k st_H 201) (hts 1 (y : Int)) (hts 1 (y : Int)) 50 (y : Int) (y : Int)) = true := by decide +kernel
set_option maxRecDepth 100000 in
theorem st_d4 : (List.range 300).all (fun y => st_cov (st_k st_H2 234) (hts 1 (y : Int)) (hts 1 (y : Int)) 50 (y : Int) (y : Int)) = true := by decide +kernel
theorem st_hC {σ : Nat → Int} {K : gm_K} {R : gm_R} {M : gm_M} (hf : ck_gf σ st_F 245 K R M) (y : Int) (y0 : 0 ≤ y) (y1 : y < 300) : M 201 y = hts 1 y := by
  obtain ⟨j, rfl⟩ : ∃ j : Nat, y = (j : Int) := ⟨y.toNat, by omega⟩
  have h := st_cov_s (k := 201) (fun q hq => hf.2.2 q (List.mem_append.mpr (Or.inl (by rw [st_a1]; exact List.mem_append.mpr (Or.inl hq))))) 50 (j : Int) (j : Int) (List.all_eq_true.mp st_d3 j (List.mem_range.mpr (by omega))) (j : Int) (Int.le_refl _) (Int.le_refl _)
  omega
theorem st_hR {σ : Nat → Int} {K : gm_K} {R : gm_R} {M : gm_M} (hf : ck_gf σ st_F 245 K R M) (y : Int) (y0 : 0 ≤ y) (y1 : y < 300) : M 234 y = hts 1 y := by
  obtain ⟨j, rfl⟩ : ∃ j : Nat, y = (j : Int) := ⟨y.toNat, by omega⟩
  have h := st_cov_s (k := 234) (fun q hq => hf.2.2 q (List.mem_append.mpr (Or.inr (List.mem_append.mpr (Or.inl (by rw [st_b1]; exact List.mem_append.mpr (Or.inr (List.mem_append.mpr (Or.inl hq)))))))) ) 50 (j : Int) (j : Int) (List.all_eq_true.mp st_d4 j (List.mem_range.mpr (by omega))) (j : Int) (Int.le_refl _) (Int.le_refl _)
  omega
theorem st_f0 {σ : Nat → Int} {K : gm_K} {R : gm_R} {M : gm_M} (hf : ck_gf σ st_F 245 K R M) : ck_gf σ st_F0 245 K R M := by
  refine ⟨hf.1, hf.2.1, fun q hq => ?_⟩
  rcases List.mem_append.mp hq with hq | hq
  · exact hf.2.2 q (List.mem_append.mpr (Or.inl (by rw [st_a1]; exact List.mem_append.mpr (Or.inr hq))))
  · rcases List.mem_append.mp hq with hq | hq
    · rcases List.mem_append.mp hq with hq | hq
      · exact hf.2.2 q (List.mem_append.mpr (Or.inr (List.mem_append.mpr (Or.inl (by rw [st_b1]; exact List.mem_append.mpr (Or.inl hq))))))
      · rcases List.mem_cons.mp hq with rfl | hq
        · refine ⟨by decide, fun j j0 j1 => ?_⟩
          have j0 : 0 ≤ j := j0
          have j1 : j ≤ 299 := j1
          have e := st_hR hf j j0 (by omega)
          have b := hts_b (s := 1) (y := j)
          show gm_ir (M 234 j) ∧ (0 ≤ M 234 j ∧ M 234 j ≤ 9 ∧ _)
          rw [e]
          exact ⟨⟨by omega, by omega⟩, b.1, b.2, fun _ h => nomatch h⟩
        · exact hf.2.2 q (List.mem_append.mpr (Or.inr (List.mem_append.mpr (Or.inl (by rw [st_b1]; exact List.mem_append.mpr (Or.inr (List.mem_append.mpr (Or.inr hq))))))))
    · exact hf.2.2 q (List.mem_append.mpr (Or.inr (List.mem_append.mpr (Or.inr hq))))
set_option maxRecDepth 100000 in
theorem st_c1 : st_T st_F0 = true := by decide +kernel
set_option maxRecDepth 100000 in
theorem st_c2 : ((st_cov (st_k st_F0.2.2 227) 0 0 50 4 4 = true ∧ st_cov (st_k st_F0.2.2 227) 0 0 50 14 2092 = true) ∧ (st_cov (st_k st_F0.2.2 228) 0 0 50 0 1243 = true ∧ st_cov (st_k st_F0.2.2 229) 0 0 50 0 1243 = true)) ∧ st_cov (st_k st_F0.2.2 230) 0 0 50 0 4739 = true ∧ (st_cov (st_k st_F0.2.2 1) 0 0 50 1 1 = true ∧ st_cov (st_k st_F0.2.2 226) 0 0 50 8 8 = true) := by decide +kernel
set_option maxRecDepth 100000 in
theorem st_c3 : bg_ss.all (fun s => st_F0.2.1.any fun q => decide (q = (s, 8, 0))) = true := by decide +kernel
set_option maxRecDepth 100000 in
theorem st_c4 : (List.range 246).all (fun k => match ck_tab p2_T k with
  | none => k == 0
  | some e => if e.1.1 = 3 then (List.range e.1.2).all (fun j => (fl_lki (j : Int) e.2.1).isSome) else if 4 ≤ e.1.1 then (List.range (gm_nf (e.1.1 - 4))).all (fun j => !gm_isr (e.1.1 - 4) j || ((fl_lki (j : Int) e.2.1).isSome || decide (k ∈ bg_ss ∧ j = 8))) else true) = true := by decide +kernel
set_option maxRecDepth 100000 in
theorem st_o1 : pc_s130.2.2.2.2.2 = [(.inr none, 225, st_A)] ∧ pc_s132.2.2.2.2.2 = [(.inr none, 244, st_B)] := ⟨rfl, rfl⟩
set_option maxRecDepth 100000 in
theorem st_w1 : (pc_s132.2.2.2.2.1.1.all (fun w => decide (w.1 = 226 ∧ ((w.2.1 = 13 ∧ w.2.2 = 13) ∨ (w.2.1 = 26 ∧ w.2.2 = 26)))) && pc_s132.2.2.2.2.1.2.all (fun w => decide (w.1 = 226))) = true ∧ (st_A.1.all (fun q => decide (q.1 ≤ 225)) && (st_A.2.1.all (fun q => decide (q.1 ≤ 225)) && st_A.2.2.all (fun q => decide (q.1 ≤ 225)))) = true := by decide +kernel
section GO
variable {X : Int → Int} {LX : Nat}
theorem st_nR {K : gm_K} {R : gm_R} {M : gm_M} (hF : gm_Fx p2_O 245 K R M) (h0 : ∀ s ∈ bg_ss, R s 8 = 0) : nR_ok 245 K R (bg_R 0 fun _ => 0) := by
  intro k h1 h2
  have hk := List.all_eq_true.mp st_c4 k (List.mem_range.mpr (by omega))
  cases he : ck_tab p2_T k with
  | none => rw [he] at hk; have : k = 0 := eq_of_beq hk; omega
  | some e =>
    rw [he] at hk
    have hK : K k = e.1 := (hF.1 k e.1 (show (match ck_tab p2_T k with | some e => some e.1 | none => none) = some e.1 by rw [he])).2.2
    have hr : ∀ (j : Int) (r : Nat), fl_lki j e.2.1 = some r → R k j = bg_R 0 (fun _ => 0) k j := fun j r hj => by
      have ho : p2_O.2.1 k j = some r := by
        show (match ck_tab p2_T k with | some e => fl_lki j e.2.1 | none => none) = some r
        rw [he]; exact hj
      rw [(hF.2.1 k j r ho).2]
      unfold bg_R
      rw [ho]
    refine ⟨fun c j hc hj hi => ?_, fun h3 j hj => ?_⟩
    · rw [hK] at hc
      have hk : (if e.1.1 = 3 then (List.range e.1.2).all (fun j => (fl_lki (j : Int) e.2.1).isSome) else if 4 ≤ e.1.1 then (List.range (gm_nf (e.1.1 - 4))).all (fun j => !gm_isr (e.1.1 - 4) j || ((fl_lki (j : Int) e.2.1).isSome || decide (k ∈ bg_ss ∧ j = 8))) else true) = true := hk
      rw [if_neg (by omega), if_pos (by omega), show e.1.1 - 4 = c by omega] at hk
      have h5 := List.all_eq_true.mp hk j (List.mem_range.mpr hj)
      rw [hi] at h5
      simp only [Bool.not_true, Bool.false_or, Bool.or_eq_true, decide_eq_true_eq] at h5
      rcases h5 with h5 | ⟨h5, rfl⟩
      · obtain ⟨r, hr2⟩ := Option.isSome_iff_exists.mp h5
        exact hr _ r hr2
      · rw [show R k ((8 : Nat) : Int) = 0 from h0 k h5]
        unfold bg_R
        cases ho : p2_O.2.1 k ((8 : Nat) : Int) with
        | some r => exact absurd ⟨h5, rfl⟩ (bg_rfo ho).2.2
        | none =>
          show _ = if k ∈ bg_ss ∧ ((8 : Nat) : Int) = 8 then bg_lr (fun _ => 0) k else _
          rw [if_pos ⟨h5, rfl⟩]
          rfl
    · rw [hK] at h3 hj
      have hk : (if e.1.1 = 3 then (List.range e.1.2).all (fun j => (fl_lki (j : Int) e.2.1).isSome) else if 4 ≤ e.1.1 then (List.range (gm_nf (e.1.1 - 4))).all (fun j => !gm_isr (e.1.1 - 4) j || ((fl_lki (j : Int) e.2.1).isSome || decide (k ∈ bg_ss ∧ j = 8))) else true) = true := hk
      rw [if_pos h3] at hk
      obtain ⟨r, hr2⟩ := Option.isSome_iff_exists.mp (List.all_eq_true.mp hk j (List.mem_range.mpr hj))
      exact hr _ r hr2
theorem st_mv {σ : Nat → Int} {F : ck_F} {n n' : Nat} {K K' : gm_K} {R R' : gm_R} {M M' : gm_M} (h : ck_gf σ F n K R M) (hl : (F.1.all (fun q => decide (q.1 ≤ 225)) && (F.2.1.all (fun q => decide (q.1 ≤ 225)) && F.2.2.all (fun q => decide (q.1 ≤ 225)))) = true) (hn : n ≤ n') (hK : ∀ k, k ≤ 225 → K' k = K k) (hR : ∀ k j, k ≤ 225 → R' k j = R k j) (hM : ∀ k j, k ≤ 225 → M' k j = M k j) : ck_gf σ F n' K' R' M' := by
  simp only [Bool.and_eq_true] at hl
  obtain ⟨l1, l2, l3⟩ := hl
  refine ⟨fun q hq => ?_, fun q hq => ?_, fun q hq => ?_⟩
  · have := of_decide_eq_true (List.all_eq_true.mp l1 q hq)
    obtain ⟨a, b⟩ := h.1 q hq
    exact ⟨⟨a.1, by omega⟩, (hK _ this).trans b⟩
  · have := of_decide_eq_true (List.all_eq_true.mp l2 q hq)
    obtain ⟨a, b⟩ := h.2.1 q hq
    exact ⟨by omega, (hR _ _ this).trans b⟩
  · have := of_decide_eq_true (List.all_eq_true.mp l3 q hq)
    obtain ⟨a, b⟩ := h.2.2 q hq
    refine ⟨by omega, fun j j1 j2 => ?_⟩
    rw [hM _ _ this]
    exact b j j1 j2
/-- what a new object is told of -/
noncomputable def iN (i : Int) : Int := if i = 0 then 3 else if i = 1 then 40 else if i = 10 then 10 else if i = 11 then 2 else if i = 12 then 3 else if i = 13 then 1 else 0
noncomputable def st_v (k : Nat) (v j : Int) : Bool := st_cov (st_k st_F0.2.2 k) v v 50 j j
noncomputable def st_g (F : List (Nat × Int × Int × ck_I)) (c : Nat) : Bool := (List.range 395).all (fun i => i == 8 || (!((pl (i : Int)).1 == c) || st_cov F (iN (i : Int)) (iN (i : Int)) 50 (pl (i : Int)).2 (pl (i : Int)).2))
set_option maxRecDepth 100000 in
theorem st_d1 : (List.range 13).all (fun c => st_g (st_k st_F0.2.2 (3 + c)) c) = true := by decide +kernel
set_option maxRecDepth 100000 in
theorem st_d2 : (List.range 395).all (fun i => i == 8 || st_v 227 (iN (i : Int)) (i : Int)) = true := by decide +kernel
set_option maxRecDepth 100000 in
theorem st_d5 : (((st_v 42 0 1 && st_v 42 0 2) && (st_v 1 0 15 && st_v 1 0 6)) && ((st_v 1 0 1 && st_v 1 (-1) 2) && (st_v 226 0 6 && st_v 227 0 8)) && ((st_v 226 (-1) 26 && st_v 226 0 5) && (st_v 226 0 8 && st_v 226 (-1) 13))) = true := by decide +kernel
set_option maxRecDepth 100000 in
theorem st_d6 : (((st_cov (st_k st_F0.2.2 202) 0 0 50 0 593 && st_cov (st_k st_F0.2.2 203) 0 0 50 0 299) && (st_cov (st_k st_F0.2.2 2) 0 0 50 0 399 && st_cov (st_k st_F0.2.2 231) 0 0 50 0 399)) && st_cov (st_k st_F0.2.2 235) 0 0 50 0 29699) = true := by decide +kernel
theorem iN_ir : irN iN := fun i => by
  have h : 0 ≤ iN i ∧ iN i ≤ 40 := by
    unfold iN
    split
    · decide
    · split
      · decide
      · split
        · decide
        · split
          · decide
          · split
            · decide
            · split <;> decide
  exact ⟨by omega, by omega⟩
theorem iN_R : NR iN := by
  have e2 : iN 2 = 0 := by decide
  have e3 : iN 3 = 0 := by decide
  have e4 : iN 4 = 0 := by decide
  have e5 : iN 5 = 0 := by decide
  refine ⟨by decide, by decide, fun f f0 f1 => ?_, fun p p0 p1 => ?_, fun l l0 l1 => ?_⟩
  · rw [e5] at f1; omega
  · rw [e3] at p1; omega
  · rw [e4] at l1; omega
theorem iN_S : NS iN := fun s s0 s1 => by
  have e2 : iN 2 = 0 := by decide
  rw [e2] at s1
  omega
theorem iN_L : LOGI iN := by
  unfold LOGI
  rw [show (iN 4).toNat = 0 by decide]
  exact (show iN 14 = 0 by decide)
theorem iN_J : GJ iN := ⟨⟨iN_R, iN_S, iN_L⟩, iN_ir⟩
theorem iN_sp {l r : Int} : spd iN l r = 0 := by
  unfold spd nsp
  rw [show (iN 2).toNat = 0 by decide]
  split <;> rfl
theorem st_vs {σ : Nat → Int} {K : gm_K} {R : gm_R} {M : gm_M} (hf : ck_gf σ st_F 245 K R M) {k : Nat} {v j : Int} (h : st_v k v j = true) : M k j = v := by
  have := st_cov_s (st_f0 hf).2.2 50 j j h j (Int.le_refl _) (Int.le_refl _)
  omega
set_option maxRecDepth 100000 in
theorem st_REL {σ : Nat → Int} {K : gm_K} {R : gm_R} {M : gm_M} (hf : ck_gf σ st_F 245 K R M) (hF : gm_Fx p2_O 245 K R M) : REL (fun _ => 0) K M iN none [] none 0 (-1) (fun _ => 0) := by
  have v : ∀ {k : Nat} {v j : Int}, st_v k v j = true → M k j = v := fun h => st_vs hf h
  have z : ∀ k lo hi, st_cov (st_k st_F0.2.2 k) 0 0 50 lo hi = true → ∀ j, lo ≤ j → j ≤ hi → M k j = 0 := fun k lo hi h j j1 j2 => by
    have := st_cov_s (st_f0 hf).2.2 50 lo hi h j j1 j2
    omega
  have d5 := st_d5
  have d6 := st_d6
  simp only [Bool.and_eq_true] at d5 d6
  have a1 := d5.1.1.1.1
  have a2 := d5.1.1.1.2
  have a3 := d5.1.1.2.1
  have a4 := d5.1.1.2.2
  have a5 := d5.1.2.1.1
  have a6 := d5.1.2.1.2
  have a7 := d5.1.2.2.1
  have a8 := d5.1.2.2.2
  have b1 := d5.2.1.1
  have b2 := d5.2.1.2
  have b3 := d5.2.2.1
  have b4 := d5.2.2.2
  obtain ⟨⟨⟨c1, c2⟩, c3, c4⟩, c5⟩ := d6
  have e13 : iN 13 = 1 := by decide
  have eC : cs M 3 = iN := by
    funext i
    by_cases hi : 0 ≤ i ∧ i < 395 ∧ ¬ i = 8
    · rw [cs_pl hi]
      obtain ⟨k, rfl⟩ : ∃ k : Nat, i = (k : Int) := ⟨i.toNat, by omega⟩
      have hc : (pl (k : Int)).1 < 13 := Nat.lt_succ_of_le (pl_le hi)
      have h := List.all_eq_true.mp (List.all_eq_true.mp st_d1 (pl (k : Int)).1 (List.mem_range.mpr hc)) k (List.mem_range.mpr (by omega))
      simp only [Bool.or_eq_true] at h
      rcases h with h | h | h
      · exact absurd (eq_of_beq h) (by omega)
      · simp at h
      · have := st_cov_s (st_f0 hf).2.2 50 _ _ h _ (Int.le_refl _) (Int.le_refl _)
        omega
    · rw [cs_no hi]
      unfold iN
      rw [if_neg (by omega), if_neg (by omega), if_neg (by omega), if_neg (by omega), if_neg (by omega), if_neg (by omega)]
  have eW : ws (M 227) = iN := by
    funext i
    unfold ws
    by_cases hi : 0 ≤ i ∧ i < 395 ∧ ¬ i = 8
    · rw [if_pos hi]
      obtain ⟨k, rfl⟩ : ∃ k : Nat, i = (k : Int) := ⟨i.toNat, by omega⟩
      have h := List.all_eq_true.mp st_d2 k (List.mem_range.mpr (by omega))
      simp only [Bool.or_eq_true] at h
      rcases h with h | h
      · exact absurd (eq_of_beq h) (by omega)
      · exact v h
    · rw [if_neg hi]
      unfold iN
      rw [if_neg (by omega), if_neg (by omega), if_neg (by omega), if_neg (by omega), if_neg (by omega), if_neg (by omega)]
  have eH : ∀ k : Nat, (k = 201 ∨ k = 234) → ∀ y, 0 ≤ y → y < 300 → M k y = hts (iN 13) y := fun k hk y y0 y1 => by
    rw [e13]
    rcases hk with rfl | rfl
    · exact st_hC hf y y0 y1
    · exact st_hR hf y y0 y1
  refine ⟨⟨iN_J, (fun ls e => nomatch e), (fun N1 h => nomatch h), (fun NI lI e => nomatch e), ⟨by decide, by decide⟩, ⟨by decide, by decide⟩, fun j _ _ => ⟨show (-128 : Int) ≤ 0 by decide, show (0 : Int) ≤ 127 by decide⟩⟩, ⟨⟨fun _ => rfl, (fun ls e => nomatch e)⟩, fun i hi => absurd hi (Nat.not_lt_zero _), (fun NI lI e => nomatch e)⟩, ?_, ?_⟩
  · refine ⟨⟨⟨cstF hF, eC, fun y y0 y1 => ⟨eH 201 (Or.inl rfl) y y0 y1, hts_b, ?_⟩, fun l r l0 l1 r0 r1 => ?_⟩, 0, ⟨by decide, by decide⟩, v a1, v a2, by decide, (fun i N1 e => nomatch e)⟩, Or.inl (v a3), fun h => absurd rfl h, Or.inl ⟨v a4, rfl⟩, ⟨v a5, v a6⟩, fun j j0 j1 => z _ _ _ c3 j j0 (by omega)⟩
    · rw [z _ _ _ c2 y y0 (by omega)]
      exact fbk_f (k := 0) fbk_0 (show ((0 : Nat) : Int) = iN 5 by decide)
    · rw [iN_sp]
      exact z _ _ _ c1 _ (by omega) (by omega)
  · refine ⟨⟨⟨eW, fun y y0 y1 => ⟨eH 234 (Or.inr rfl) y y0 y1, hts_b⟩⟩, ⟨fun _ => v a8, (fun ls e => nomatch e)⟩, ⟨v a7, by decide⟩, (fun i N1 e => nomatch e)⟩, ⟨?_, fun j j0 j1 => ?_, fun r y h0 => ?_⟩, Or.inl ⟨v b2, rfl⟩, ⟨v b3, v b4⟩, fun j j0 j1 => z _ _ _ c4 j j0 (by omega)⟩
    · rw [v b1]; exact ⟨by decide, by decide⟩
    · rw [z _ _ _ c5 j j0 (by omega)]; exact ⟨by decide, by decide⟩
    · rw [v b1] at h0; omega
theorem st_bg {σ : Nat → Int} {K : gm_K} {R : gm_R} {M : gm_M} (hf : ck_gf σ st_F 245 K R M) : bg 0 (fun _ => 0) K (bg_R 0 fun _ => 0) M ∧ nR_ok 245 K R (bg_R 0 fun _ => 0) ∧ RELW (fun _ => 0) K M := by
  have z : ∀ k lo hi, st_cov (st_k st_F0.2.2 k) 0 0 50 lo hi = true → ∀ j, lo ≤ j → j ≤ hi → M k j = 0 := fun k lo hi h j j1 j2 => by
    have := st_cov_s (st_f0 hf).2.2 50 lo hi h j j1 j2
    omega
  obtain ⟨⟨⟨a1, a2⟩, a3, a4⟩, a5, -, -⟩ := st_c2
  have hF := st_Fx (st_f0 hf) st_c1 (st_J (K := K) (fun j h1 h2 => by
    rcases h1 with rfl | h1
    · exact z _ _ _ a1 4 (Int.le_refl _) (Int.le_refl _)
    · exact z _ _ _ a2 j h1 h2) (fun j h1 h2 => z _ _ _ a3 j h1 h2) (fun j h1 h2 => z _ _ _ a4 j h1 h2) (fun j h1 h2 => z _ _ _ a5 j h1 h2))
  have h0 : ∀ s ∈ bg_ss, R s 8 = 0 := fun s hs => by
    obtain ⟨q, hq, e⟩ := List.any_eq_true.mp (List.all_eq_true.mp st_c3 s hs)
    have := ((st_f0 hf).2.1 q hq).2
    rw [of_decide_eq_true e] at this
    exact this
  refine ⟨⟨⟨rfl, by decide⟩, ⟨hF.1, fun k j r hr => ⟨(hF.2.1 k j r hr).1, by unfold bg_R; rw [hr]⟩, hF.2.2⟩, fun i hi => by omega, fun s _ => Nat.le_refl _⟩, st_nR hF h0, ⟨_, _, _, _, _, _, _, st_REL hf hF⟩⟩
end GO
end
/-! 7c45.fx -/
section
/-! CALLS THAT ONLY ASK, by their row and by a judgement that tells the answer. -/
/-- the class answers c (thrown, or, of its own methods, the answer); out[0] is told -/
noncomputable def CF (c : Int) (ov : Option Int) : gm_Q := fun o _ K1 _ M1 => K1 245 = (2, 1) ∧ o = .inl (some (gm_vi c)) ∧ ∀ v, ov = some v → M1 245 0 = gm_w v
/-- the reference throws c, answers v where it throws nothing -/
noncomputable def RF (c v : Int) : gm_Q := fun o _ K1 _ M1 => K1 226 = (15, 0) ∧ (∃ x, o = .inl (some (gm_vi x)) ∧ (c = 0 → x = v)) ∧ M1 226 0 = c
noncomputable def cF (c : Int) (ov : Option Int) (u : Option gm_V) (M2 : gm_M) : Prop := ∃ y, u = some (gm_vi y) ∧ gm_w y = gm_w c ∧ ∀ v, ov = some v → Int64.ofInt (M2 245 0) = Int64.ofInt (gm_w v)
noncomputable def rF9 (c v : Int) (M : gm_M) (u : Option gm_V) (M2 : gm_M) : Prop := ∃ y, u = some (gm_vi y) ∧ (c = 0 → gm_w y = gm_w v) ∧ gm_w (M2 226 0) = gm_w c ∧ M2 245 0 = M 245 0
section FX45
variable {X : Int → Int} {LX : Nat} {O : gm_Or} {g z g1 n0 ix mj : Nat} {la : Nat → Nat} {K K' K2 : gm_K} {R R' R2 : gm_R} {M M' M2 : gm_M} {L : gm_L} {st : List gm_V} {Q Qf : gm_Q} {N : Int → Int} {lw lw2 : Option (List lln)} {ls : List lln} {A : List (Int → Int)} {im : Option ((Int → Int) × Option (List lln))} {t w c v : Int} {f W : Int → Int} {bc bs pc : Nat} {S : ck_Sum} {l l0 l1 : List ck_Sum} {ds : List (Int × Int)} {xs : List Int} {ov : Option Int} {u : Option gm_V}
/-- what the judgement says beside the row -/
noncomputable def bF (Qf : gm_Q) (n0 : Nat) (u : Option gm_V) (K' : gm_K) (M' : gm_M) : Prop := ∃ (o2 : gm_O) (n2 : Nat) (Ka : gm_K) (Ra : gm_R) (Ma : gm_M), Qf o2 n2 Ka Ra Ma ∧ dt_o (.inl u) o2 ∧ dt_m n0 K' M' Ka Ma
noncomputable def bc_KF (X : Int → Int) (LX d bc bs mi pc : Nat) (L : gm_L) (st : List gm_V) (Q : gm_Q) (O : gm_Or) (z g1 g : Nat) (la : Nat → Nat) (K : gm_K) (M : gm_M) (S : ck_Sum) (Qf : gm_Q) : Prop := ∀ oc ∈ S.2.2.2.2.2, ∀ (σ : Nat → Int) (u : Option gm_V) (n' : Nat) (K' : gm_K) (R' : gm_R) (M' : gm_M), (∀ q ∈ O.2.2.nm, σ q.1 = bs_M la M q.2.1 q.2.2) → ck_ho σ oc.1 (.inl u) → ck_gf σ oc.2.2 n' K' R' M' → gm_Fx O n' K' R' M' → ck_fr S.2.2.2.2.1 (245 + 4 * g1) (bs_K la K) (bs_R z g1) (bs_M la M) n' K' R' M' → bF Qf (245 + 4 * g1) u K' M' → bg g (bg_la la g 0 R') (bg_K g K K') (bg_R g (bg_la la g 0 R')) (bg_M g M M') → gm_Wp X LX d bc bs mi pc L (u.toList ++ st) (245 + 4 * g) (bg_K g K K') (bg_R g (bg_la la g 0 R')) (bg_M g M M') Q
theorem bc_ownF {d bc bs mi pc mj d' bc' bs' : Nat} {vs : List gm_V} (hb : bg g la K R M) (hz : bs_ok la z g1) (hg : g < 10000) (hnm : ck_nmu O) (hO : ∀ n K R M, gm_Fx O n K R M → gm_Fx p2_O n K R M) (hF : gm_Fx O (245 + 4 * g1) (bs_K la K) (bs_R z g1) (bs_M la M)) (hS : ck_Ok O X LX mj S) (hck : bc_ok O z g1 S = true) (h1 : S.1.1 ≤ d') (h2 : S.1.2.1 ≤ bc') (h3 : S.1.2.2 ≤ bs') (hvs : ∀ σ, ck_gas σ S.2.2.1 vs) (hf : gm_Wp X LX d' bc' bs' mj 0 (gm_ent mj vs) [] (245 + 4 * g1) (bs_K la K) (bs_R z g1) (bs_M la M) Qf) (k : bc_KF X LX d bc bs mi pc L st Q O z g1 g la K M S Qf) : gm_Wp X LX d' bc' bs' mj 0 (gm_ent mj vs) [] (245 + 4 * g1) (bs_K la K) (bs_R z g1) (bs_M la M) (gm_owe X LX d bc bs mi pc L st (bg_rho (la 3)) (bg_f la) (245 + 4 * g1) (245 + 4 * g) K R M Q) := by
  have hck2 := hck
  simp only [bc_ok, Bool.and_eq_true, decide_eq_true_eq] at hck2
  have hσ := ck_sn_s (σ := fun _ => 0) (M := bs_M la M) hnm
  refine gm_Wp_mono (fun o n' K' R' M' hq => ?_) (gm_Wp_and (gm_Wp_wk (Nat.le_refl _) h2 h3 (hS d' (ck_sn O (fun _ => 0) (bs_M la M)) vs _ _ _ _ h1 hck2.1.symm (hvs _) hσ hF (bc_f_s hck2.2.1 hF (by omega) hσ))) hf)
  obtain ⟨hq, hex⟩ := hq
  obtain ⟨hrt, oc, hoc, u, rfl, hu, ho, hf⟩ := bc_rt hck hz hO hq
  exact bg_oweX (c := 0) hb hz hg hrt hu (fun hb2 => k oc hoc _ u n' K' R' M' hσ ho hf hq.1 hq.2.1 hex hb2)
theorem bc_virtF {ix mj k1 ci mi pc d bc bs d' bc' bs' : Nat} {xs : List Int} (hb : bg g la K R M) (hz : bs_ok la z g1) (hg : g < 10000) (hnm : ck_nmu O) (hO : ∀ n K R M, gm_Fx O n K R M → gm_Fx p2_O n K R M) (hF : gm_Fx O (245 + 4 * g1) (bs_K la K) (bs_R z g1) (bs_M la M)) (hk1 : 1 ≤ k1 ∧ k1 ≤ 245) (hK1 : (K k1).1 = ci + 4) (h : gm_at mi pc = some (.invokevirtual ix)) (hc : gm_cal (gm_ow mi) ix = some (0, mj)) (hmx : gm_ow mj ≠ gm_mxi) (hci : ci < 12) (hcn : gm_cn ci = (gm_mn mj).cls) (hna : xs.length = gm_na mj) (hlen : xs.length + 1 ≤ gm_ml mj) (hst : (st.map gm_cat).sum ≤ 8) (hS : ck_Ok O X LX mj S) (hck : bc_ok O z g1 S = true) (h1 : S.1.1 ≤ d') (h2 : S.1.2.1 ≤ bc') (h3 : S.1.2.2 ≤ bs') (hd : d' + 1 ≤ d) (hb1 : bc' ≤ bc) (hb2 : bs' ≤ bs) (hvs : ∀ σ, ck_gas σ S.2.2.1 (gm_vr k1 :: xs.map gm_vi)) (hf : gm_Wp X LX d' bc' bs' mj 0 (gm_ent mj (gm_vr k1 :: xs.map gm_vi)) [] (245 + 4 * g1) (bs_K la K) (bs_R z g1) (bs_M la M) Qf) (k : bc_KF X LX d (bc - bc') (bs - bs') mi (pc + 3) L st Q O z g1 g la K M S Qf) : gm_Wp X LX d bc bs mi pc L ((xs.map gm_vi).reverse ++ gm_vr k1 :: st) (245 + 4 * g) K R M Q := by
  have er : bg_rho (la 3) k1 = k1 := by unfold bg_rho; rw [if_pos (by omega)]
  have := gm_c_virtS (k1 := k1) (as := xs.map gm_vi) (d' := d') (bc' := bc') (bs' := bs') (fun ti α => bg_sbw hb hz ti α) (fun i j a b c d e => bc_hin hz i j a b c d e) (bs_Rv hz) ⟨hk1.1, by omega⟩ (show (bs_K la K k1).1 = ci + 4 by unfold bs_K; rw [er]; exact hK1) h hc hmx hci hcn (by rw [List.length_map]; exact hna) (fun v hv => by obtain ⟨x, -, rfl⟩ := List.mem_map.mp hv; exact ⟨x, rfl⟩) (by rw [List.length_map]; exact hlen) hst hd hb1 hb2 (bc_ownF hb hz hg hnm hO hF hS hck h1 h2 h3 hvs hf k)
  rw [er] at this
  exact this
theorem bc_statF {ix mj mi pc d bc bs d' bc' bs' : Nat} {xs : List Int} (hb : bg g la K R M) (hz : bs_ok la z g1) (hg : g < 10000) (hnm : ck_nmu O) (hO : ∀ n K R M, gm_Fx O n K R M → gm_Fx p2_O n K R M) (hF : gm_Fx O (245 + 4 * g1) (bs_K la K) (bs_R z g1) (bs_M la M)) (h : gm_at mi pc = some (.invokestatic ix)) (hc : gm_cal (gm_ow mi) ix = some (5, mj)) (hmx : gm_ow mj ≠ gm_mxi) (hhj : ¬ gm_hh mj = []) (hna : xs.length + 2 = gm_na mj) (hlen : xs.length + 2 ≤ gm_ml mj) (hst : (st.map gm_cat).sum ≤ 8) (hS : ck_Ok O X LX mj S) (hck : bc_ok O z g1 S = true) (h1 : S.1.1 ≤ d') (h2 : S.1.2.1 ≤ bc') (h3 : S.1.2.2 ≤ bs') (hd : d' + 1 ≤ d) (hb1 : bc' ≤ bc) (hb2 : bs' ≤ bs) (hvs : ∀ σ, ck_gas σ S.2.2.1 (gm_vr 1 :: bc_as xs true)) (hf : gm_Wp X LX d' bc' bs' mj 0 (gm_ent mj (gm_vr 1 :: bc_as xs true)) [] (245 + 4 * g1) (bs_K la K) (bs_R z g1) (bs_M la M) Qf) (k : bc_KF X LX d (bc - bc') (bs - bs') mi (pc + 3) L st Q O z g1 g la K M S Qf) : gm_Wp X LX d bc bs mi pc L (gm_vr 245 :: ((xs.map gm_vi).reverse ++ gm_vr 1 :: st)) (245 + 4 * g) K R M Q := by
  have hl : (gm_vr 1 :: bc_as xs true).length = xs.length + 2 := by simp [bc_as]
  have := gm_c_statS (as1 := gm_vr 1 :: bc_as xs true) (as := gm_vr 1 :: bc_as xs true) (d' := d') (bc' := bc') (bs' := bs') (st := st) (fun ti α => bg_sbw hb hz ti α) (fun i j a b c d e => bc_hin hz i j a b c d e) (bs_Rv hz) (bc_arX xs (by omega)) h hc hmx hhj (by rw [hl]; exact hna) (by rw [hl]; exact hlen) hst hd hb1 hb2 (bc_ownF hb hz hg hnm hO hF hS hck h1 h2 h3 hvs hf k)
  rw [show (gm_vr 1 :: bc_as xs true).reverse ++ st = gm_vr 245 :: ((xs.map gm_vi).reverse ++ gm_vr 1 :: st) by simp [bc_as]] at this
  exact this
theorem cF_of (hE : bF (CF c ov) n0 u K' M') (hn : 245 ≤ n0) (hK : K' 245 = (2, 1)) (hu : mn_u true u) : cF c ov u (bg_M g M M') := by
  obtain ⟨o2, n2, Ka, Ra, Ma, ⟨a1, rfl, a2⟩, hdo, hdm⟩ := hE
  obtain ⟨y, rfl⟩ : ∃ y, u = some (gm_vi y) := hu
  refine ⟨y, rfl, dt_w hdo, fun v hv => ?_⟩
  rw [bg_Ms (by decide), ← a2 v hv]
  exact (hdm 245 (by decide) hn (hK.trans a1.symm)).2.1 (by rw [hK]) 0 (by rw [hK]; decide)
theorem rF_of (hE : bF (RF c v) n0 u K' M') (hn : 245 ≤ n0) (hK : K' 226 = (15, 0)) (hu : mn_u true u) (h5 : M' 245 0 = M 245 0) : rF9 c v M u (bg_M g M M') := by
  obtain ⟨o2, n2, Ka, Ra, Ma, ⟨a1, ⟨x, rfl, hx⟩, a2⟩, hdo, hdm⟩ := hE
  obtain ⟨y, rfl⟩ : ∃ y, u = some (gm_vi y) := hu
  refine ⟨y, rfl, fun hc => (dt_w hdo).trans (by rw [hx hc]), ?_, (bg_Ms (by decide) _).trans h5⟩
  rw [bg_Ms (by decide), ← a2]
  exact dt_w ((hdm 226 (by decide) (by omega) (hK.trans a1.symm)).2.2 11 0 (by rw [hK]) (by decide +kernel) (by decide +kernel))
theorem w_r_u {oc : ck_Oc} {σ : Nat → Int} (hw : w_r true S = true) (hok : bc_ok O z g1 S = true) (hoc : oc ∈ S.2.2.2.2.2) (ho : ck_ho σ oc.1 (.inl u)) : mn_u true u := vr_s hw hok ⟨oc, hoc, σ, ho⟩

/-- it does not write k.j -/
noncomputable def bc_keep (S : ck_Sum) (k : Nat) (j : Int) : Bool := S.2.2.2.2.1.1.all fun w => !decide (w.1 = k ∧ w.2.1 ≤ j ∧ j ≤ w.2.2)
theorem bc_keep_s {n0 n k : Nat} {j : Int} {K0 K' : gm_K} {R0 R' : gm_R} {M0 M' : gm_M} (h : bc_keep S k j = true) (hk : k ≤ n0) (hf : ck_fr S.2.2.2.2.1 n0 K0 R0 M0 n K' R' M') : M' k j = M0 k j := by
  refine hf.2.2.1 k j hk fun w hw hh => ?_
  have := List.all_eq_true.mp h w hw
  simp only [Bool.not_eq_true', decide_eq_false_iff_not] at this
  exact this hh

theorem wk0_f {k1 : Nat} {tt : Bool} (hb : bg g la K R M) (h3 : la 3 = 0) (hw : w_r true S = true) (hck : w_k q0_O 0 0 k1 tt S = true) (hR : REL la K M N none A im t w f) (hbc : 6 ≤ bc) (hbs : 600 ≤ bs) (k : mq_K X LX bc bs pc L st Q g (fun la2 K2 M2 => REL la2 K2 M2 N none A im t w f) (fun u M2 => cF c ov u M2)) : bc_KF X LX 280 (bc - 6) (bs - 600) 370 pc L st Q q0_O 0 0 g la K M S (CF c ov) := by
  have hz : bs_ok la 0 0 := Or.inl ⟨rfl, rfl, h3⟩
  simp only [w_k, Bool.and_eq_true, decide_eq_true_eq, List.isEmpty_iff] at hck
  obtain ⟨hok, -, hbd, hR2, hW⟩ := hck
  intro oc hoc σ u n' K' R' M' _ ho hf hF hfr hex hb2
  have eR : ∀ k j, k ≤ 245 + 4 * 0 → R' k j = bs_R 0 0 k j := fun k j hk => hfr.2.2.2 k j hk (by rw [hR2]; exact fun h => nomatch h)
  have e0 : ∀ k j, k ≤ 245 → bg_M g M M' k j = M' k j := fun k j hk => bg_Ms hk j
  have e : ∀ k j, k ≤ 245 → ((cK k j ∧ ¬ kpt k j) ∨ rK k j) → bg_M g M M' k j = M k j := fun k j hk h => by
    rw [bg_Ms hk, wk_e hW hfr (by omega) h, vM hk]
  obtain ⟨-, N2, hq⟩ := hF.2.2.2.2
  have eN : N2 = N := by
    rw [← hq.2.1.1, ← hR.2.2.1.1.1.2.1]
    exact cs_same fun x j h1 h2 => by
      rw [← e0 x j (by omega)]
      exact e x j (by omega) (Or.inl ⟨by unfold cK; omega, by unfold kpt; omega⟩)
  subst eN
  have h15 : bg_M g M M' 1 15 = 0 ∨ (bg_M g M M' 1 15 = 1 ∧ ENDS N2 (hts (N2 13)) (aphi none N2 (hts (N2 13))) (bg_M g M M')) := by
    rw [e0 1 15 (by decide)]
    exact hq.2.2.imp_right fun hh => ⟨hh.1, ends_x hh.2 (fun k j hk => e0 k j (by omega))⟩
  refine gm_Wp_wk (Nat.le_refl _) (by omega) (by omega) (k u _ _ _ _ (cF_of hex (by omega) (hF.1 245 (2, 1) (by decide +kernel)).2.2 (w_r_u hw hok hoc ho)) hb2 ⟨hR.1, lwl_e hR.2.1 hb.2.2.2 (fun s hs => ?_) (e 42 1 (by decide) (Or.inl ⟨by unfold cK; omega, by unfold kpt; omega⟩)) (fun k k1 k2 => bg_Ks k2) (fun k j k1 k2 => bg_oldM k1 k2), clv_k hR.2.2.1 (cstF hb2.2.1) (fun k j hk hn => e k j (by have := ck_le hk; omega) (Or.inl ⟨hk, hn⟩)) h15 (fun hn => absurd rfl hn), rfv_e hR.2.2.2 (fun k j hk => e k j (by have := rk_le hk; omega) (Or.inr hk))⟩)
  show bg_dc la g 0 (R' s 8) = la s
  rw [eR s 8 (by have := bg_ssl hs; omega)]
  exact bg_dcs hz hs

theorem wkL_f {k1 : Nat} {tt : Bool} (hb : bg g la K R M) (h3 : ¬ la 3 = 0) (hw : w_r true S = true) (hck : w_k qL_O 246 1 k1 tt S = true) (hR : REL la K M N (some ls) A im t w f) (hbc : 6 ≤ bc) (hbs : 600 ≤ bs) (k : mq_K X LX bc bs pc L st Q g (fun la2 K2 M2 => REL la2 K2 M2 N (some ls) A im t w f) (fun u M2 => cF c ov u M2)) : bc_KF X LX 280 (bc - 6) (bs - 600) 370 pc L st Q qL_O 246 1 g la K M S (CF c ov) := by
  have hz : bs_ok la 246 1 := Or.inr (Or.inr ⟨rfl, rfl, h3⟩)
  simp only [w_k, Bool.and_eq_true, decide_eq_true_eq, List.isEmpty_iff] at hck
  obtain ⟨hok, -, hbd, hR2, hW⟩ := hck
  intro oc hoc σ u n' K' R' M' _ ho hf hF hfr hex hb2
  have eR : ∀ k j, k ≤ 245 + 4 * 1 → R' k j = bs_R 246 1 k j := fun k j hk => hfr.2.2.2 k j hk (by rw [hR2]; exact fun h => nomatch h)
  have e0 : ∀ k j, k ≤ 245 → bg_M g M M' k j = M' k j := fun k j hk => bg_Ms hk j
  have e : ∀ k j, k ≤ 245 → ((cK k j ∧ ¬ kpt k j) ∨ rK k j) → bg_M g M M' k j = M k j := fun k j hk h => by
    rw [bg_Ms hk, wk_e hW hfr (by omega) h, vM hk]
  obtain ⟨-, N2, ls2, hq, hkk, -, hlr⟩ := hF.2.2.2.2
  have eN : N2 = N := by
    rw [← hq.2.1.1, ← hR.2.2.1.1.1.2.1]
    exact cs_same fun x j h1 h2 => by
      rw [← e0 x j (by omega)]
      exact e x j (by omega) (Or.inl ⟨by unfold cK; omega, by unfold kpt; omega⟩)
  subst eN
  have e7 : M' 227 = M 227 := funext fun j => by
    rw [← e0 227 j (by decide)]
    exact e 227 j (by decide) (Or.inr (by unfold rK; omega))
  rw [e7] at hlr
  have hl2 := hR.2.2.2.1.2.1
  have ea := aphx_u (N := N2) (h := hts (N2 13)) hlr hl2
  have eb := aphi_u (N := N2) (h := hts (N2 13)) hlr hl2
  have h15 : bg_M g M M' 1 15 = 0 ∨ (bg_M g M M' 1 15 = 1 ∧ ENDS N2 (hts (N2 13)) (aphi (some ls) N2 (hts (N2 13))) (bg_M g M M')) := by
    rw [e0 1 15 (by decide), ← eb]
    exact hq.2.2.imp_right fun hh => ⟨hh.1, ends_x hh.2 (fun k j hk => e0 k j (by omega))⟩
  have hk9 : KFL N2 (aphx (some ls) N2 (hts (N2 13))) (bg_M g M M') := by
    rw [← ea]
    exact kfl_e hkk (e0 200 6 (by decide)) (fun j => e0 205 j (by decide))
  refine gm_Wp_wk (Nat.le_refl _) (by omega) (by omega) (k u _ _ _ _ (cF_of hex (by omega) ((qL_p hF).1 245 (2, 1) (by decide +kernel)).2.2 (w_r_u hw hok hoc ho)) hb2 ⟨hR.1, lwl_e hR.2.1 hb.2.2.2 (fun s hs => ?_) (e 42 1 (by decide) (Or.inl ⟨by unfold cK; omega, by unfold kpt; omega⟩)) (fun k k1 k2 => bg_Ks k2) (fun k j k1 k2 => bg_oldM k1 k2), clv_k hR.2.2.1 (cstF hb2.2.1) (fun k j hk hn => e k j (by have := ck_le hk; omega) (Or.inl ⟨hk, hn⟩)) h15 (fun _ => hk9), rfv_e hR.2.2.2 (fun k j hk => e k j (by have := rk_le hk; omega) (Or.inr hk))⟩)
  show bg_dc la g 0 (R' s 8) = la s
  rw [eR s 8 (by have := bg_ssl hs; omega)]
  exact bg_dcs hz hs

theorem wkR_f (hb : bg g la K R M) (hw : w_r true S = true) (h5 : bc_keep S 245 0 = true) (hck : w_kR S = true) (hR : REL la K M N lw A im t w f) (hbc : 6 ≤ bc) (hbs : 600 ≤ bs) (k : mq_K X LX bc bs pc L st Q g (fun la2 K2 M2 => REL la2 K2 M2 N lw A im t w f) (fun u M2 => rF9 c v M u M2)) : bc_KF X LX 280 (bc - 6) (bs - 600) 370 pc L st Q qR_O 100003 0 g la K M S (RF c v) := by
  have hz : bs_ok la 100003 0 := Or.inr (Or.inl ⟨rfl, rfl⟩)
  simp only [w_kR, Bool.and_eq_true, decide_eq_true_eq, List.isEmpty_iff] at hck
  obtain ⟨hok, -, hbd, hR2, hW⟩ := hck
  intro oc hoc σ u n' K' R' M' _ ho hf hF hfr hex hb2
  have eR : ∀ k j, k ≤ 245 + 4 * 0 → R' k j = bs_R 100003 0 k j := fun k j hk => hfr.2.2.2 k j hk (by rw [hR2]; exact fun h => nomatch h)
  have e0 : ∀ k j, k ≤ 245 → bg_M g M M' k j = M' k j := fun k j hk => bg_Ms hk j
  have e : ∀ k j, k ≤ 245 → (cK k j ∨ rK k j) → ¬ k = 235 → ¬ (k = 226 ∧ j = 26) → bg_M g M M' k j = M k j := fun k j hk h n1 n2 => by
    rw [bg_Ms hk, hfr.2.2.1 k j (by omega) (fun w hw hh => ?_), vM hk]
    have := List.all_eq_true.mp hW w hw
    simp only [Bool.or_eq_true, Bool.and_eq_true, Bool.not_eq_true', decide_eq_true_eq] at this
    rcases this with h9 | h9
    · omega
    · rcases h with h | h
      · rw [cKb_s h hh] at h9; exact absurd h9.1 (by decide)
      · rw [rKb_s h hh] at h9; exact absurd h9.2 (by decide)
  obtain ⟨-, N2, lw2, hG2, hT2, hL2, hk2⟩ := hF.2.2.2.2
  have e7 : M' 227 = M 227 := funext fun j => by
    rw [← e0 227 j (by decide)]
    exact e 227 j (by decide) (Or.inr (by unfold rK; omega)) (by decide) (by omega)
  have eN : N2 = N := by rw [← hT2.1, e7]; exact hR.2.2.2.1.1.1
  subst eN
  rw [e7] at hL2
  rw [aphi_v (N := N2) (h := hts (N2 13)) hL2 hR.2.2.2.1.2.1] at hk2
  have hk9 : KFR N2 (aphi lw N2 (hts (N2 13))) (bg_M g M M') := kfr_e hk2 (e0 226 26 (by decide)) (fun j => e0 235 j (by decide))
  refine gm_Wp_wk (Nat.le_refl _) (by omega) (by omega) (k u _ _ _ _ (rF_of hex (by omega) (hF.1 226 (15, 0) (by decide +kernel)).2.2 (w_r_u hw hok hoc ho) ((bc_keep_s h5 (by omega) hfr).trans (vM (by decide)))) hb2 ⟨hR.1, lwl_e hR.2.1 hb.2.2.2 (fun s hs => ?_) (e 42 1 (by decide) (Or.inl (by unfold cK; omega)) (by decide) (by decide)) (fun k k1 k2 => bg_Ks k2) (fun k j k1 k2 => bg_oldM k1 k2), clv_e hR.2.2.1 (cstF hb2.2.1) (fun k j hk => e k j (by have := ck_le hk; omega) (Or.inl hk) (by have := ck_le hk; omega) (by have := ck_le hk; omega)), rfv_k hR.2.2.2 (fun k j hk n1 n2 => e k j (by have := rk_le hk; omega) (Or.inr hk) n1 n2) hk9⟩)
  show bg_dc la g 0 (R' s 8) = la s
  rw [eR s 8 (by have := bg_ssl hs; omega)]
  exact bg_dcs hz hs

theorem rf_x (hb : bg g la K R M) (hg : g < 10000) (hR : REL la K M N lw A im t w f) (h : gm_at 370 pc = some (.invokestatic ix)) (hc : gm_cal (gm_ow 370) ix = some (5, mj)) (hmx : gm_ow mj ≠ gm_mxi) (hhj : ¬ gm_hh mj = []) (hna : xs.length + 2 = gm_na mj) (hlen : xs.length + 2 ≤ gm_ml mj) (hst : (st.map gm_cat).sum ≤ 8) (s0 : ∀ S ∈ l0, ck_Ok q0_O X LX mj S) (s1 : ∀ S ∈ l1, ck_Ok qL_O X LX mj S) (c0 : l0.all (fun S => w_k q0_O 0 0 1 true S && w_r true S) = true) (c1 : l1.all (fun S => w_k qL_O 246 1 1 true S && w_r true S) = true) (v0 : bc_cov 60 ds (l0.map bc_box) = true) (v1 : bc_cov 60 ds (l1.map bc_box) = true) (hx : bc_in ds xs) (hi : ∀ x ∈ xs, gm_ir x) (hbc : 6 ≤ bc) (hbs : 600 ≤ bs) (hf : ∀ z g1, bs_ok la z g1 → ¬ z = 100003 → gm_Wp X LX 279 6 600 mj 0 (gm_ent mj (gm_vr 1 :: bc_as xs true)) [] (245 + 4 * g1) (bs_K la K) (bs_R z g1) (bs_M la M) (CF c ov)) (k : mq_K X LX bc bs (pc + 3) L st Q g (fun la2 K2 M2 => REL la2 K2 M2 N lw A im t w f) (fun u M2 => cF c ov u M2)) : gm_Wp X LX 280 bc bs 370 pc L (gm_vr 245 :: ((xs.map gm_vi).reverse ++ gm_vr 1 :: st)) (245 + 4 * g) K R M Q := by
  by_cases h3 : la 3 = 0
  · have hz : bs_ok la 0 0 := Or.inl ⟨rfl, rfl, h3⟩
    have el := lw_0 hR h3
    subst el
    obtain ⟨S, hS, hin⟩ := mw_in v0 hx
    have hck := List.all_eq_true.mp c0 S hS
    simp only [Bool.and_eq_true] at hck
    obtain ⟨hck, hw⟩ := hck
    have hck2 := hck
    simp only [w_k, Bool.and_eq_true, decide_eq_true_eq] at hck2
    exact bc_statF (d' := 279) (bc' := 6) (bs' := 600) (O := q0_O) (z := 0) (g1 := 0) hb hz hg q0_nmu (fun _ _ _ _ h => q0_p h) (bs_q0 hb hR) h hc hmx hhj hna hlen hst (s0 S hS) hck2.1 (by omega) (by omega) (by omega) (by decide) hbc hbs (fun σ => bc_gas2 hck2.2.1 hin hi) (hf 0 0 hz (by decide)) (wk0_f hb h3 hw hck hR hbc hbs k)
  · have hz : bs_ok la 246 1 := Or.inr (Or.inr ⟨rfl, rfl, h3⟩)
    obtain ⟨ls, rfl⟩ := lw_1 hR h3
    obtain ⟨S, hS, hin⟩ := mw_in v1 hx
    have hck := List.all_eq_true.mp c1 S hS
    simp only [Bool.and_eq_true] at hck
    obtain ⟨hck, hw⟩ := hck
    have hck2 := hck
    simp only [w_k, Bool.and_eq_true, decide_eq_true_eq] at hck2
    exact bc_statF (d' := 279) (bc' := 6) (bs' := 600) (O := qL_O) (z := 246) (g1 := 1) hb hz hg qL_nmu (fun _ _ _ _ h => pl_o (qL_p h)) (bs_qL hb h3 hR) h hc hmx hhj hna hlen hst (s1 S hS) hck2.1 (by omega) (by omega) (by omega) (by decide) hbc hbs (fun σ => bc_gas2 hck2.2.1 hin hi) (hf 246 1 hz (by decide)) (wkL_f hb h3 hw hck hR hbc hbs k)

theorem rf_m (hb : bg g la K R M) (hg : g < 10000) (hR : REL la K M N lw A im t w f) (h : gm_at 370 pc = some (.invokevirtual ix)) (hc : gm_cal (gm_ow 370) ix = some (0, mj)) (hmx : gm_ow mj ≠ gm_mxi) (hcn : gm_cn 11 = (gm_mn mj).cls) (hna : xs.length = gm_na mj) (hlen : xs.length + 1 ≤ gm_ml mj) (hst : (st.map gm_cat).sum ≤ 8) (s0 : ∀ S ∈ l, ck_Ok qR_O X LX mj S) (c0 : l.all (fun S => w_kR S && (w_r true S && bc_keep S 245 0)) = true) (v0 : bc_cov 60 ds (l.map bc_box) = true) (hx : bc_in ds xs) (hi : ∀ x ∈ xs, gm_ir x) (hbc : 6 ≤ bc) (hbs : 600 ≤ bs) (hf : gm_Wp X LX 279 6 600 mj 0 (gm_ent mj (gm_vr 226 :: xs.map gm_vi)) [] 245 (bs_K la K) (bs_R 100003 0) (bs_M la M) (RF c v)) (k : mq_K X LX bc bs (pc + 3) L st Q g (fun la2 K2 M2 => REL la2 K2 M2 N lw A im t w f) (fun u M2 => rF9 c v M u M2)) : gm_Wp X LX 280 bc bs 370 pc L ((xs.map gm_vi).reverse ++ gm_vr 226 :: st) (245 + 4 * g) K R M Q := by
  obtain ⟨S, hS, hin⟩ := mw_in v0 hx
  have hck := List.all_eq_true.mp c0 S hS
  simp only [Bool.and_eq_true] at hck
  obtain ⟨hck, hw, h5⟩ := hck
  have hck2 := hck
  simp only [w_kR, Bool.and_eq_true, decide_eq_true_eq] at hck2
  exact bc_virtF (d' := 279) (bc' := 6) (bs' := 600) (O := qR_O) (z := 100003) (g1 := 0) (k1 := 226) (ci := 11) hb (Or.inr (Or.inl ⟨rfl, rfl⟩)) hg qR_nmu (fun _ _ _ _ h => qR_p h) (bs_qR hb hR) ⟨by decide, by decide⟩ (mw_k1 hb).2 h hc hmx (by decide) hcn hna hlen hst (s0 S hS) hck2.1 (by omega) (by omega) (by omega) (by decide) hbc hbs (rq_as hck2.2.1 hin hi) hf (wkR_f hb hw h5 hck hR hbc hbs k)

theorem qf_cmp {y1 y2 m : Int} (hc : gm_ir c) (h1 : gm_w y1 = gm_w c) (hv : ∀ v2, oV c v = some v2 → Int64.ofInt m = Int64.ofInt (gm_w v2)) (hy : c = 0 → gm_w y2 = gm_w v) : gm_w y1 = gm_w 0 → gm_w6 m = gm_w6 (gm_w y2) := by
  intro h0
  have e : gm_w c = c := dw_i hc
  have hc0 : c = 0 := by rw [h1, e] at h0; exact h0.trans (by decide)
  rw [hy hc0]
  exact dt_w6 (hv v (if_pos hc0))
end FX45
end
/-! 7c46.cm -/
section
/-! HOW AN ANSWER IS TOLD; FAULT. -/
/-- how an answer is told -/
theorem cf_v {q : Int × Int} {v : Int} {o2 : gm_O} {n2 : Nat} {K2 : gm_K} {R2 : gm_R} {M2 : gm_M} (hK : K2 245 = (2, 1)) (e : q = (0, v)) (ho : o2 = .inl (some (gm_vi 0))) : CF q.1 (oV q.1 q.2) o2 n2 K2 R2 (gm_uM M2 245 0 (gm_w v)) := by
  subst e
  subst ho
  refine ⟨hK, rfl, fun v2 h => ?_⟩
  have h : some v = some v2 := (if_pos rfl : oV 0 v = some v).symm.trans h
  cases h
  exact uM_at
theorem cf_x {q : Int × Int} {c : Int} {n2 : Nat} {K2 : gm_K} {R2 : gm_R} {M2 : gm_M} (hK : K2 245 = (2, 1)) (e : q = (c, 0)) (hc : ¬ c = 0) : CF q.1 (oV q.1 q.2) (.inl (some (gm_vi c))) n2 K2 R2 M2 := by
  subst e
  refine ⟨hK, rfl, fun v2 h => ?_⟩
  have h : (none : Option Int) = some v2 := (if_neg hc : oV c 0 = none).symm.trans h
  cases h
theorem rf_e {q : Int × Int} {c v x : Int} {n2 : Nat} {K2 : gm_K} {R2 : gm_R} {M2 : gm_M} (hK : K2 226 = (15, 0)) (e : q = (c, v)) (hx : c = 0 → x = v) (h0 : M2 226 0 = c) : RF q.1 q.2 (.inl (some (gm_vi x))) n2 K2 R2 M2 := by
  subst e
  exact ⟨hK, ⟨x, rfl, hx⟩, h0⟩
theorem tif_ir {P : Prop} {u v : Int × Int} (hu : gm_ir u.1) (hv : gm_ir v.1) : gm_ir (tif P u v).1 := tif_i (C := fun q : Int × Int => gm_ir q.1) hu hv
theorem k226 {n : Nat} {K : gm_K} {R : gm_R} (hE : E0 n K R) : K 226 = (15, 0) := (hE.1 226 (15, 0) (by decide +kernel)).2
section CM46
variable {X : Int → Int} {LX d bc bs n g z g1 : Nat} {la : Nat → Nat} {K : gm_K} {R : gm_R} {M : gm_M} {N : Int → Int} {lw : Option (List lln)} {A : List (Int → Int)} {im : Option ((Int → Int) × Option (List lln))} {t w : Int} {f : Int → Int} {a b c e : Int} {NC : Nat} {C Ln G : Int → Int}
end CM46
end
/-! 7c49.hl -/
section
/-! THE LAW'S OWN METHODS, on. -/
section HL49
variable {X : Int → Int} {LX d bc bs n : Nat} {K : gm_K} {R : gm_R} {M : gm_M} {Q : gm_Q}
end HL49
end
/-! 7c50.sq -/
section
/-! CALLS THAT ONLY ASK, without loops: what they answer. -/
section SQ50
variable {X : Int → Int} {LX d bc bs n : Nat} {K : gm_K} {R : gm_R} {M : gm_M} {Q : gm_Q} {N h : Int → Int} {sp : Int → Int → Int} {FI : gm_M → Prop} {φ : Int → Int → Int → Int} {l lane row year y p w x k c v a b t : Int}
end SQ50
end
/-! 7c51.sa -/
section
/-! CALLS THAT ONLY ASK, without loops: class and reference answer alike. -/
section SA51
variable {X : Int → Int} {LX d bc bs n g z g1 : Nat} {la : Nat → Nat} {K : gm_K} {R : gm_R} {M : gm_M} {N : Int → Int} {lw : Option (List lln)} {A : List (Int → Int)} {im : Option ((Int → Int) × Option (List lln))} {t w : Int} {f : Int → Int} {a b c e : Int} {NC : Nat} {C Ln G : Int → Int}
end SA51
end
/-! 7c52.wd -/
section
/-! WHERE, DEEP: what they answer. -/
section WD52
variable {X : Int → Int} {LX d bc bs n : Nat} {K : gm_K} {R : gm_R} {M : gm_M} {Q : gm_Q} {N h : Int → Int} {sp : Int → Int → Int} {FI : gm_M → Prop} {φ : Int → Int → Int → Int} {l lane row year y p w x k c v a b t : Int}
theorem cl_where (hd : 20 ≤ d) (hbc : 4 ≤ bc) (hbs : 24 ≤ bs) (hE : E0 n K R) (hT : TI N h sp M) (hN : NR N) (hfw : FLW X LX n K R N h sp FI φ) (hI : FI M) (hl : 0 ≤ l ∧ l < N 4) (hi2 : gm_ir y) (kn : 0 ≤ y ∧ y ≤ 299 → y < (N (119 + (l * 7 + 3))) → Q (.inl (some (gm_vi (-1)))) n K R M) (kv : 0 ≤ y ∧ y ≤ 299 → ¬ y < (N (119 + (l * 7 + 3))) → ∀ M2, Q (.inl (some (gm_vi (min (nwy N h φ ((N (119 + (l * 7 + 2)))) (if (N (119 + (l * 7 + 0))) = -1 then 1 else 0) (-1) ((N (119 + (l * 7 + 3)))) ((N (119 + (l * 7 + 4)))) (y - (N (119 + (l * 7 + 3)))).toNat).1 (N 1))))) n K R M2) (k0 : ¬ (0 ≤ y ∧ y ≤ 299) → Q (.inr 0) n K R M) : gm_Wp X LX d bc bs 147 0 (gm_ent 147 [gm_vr 1, gm_vi l, gm_vi y]) [] n K R M Q := by
  obtain ⟨⟨⟨a0, b0⟩, ⟨a1, b1⟩, ⟨a10, b10⟩, ⟨a11, b11⟩, ⟨a12, b12⟩, a9, b9⟩, ⟨⟨a2, b2⟩, ⟨a5, b5⟩, ⟨a3, b3⟩, ⟨a4, b4⟩, ⟨a6, b6⟩, ⟨a14, b14⟩, ⟨a7, b7⟩, a13, b13⟩, rF, rP, rL⟩ := id hN
  obtain ⟨-, -, l2, l3, l4, -⟩ := rL l hl.1 hl.2
  have l5 : 0 ≤ (N (119 + (l * 7 + 4))) ∧ (N (119 + (l * 7 + 4))) ≤ 300 := ⟨l4.1, by have := l4.2; omega⟩
  have l4 := l5
  have rk9 : 0 ≤ (if (N (119 + (l * 7 + 0))) = -1 then (1 : Int) else 0) ∧ (if (N (119 + (l * 7 + 0))) = -1 then (1 : Int) else 0) ≤ 1 := by split <;> exact ⟨by decide, by decide⟩
  refine gm_sz (gm_p_load (pc := 0) (i := .aload_n 0) (sr := 2) (j := 0) (by decide +kernel) rfl rfl rfl) ?_
  refine gm_sz (gm_p_load (pc := 1) (i := .iload_n 1) (sr := 0) (j := 1) (by decide +kernel) rfl rfl rfl) ?_
  refine gm_c_virt (k := 1) (ci := 0) (mj := 143) (ix := 200) (pc := 2) (as := [gm_vi l]) (st := []) (d' := d - 1) (bc' := 1) (bs' := 6) (by decide +kernel) (by decide +kernel) (by decide +kernel) (by decide +kernel) (e0k hE (k := 1) (c := 0) (by decide +kernel)).1 (e0k hE (k := 1) (c := 0) (by decide +kernel)).2 (by decide) (by decide +kernel) (show 1 = gm_na 143 by decide +kernel) (fw_c1 fw_si) (show 2 ≤ gm_ml 143 by decide +kernel) (Nat.le_of_ble_eq_true rfl) (by omega) (by omega) (by omega) ?_
  refine nd_143 (i := l) (by omega) (by omega) (by omega) hE hT hN ⟨by omega, by omega⟩ (fun c2 => ?_) (fun c2 => ?_)
  · show gm_Wp X LX d _ _ 147 5 _ [] n K _ _ Q
    have c2 : 0 ≤ l ∧ l < N 4 := c2
    refine gm_sz (gm_p_load (pc := 5) (i := .aload_n 0) (sr := 2) (j := 0) (by decide +kernel) rfl rfl rfl) ?_
    refine gm_sz (gm_p_load (pc := 6) (i := .iload_n 2) (sr := 0) (j := 2) (by decide +kernel) rfl rfl rfl) ?_
    refine gm_c_virt (k := 1) (ci := 0) (mj := 129) (ix := 160) (pc := 7) (as := [gm_vi y]) (st := []) (d' := d - 1) (bc' := 1) (bs' := 6) (by decide +kernel) (by decide +kernel) (by decide +kernel) (by decide +kernel) (e0k hE (k := 1) (c := 0) (by decide +kernel)).1 (e0k hE (k := 1) (c := 0) (by decide +kernel)).2 (by decide) (by decide +kernel) (show 1 = gm_na 129 by decide +kernel) (fw_c1 fw_si) (show 2 ≤ gm_ml 129 by decide +kernel) (Nat.le_of_ble_eq_true rfl) (by omega) (by omega) (by omega) ?_
    refine nd_129 (i := y) (by omega) (by omega) (by omega) hi2 (fun c7 => ?_) (fun c7 => ?_)
    · show gm_Wp X LX d _ _ 147 10 _ [] n K _ _ Q
      have c7 : 0 ≤ y ∧ y ≤ 299 := c7
      refine gm_sz (gm_p_load (pc := 10) (i := .iload_n 2) (sr := 0) (j := 2) (by decide +kernel) rfl rfl rfl) ?_
      refine gm_sz (gm_p_load (pc := 11) (i := .aload_n 0) (sr := 2) (j := 0) (by decide +kernel) rfl rfl rfl) ?_
      refine gm_sz (fw_gr (pc := 12) (ix := 23) (ci := 0) (j := 3) (r := 3) (by decide +kernel) (e0k hE (k := 1) (c := 0) (by decide +kernel)) (by decide +kernel) (by decide +kernel) (e0r hE (k := 1) (j := 3) (r := 3) (by decide +kernel))) ?_
      refine gm_sz (fw_gr (pc := 15) (ix := 203) (ci := 1) (j := 12) (r := 10) (by decide +kernel) (e0k hE (k := 3) (c := 1) (by decide +kernel)) (by decide +kernel) (by decide +kernel) (e0r hE (k := 3) (j := 12) (r := 10) (by decide +kernel))) ?_
      refine gm_sz (gm_p_load (pc := 18) (i := .iload_n 1) (sr := 0) (j := 1) (by decide +kernel) rfl rfl rfl) ?_
      refine gm_sz (gm_p_const (pc := 19) (i := .iconst 3) (v := gm_vi 3) (by decide +kernel) (by decide +kernel)) ?_
      refine gm_c_virt (k := 10) (ci := 2) (mj := 10) (ix := 186) (pc := 20) (as := [gm_vi l, gm_vi 3]) (st := [gm_vi y]) (d' := d - 1) (bc' := 0) (bs' := 0) (by decide +kernel) (by decide +kernel) (by decide +kernel) (by decide +kernel) (e0k hE (k := 10) (c := 2) (by decide +kernel)).1 (e0k hE (k := 10) (c := 2) (by decide +kernel)).2 (by decide) (by decide +kernel) (show 2 = gm_na 10 by decide +kernel) (fw_c2 fw_si fw_si) (show 3 ≤ gm_ml 10 by decide +kernel) (Nat.le_of_ble_eq_true rfl) (by omega) (Nat.zero_le _) (Nat.zero_le _) ?_
      refine rw_get (s := N 4) (w := 7) (x := N (119 + (l * 7 + 3))) (e0k hE (k := 10) (c := 2) (by decide +kernel)) (e0a hE (k := 11) (q := (0, 168)) (by decide +kernel)) (e0r hE (k := 10) (j := 2) (r := 11) (by decide +kernel)) (by decide) (ti_let hT) (hT.1 (10, 1, 7) (by decide)) ⟨by omega, by omega⟩ ⟨by omega, by omega⟩ ⟨by omega, by omega⟩ ⟨by omega, by omega⟩ (ti_aL hT (by omega) (by omega)) ?_
      show gm_Wp X LX d _ _ 147 23 _ [gm_vi (N (119 + (l * 7 + 3))), gm_vi y] n K _ _ Q
      refine fw_ic (cc := .ge) (pc := 23) (off := 5) (by decide +kernel) (by decide) hi2 ⟨by omega, by omega⟩ (fun h23 => ?_) (fun h23 => ?_)
      · have h23 : (N (119 + (l * 7 + 3))) ≤ y := h23
        refine gm_sz (gm_p_load (pc := 28) (i := .aload_n 0) (sr := 2) (j := 0) (by decide +kernel) rfl rfl rfl) ?_
        refine gm_sz (fw_gr (pc := 29) (ix := 58) (ci := 0) (j := 9) (r := 206) (by decide +kernel) (e0k hE (k := 1) (c := 0) (by decide +kernel)) (by decide +kernel) (by decide +kernel) (e0r hE (k := 1) (j := 9) (r := 206) (by decide +kernel))) ?_
        refine gm_sz (gm_p_load (pc := 32) (i := .iload_n 1) (sr := 0) (j := 1) (by decide +kernel) rfl rfl rfl) ?_
        refine gm_c_virt (k := 206) (ci := 5) (mj := 27) (ix := 217) (pc := 33) (as := [gm_vi l]) (st := []) (d' := d - 1) (bc' := 0) (bs' := 0) (by decide +kernel) (by decide +kernel) (by decide +kernel) (by decide +kernel) (e0k hE (k := 206) (c := 5) (by decide +kernel)).1 (e0k hE (k := 206) (c := 5) (by decide +kernel)).2 (by decide) (by decide +kernel) (show 1 = gm_na 27 by decide +kernel) (fw_c1 fw_si) (show 2 ≤ gm_ml 27 by decide +kernel) (Nat.le_of_ble_eq_true rfl) (by omega) (Nat.zero_le _) (Nat.zero_le _) ?_
        refine wy_let206 (by omega) hE hT hN ⟨by omega, by omega⟩ ?_
        show gm_Wp X LX d _ _ 147 36 _ [] n K _ _ Q
        refine gm_sz (gm_p_load (pc := 36) (i := .aload_n 0) (sr := 2) (j := 0) (by decide +kernel) rfl rfl rfl) ?_
        refine gm_sz (fw_gr (pc := 37) (ix := 58) (ci := 0) (j := 9) (r := 206) (by decide +kernel) (e0k hE (k := 1) (c := 0) (by decide +kernel)) (by decide +kernel) (by decide +kernel) (e0r hE (k := 1) (j := 9) (r := 206) (by decide +kernel))) ?_
        refine gm_sz (gm_p_load (pc := 40) (i := .iload_n 2) (sr := 0) (j := 2) (by decide +kernel) rfl rfl rfl) ?_
        refine gm_c_virt (k := 206) (ci := 5) (mj := 148) (ix := 220) (pc := 41) (as := [gm_vi y]) (st := []) (d' := d - 1) (bc' := 0) (bs' := 0) (by decide +kernel) (by decide +kernel) (by decide +kernel) (by decide +kernel) (e0k hE (k := 206) (c := 5) (by decide +kernel)).1 (e0k hE (k := 206) (c := 5) (by decide +kernel)).2 (by decide) (by decide +kernel) (show 1 = gm_na 148 by decide +kernel) (fw_c1 fw_si) (show 2 ≤ gm_ml 148 by decide +kernel) (Nat.le_of_ble_eq_true rfl) (by omega) (Nat.zero_le _) (Nat.zero_le _) ?_
        refine wy_c148_206 (lane := (N (119 + (l * 7 + 2)))) (rock := (if (N (119 + (l * 7 + 0))) = -1 then 1 else 0)) (wo := -1) (r0 := (N (119 + (l * 7 + 4)))) (y0 := (N (119 + (l * 7 + 3)))) (lim := y) (by omega) hE (ti_fr (W := [(206, some 2), (206, some 5), (206, some 7), (206, some 3), (206, some 4), (206, some 6), (206, some 8)]) hT (fr_p (fr_p (fr_p (fr_p (fr_p (fr_p (fr_p fr_0 (Or.inr (by decide))) (Or.inr (by decide))) (Or.inr (by decide))) (Or.inr (by decide))) (Or.inr (by decide))) (Or.inr (by decide))) (Or.inr (by decide))) (by decide) (by decide +kernel)) hN hfw (hfw.2.1 [(206, some 2), (206, some 5), (206, some 7), (206, some 3), (206, some 4), (206, some 6), (206, some 8)] _ _ (by decide) (fr_p (fr_p (fr_p (fr_p (fr_p (fr_p (fr_p fr_0 (Or.inr (by decide))) (Or.inr (by decide))) (Or.inr (by decide))) (Or.inr (by decide))) (Or.inr (by decide))) (Or.inr (by decide))) (Or.inr (by decide))) hI) ((uM_ne (by omega)).trans ((uM_ne (by omega)).trans ((uM_ne (by omega)).trans ((uM_ne (by omega)).trans ((uM_ne (by omega)).trans ((uM_ne (by omega)).trans uM_at)))))) ((uM_ne (by omega)).trans ((uM_ne (by omega)).trans ((uM_ne (by omega)).trans uM_at))) ((uM_ne (by omega)).trans ((uM_ne (by omega)).trans uM_at)) ((uM_ne (by omega)).trans ((uM_ne (by omega)).trans ((uM_ne (by omega)).trans ((uM_ne (by omega)).trans ((uM_ne (by omega)).trans uM_at))))) ((uM_ne (by omega)).trans uM_at) ((uM_ne (by omega)).trans ((uM_ne (by omega)).trans ((uM_ne (by omega)).trans ((uM_ne (by omega)).trans uM_at)))) l3.1 l2 rk9 ⟨by decide, by decide⟩ l4 (by omega) (by omega) (fun M41 hf41 hI41 g5 g6 g7 => ?_)
        show gm_Wp X LX d _ _ 147 44 _ [] n K _ _ Q
        have hw9 := nwy_b (lane := (N (119 + (l * 7 + 2)))) (rock := (if (N (119 + (l * 7 + 0))) = -1 then 1 else 0)) (wo := -1) hN hfw.1 (fun y a b => (hT.2.2.1 y a b).2.1) l3.1 l4 (y - (N (119 + (l * 7 + 3)))).toNat (by omega)
        refine gm_sz (gm_p_load (pc := 44) (i := .aload_n 0) (sr := 2) (j := 0) (by decide +kernel) rfl rfl rfl) ?_
        refine gm_sz (fw_gr (pc := 45) (ix := 58) (ci := 0) (j := 9) (r := 206) (by decide +kernel) (e0k hE (k := 1) (c := 0) (by decide +kernel)) (by decide +kernel) (by decide +kernel) (e0r hE (k := 1) (j := 9) (r := 206) (by decide +kernel))) ?_
        refine gm_sz (fw_gi (pc := 48) (ix := 223) (ci := 5) (j := 5) (x := (nwy N h φ ((N (119 + (l * 7 + 2)))) (if (N (119 + (l * 7 + 0))) = -1 then 1 else 0) (-1) ((N (119 + (l * 7 + 3)))) ((N (119 + (l * 7 + 4)))) (y - (N (119 + (l * 7 + 3)))).toNat).1) (by decide +kernel) (e0k hE (k := 206) (c := 5) (by decide +kernel)) (by decide +kernel) (by decide +kernel) g5) ?_
        refine gm_sz (gm_p_load (pc := 51) (i := .aload_n 0) (sr := 2) (j := 0) (by decide +kernel) rfl rfl rfl) ?_
        refine gm_sz (fw_gr (pc := 52) (ix := 23) (ci := 0) (j := 3) (r := 3) (by decide +kernel) (e0k hE (k := 1) (c := 0) (by decide +kernel)) (by decide +kernel) (by decide +kernel) (e0r hE (k := 1) (j := 3) (r := 3) (by decide +kernel))) ?_
        refine gm_sz (fw_gi (pc := 55) (ix := 226) (ci := 1) (j := 1) (x := N 1) (by decide +kernel) (e0k hE (k := 3) (c := 1) (by decide +kernel)) (by decide +kernel) (by decide +kernel) ((fr_c hf41 (by decide)).trans ((uM_ne (by omega)).trans ((uM_ne (by omega)).trans ((uM_ne (by omega)).trans ((uM_ne (by omega)).trans ((uM_ne (by omega)).trans ((uM_ne (by omega)).trans ((uM_ne (by omega)).trans (ti_las hT)))))))))) ?_
        refine gm_sz (gm_p_min (pc := 58) (ix := 229) (x := (nwy N h φ ((N (119 + (l * 7 + 2)))) (if (N (119 + (l * 7 + 0))) = -1 then 1 else 0) (-1) ((N (119 + (l * 7 + 3)))) ((N (119 + (l * 7 + 4)))) (y - (N (119 + (l * 7 + 3)))).toNat).1) (y := N 1) (by decide +kernel) (by decide +kernel) (gm_w_id (by omega) (by omega)) (gm_w_id (by omega) (by omega)) (Nat.le_of_ble_eq_true rfl) (by omega)) ?_
        exact gm_r_int (pc := 61) (by decide +kernel) (Or.inl (by decide +kernel)) (kv (by omega) (by omega) _)
      · have h23 : ¬ (N (119 + (l * 7 + 3))) ≤ y := h23
        refine gm_sz (gm_p_const (pc := 26) (i := .iconst (-1)) (v := gm_vi (-1)) (by decide +kernel) (by decide +kernel)) ?_
        exact gm_r_int (pc := 27) (by decide +kernel) (Or.inl (by decide +kernel)) (kn (by omega) (by omega))
    · show Q (.inr 0) n K _ _
      have c7 : ¬ (0 ≤ y ∧ y ≤ 299) := c7
      exact (k0 (by omega))
  · show Q (.inr 3) n K _ _
    have c2 : ¬ (0 ≤ l ∧ l < N 4) := c2
    exact (absurd hl (by omega))
theorem cl_wherex (hd : 20 ≤ d) (hbc : 4 ≤ bc) (hbs : 24 ≤ bs) (hE : E0 n K R) (hT : TI N h sp M) (hN : NR N) (hl : ¬ (0 ≤ l ∧ l < N 4)) (hi : gm_ir l) (hi2 : gm_ir y) (k3 : Q (.inr 3) n K R M) : gm_Wp X LX d bc bs 147 0 (gm_ent 147 [gm_vr 1, gm_vi l, gm_vi y]) [] n K R M Q := by
  obtain ⟨⟨⟨a0, b0⟩, ⟨a1, b1⟩, ⟨a10, b10⟩, ⟨a11, b11⟩, ⟨a12, b12⟩, a9, b9⟩, ⟨⟨a2, b2⟩, ⟨a5, b5⟩, ⟨a3, b3⟩, ⟨a4, b4⟩, ⟨a6, b6⟩, ⟨a14, b14⟩, ⟨a7, b7⟩, a13, b13⟩, rF, rP, rL⟩ := id hN
  refine gm_sz (gm_p_load (pc := 0) (i := .aload_n 0) (sr := 2) (j := 0) (by decide +kernel) rfl rfl rfl) ?_
  refine gm_sz (gm_p_load (pc := 1) (i := .iload_n 1) (sr := 0) (j := 1) (by decide +kernel) rfl rfl rfl) ?_
  refine gm_c_virt (k := 1) (ci := 0) (mj := 143) (ix := 200) (pc := 2) (as := [gm_vi l]) (st := []) (d' := d - 1) (bc' := 1) (bs' := 6) (by decide +kernel) (by decide +kernel) (by decide +kernel) (by decide +kernel) (e0k hE (k := 1) (c := 0) (by decide +kernel)).1 (e0k hE (k := 1) (c := 0) (by decide +kernel)).2 (by decide) (by decide +kernel) (show 1 = gm_na 143 by decide +kernel) (fw_c1 fw_si) (show 2 ≤ gm_ml 143 by decide +kernel) (Nat.le_of_ble_eq_true rfl) (by omega) (by omega) (by omega) ?_
  refine nd_143 (i := l) (by omega) (by omega) (by omega) hE hT hN hi (fun c2 => ?_) (fun c2 => ?_)
  · show gm_Wp X LX d _ _ 147 5 _ [] n K _ _ Q
    have c2 : 0 ≤ l ∧ l < N 4 := c2
    exact absurd ⟨by omega, by omega⟩ hl
  · show Q (.inr 3) n K _ _
    have c2 : ¬ (0 ≤ l ∧ l < N 4) := c2
    exact k3
theorem re_where (hd : 20 ≤ d) (hE : E0 n K R) (hT : TR N h M) (hN : NR N) (hfw : FLR X LX n K R N h FI φ) (hI : FI M) (hl : 0 ≤ l ∧ l < N 4) (hi2 : gm_ir y) (kn : 0 ≤ y ∧ y ≤ 299 → y < (N (119 + (l * 7 + 3))) → ∀ M2, M2 226 0 = 0 → Q (.inl (some (gm_vi (-1)))) n K R M2) (kv : 0 ≤ y ∧ y ≤ 299 → ¬ y < (N (119 + (l * 7 + 3))) → ∀ M2, M2 226 0 = 0 → Q (.inl (some (gm_vi (min (nwy N h φ ((N (119 + (l * 7 + 2)))) (if (N (119 + (l * 7 + 0))) = -1 then 1 else 0) (-1) ((N (119 + (l * 7 + 3)))) ((N (119 + (l * 7 + 4)))) (y - (N (119 + (l * 7 + 3)))).toNat).1 (N 1))))) n K R M2) (k2 : ¬ (0 ≤ y ∧ y ≤ 299) → ∀ M2, M2 226 0 = 2 → Q (.inl (some (gm_vi 0))) n K R M2) : gm_Wp X LX d bc bs 313 0 (gm_ent 313 [gm_vr 226, gm_vi l, gm_vi y]) [] n K R M Q := by
  obtain ⟨⟨⟨a0, b0⟩, ⟨a1, b1⟩, ⟨a10, b10⟩, ⟨a11, b11⟩, ⟨a12, b12⟩, a9, b9⟩, ⟨⟨a2, b2⟩, ⟨a5, b5⟩, ⟨a3, b3⟩, ⟨a4, b4⟩, ⟨a6, b6⟩, ⟨a14, b14⟩, ⟨a7, b7⟩, a13, b13⟩, rF, rP, rL⟩ := id hN
  obtain ⟨-, -, l2, l3, l4, -⟩ := rL l hl.1 hl.2
  have l5 : 0 ≤ (N (119 + (l * 7 + 4))) ∧ (N (119 + (l * 7 + 4))) ≤ 300 := ⟨l4.1, by have := l4.2; omega⟩
  have l4 := l5
  have rk9 : 0 ≤ (if (N (119 + (l * 7 + 0))) = -1 then (1 : Int) else 0) ∧ (if (N (119 + (l * 7 + 0))) = -1 then (1 : Int) else 0) ≤ 1 := by split <;> exact ⟨by decide, by decide⟩
  refine gm_sz (gm_p_load (pc := 0) (i := .aload_n 0) (sr := 2) (j := 0) (by decide +kernel) rfl rfl rfl) ?_
  refine gm_sz (gm_p_const (pc := 1) (i := .iconst 0) (v := gm_vi 0) (by decide +kernel) (by decide +kernel)) ?_
  refine gm_sz (fw_pi (pc := 2) (ix := 3) (ci := 11) (j := 0) (M' := gm_uM M 226 0 0) (by decide +kernel) (e0k hE (k := 226) (c := 11) (by decide +kernel)) (by decide +kernel) (by decide +kernel) (by decide +kernel) rfl) ?_
  refine gm_sz (gm_p_load (pc := 5) (i := .aload_n 0) (sr := 2) (j := 0) (by decide +kernel) rfl rfl rfl) ?_
  refine gm_sz (gm_p_load (pc := 6) (i := .aload_n 0) (sr := 2) (j := 0) (by decide +kernel) rfl rfl rfl) ?_
  refine gm_sz (gm_p_load (pc := 7) (i := .iload_n 1) (sr := 0) (j := 1) (by decide +kernel) rfl rfl rfl) ?_
  refine gm_c_virt (k := 226) (ci := 11) (mj := 309) (ix := 405) (pc := 8) (as := [gm_vi l]) (st := [gm_vr 226]) (d' := d - 1) (bc' := 0) (bs' := 0) (by decide +kernel) (by decide +kernel) (by decide +kernel) (by decide +kernel) (e0k hE (k := 226) (c := 11) (by decide +kernel)).1 (e0k hE (k := 226) (c := 11) (by decide +kernel)).2 (by decide) (by decide +kernel) (show 1 = gm_na 309 by decide +kernel) (fw_c1 fw_si) (show 2 ≤ gm_ml 309 by decide +kernel) (Nat.le_of_ble_eq_true rfl) (by omega) (Nat.zero_le _) (Nat.zero_le _) ?_
  refine no_309 (i := l) (by omega) hE (tr_fr (W := [(226, some 0)]) hT (fr_p fr_0 (Or.inr (by decide))) (by decide)) hN ⟨by omega, by omega⟩ (fun n8 => ?_) (fun n8 => ?_)
  · show gm_Wp X LX d _ _ 313 11 _ [gm_vi 1, gm_vr 226] n K _ _ Q
    have n8 : ¬ (0 ≤ l ∧ l < N 4) := n8
    refine gm_sz (gm_p_const (pc := 11) (i := .iconst 1) (v := gm_vi 1) (by decide +kernel) (by decide +kernel)) ?_
    refine gm_c_virt (k := 226) (ci := 11) (mj := 282) (ix := 300) (pc := 12) (as := [gm_vi 1, gm_vi 1]) (st := []) (d' := d - 1) (bc' := 0) (bs' := 0) (by decide +kernel) (by decide +kernel) (by decide +kernel) (by decide +kernel) (e0k hE (k := 226) (c := 11) (by decide +kernel)).1 (e0k hE (k := 226) (c := 11) (by decide +kernel)).2 (by decide) (by decide +kernel) (show 2 = gm_na 282 by decide +kernel) (fw_c2 fw_si fw_si) (show 3 ≤ gm_ml 282 by decide +kernel) (Nat.le_of_ble_eq_true rfl) (by omega) (Nat.zero_le _) (Nat.zero_le _) ?_
    refine tf_1 hE ?_
    show gm_Wp X LX d _ _ 313 15 _ [gm_vi 1] n K _ _ Q
    refine fw_iftd (cc := .ne) (pc := 15) (off := 15) (by decide +kernel) (by decide) ⟨by decide, by decide⟩ (by decide) ?_
    refine gm_sz (gm_p_const (pc := 30) (i := .iconst 0) (v := gm_vi 0) (by decide +kernel) (by decide +kernel)) ?_
    exact absurd hl (by omega)
  · show gm_Wp X LX d _ _ 313 11 _ [gm_vi 0, gm_vr 226] n K _ _ Q
    have n8 : 0 ≤ l ∧ l < N 4 := n8
    refine gm_sz (gm_p_const (pc := 11) (i := .iconst 1) (v := gm_vi 1) (by decide +kernel) (by decide +kernel)) ?_
    refine gm_c_virt (k := 226) (ci := 11) (mj := 282) (ix := 300) (pc := 12) (as := [gm_vi 0, gm_vi 1]) (st := []) (d' := d - 1) (bc' := 0) (bs' := 0) (by decide +kernel) (by decide +kernel) (by decide +kernel) (by decide +kernel) (e0k hE (k := 226) (c := 11) (by decide +kernel)).1 (e0k hE (k := 226) (c := 11) (by decide +kernel)).2 (by decide) (by decide +kernel) (show 2 = gm_na 282 by decide +kernel) (fw_c2 fw_si fw_si) (show 3 ≤ gm_ml 282 by decide +kernel) (Nat.le_of_ble_eq_true rfl) (by omega) (Nat.zero_le _) (Nat.zero_le _) ?_
    refine tf_0 hE ?_
    show gm_Wp X LX d _ _ 313 15 _ [gm_vi 0] n K _ _ Q
    refine fw_iffd (cc := .ne) (pc := 15) (off := 15) (by decide +kernel) (by decide) ⟨by decide, by decide⟩ (by decide) ?_
    refine gm_sz (gm_p_load (pc := 18) (i := .aload_n 0) (sr := 2) (j := 0) (by decide +kernel) rfl rfl rfl) ?_
    refine gm_sz (gm_p_load (pc := 19) (i := .iload_n 2) (sr := 0) (j := 2) (by decide +kernel) rfl rfl rfl) ?_
    refine gm_c_stat (mj := 285) (ix := 353) (pc := 20) (as := [gm_vi y]) (st := [gm_vr 226]) (d' := d - 1) (bc' := 0) (bs' := 0) (by decide +kernel) (by decide +kernel) (by decide +kernel) (by decide +kernel) (show 1 = gm_na 285 by decide +kernel) (fw_c1 fw_si) (show 1 ≤ gm_ml 285 by decide +kernel) (Nat.le_of_ble_eq_true rfl) (by omega) (Nat.zero_le _) (Nat.zero_le _) ?_
    refine no_285 (i := y) (by omega) hi2 (fun n20 => ?_) (fun n20 => ?_)
    · show gm_Wp X LX d _ _ 313 23 _ [gm_vi 1, gm_vr 226] n K _ _ Q
      have n20 : ¬ (0 ≤ y ∧ y ≤ 299) := n20
      refine gm_sz (gm_p_const (pc := 23) (i := .iconst 2) (v := gm_vi 2) (by decide +kernel) (by decide +kernel)) ?_
      refine gm_c_virt (k := 226) (ci := 11) (mj := 282) (ix := 300) (pc := 24) (as := [gm_vi 1, gm_vi 2]) (st := []) (d' := d - 1) (bc' := 0) (bs' := 0) (by decide +kernel) (by decide +kernel) (by decide +kernel) (by decide +kernel) (e0k hE (k := 226) (c := 11) (by decide +kernel)).1 (e0k hE (k := 226) (c := 11) (by decide +kernel)).2 (by decide) (by decide +kernel) (show 2 = gm_na 282 by decide +kernel) (fw_c2 fw_si fw_si) (show 3 ≤ gm_ml 282 by decide +kernel) (Nat.le_of_ble_eq_true rfl) (by omega) (Nat.zero_le _) (Nat.zero_le _) ?_
      refine tf_1 hE ?_
      show gm_Wp X LX d _ _ 313 27 _ [gm_vi 1] n K _ _ Q
      refine fw_iffd (cc := .eq) (pc := 27) (off := 5) (by decide +kernel) (by decide) ⟨by decide, by decide⟩ (by decide) ?_
      refine gm_sz (gm_p_const (pc := 30) (i := .iconst 0) (v := gm_vi 0) (by decide +kernel) (by decide +kernel)) ?_
      exact gm_r_int (pc := 31) (by decide +kernel) (Or.inl (by decide +kernel)) (k2 (by omega) _ uM_at)
    · show gm_Wp X LX d _ _ 313 23 _ [gm_vi 0, gm_vr 226] n K _ _ Q
      have n20 : 0 ≤ y ∧ y ≤ 299 := n20
      refine gm_sz (gm_p_const (pc := 23) (i := .iconst 2) (v := gm_vi 2) (by decide +kernel) (by decide +kernel)) ?_
      refine gm_c_virt (k := 226) (ci := 11) (mj := 282) (ix := 300) (pc := 24) (as := [gm_vi 0, gm_vi 2]) (st := []) (d' := d - 1) (bc' := 0) (bs' := 0) (by decide +kernel) (by decide +kernel) (by decide +kernel) (by decide +kernel) (e0k hE (k := 226) (c := 11) (by decide +kernel)).1 (e0k hE (k := 226) (c := 11) (by decide +kernel)).2 (by decide) (by decide +kernel) (show 2 = gm_na 282 by decide +kernel) (fw_c2 fw_si fw_si) (show 3 ≤ gm_ml 282 by decide +kernel) (Nat.le_of_ble_eq_true rfl) (by omega) (Nat.zero_le _) (Nat.zero_le _) ?_
      refine tf_0 hE ?_
      show gm_Wp X LX d _ _ 313 27 _ [gm_vi 0] n K _ _ Q
      refine fw_iftd (cc := .eq) (pc := 27) (off := 5) (by decide +kernel) (by decide) ⟨by decide, by decide⟩ (by decide) ?_
      refine gm_sz (gm_p_load (pc := 32) (i := .aload_n 0) (sr := 2) (j := 0) (by decide +kernel) rfl rfl rfl) ?_
      refine gm_sz (gm_p_load (pc := 33) (i := .iload_n 1) (sr := 0) (j := 1) (by decide +kernel) rfl rfl rfl) ?_
      refine gm_sz (gm_p_const (pc := 34) (i := .iconst (-1)) (v := gm_vi (-1)) (by decide +kernel) (by decide +kernel)) ?_
      refine gm_c_virt (k := 226) (ci := 11) (mj := 305) (ix := 381) (pc := 35) (as := [gm_vi l, gm_vi (-1)]) (st := []) (d' := d - 1) (bc' := 0) (bs' := 0) (by decide +kernel) (by decide +kernel) (by decide +kernel) (by decide +kernel) (e0k hE (k := 226) (c := 11) (by decide +kernel)).1 (e0k hE (k := 226) (c := 11) (by decide +kernel)).2 (by decide) (by decide +kernel) (show 2 = gm_na 305 by decide +kernel) (fw_c2 fw_si fw_si) (show 3 ≤ gm_ml 305 by decide +kernel) (Nat.le_of_ble_eq_true rfl) (by omega) (Nat.zero_le _) (Nat.zero_le _) ?_
      refine re_c305 (l := l) (wo := (-1)) (by omega) hE (tr_fr (W := [(226, some 0)]) hT (fr_p fr_0 (Or.inr (by decide))) (by decide)) hN hfw (hfw.2.1 [(226, some 0)] _ _ (by decide) (fr_p fr_0 (Or.inr (by decide))) hI) ⟨by omega, by omega⟩ ⟨by decide, by decide⟩ (fun M35 hf35 hI35 hr35 => ?_)
      show gm_Wp X LX d _ _ 313 38 _ [] n K _ _ Q
      have hr35 : rrun N h φ ((N (119 + (l * 7 + 2)))) (if (N (119 + (l * 7 + 0))) = -1 then 1 else 0) (-1) ((N (119 + (l * 7 + 3)))) ((N (119 + (l * 7 + 4)))) M35 := hr35
      refine gm_sz (gm_p_load (pc := 38) (i := .aload_n 0) (sr := 2) (j := 0) (by decide +kernel) rfl rfl rfl) ?_
      refine gm_sz (fw_gr (pc := 39) (ix := 45) (ci := 11) (j := 27) (r := 236) (by decide +kernel) (e0k hE (k := 226) (c := 11) (by decide +kernel)) (by decide +kernel) (by decide +kernel) (e0r hE (k := 226) (j := 27) (r := 236) (by decide +kernel))) ?_
      refine gm_sz (gm_p_load (pc := 42) (i := .iload_n 2) (sr := 0) (j := 2) (by decide +kernel) rfl rfl rfl) ?_
      refine gm_sz (fw_ia (pc := 43) (k := 236) (len := 300) (e0 := y) (x := M35 236 y) (by decide +kernel) (e0a hE (k := 236) (q := (0, 300)) (by decide +kernel)).1 (e0a hE (k := 236) (q := (0, 300)) (by decide +kernel)).2 (by decide) ⟨by omega, by omega⟩ rfl) ?_
      by_cases y3 : y < (N (119 + (l * 7 + 3)))
      · rw [show M35 236 y = -1 from (hr35.1 y (by omega) y3).1]
        exact gm_r_int (pc := 44) (by decide +kernel) (Or.inl (by decide +kernel)) (kn (by omega) y3 _ ((fr_j hf35 (by decide)).trans uM_at))
      · have hk9 := (hr35.2.1 (y - (N (119 + (l * 7 + 3)))).toNat (by omega)).1
        rw [show (N (119 + (l * 7 + 3))) + ((y - (N (119 + (l * 7 + 3)))).toNat : Int) = y by omega] at hk9
        rw [show M35 236 y = min (nwy N h φ ((N (119 + (l * 7 + 2)))) (if (N (119 + (l * 7 + 0))) = -1 then 1 else 0) (-1) ((N (119 + (l * 7 + 3)))) ((N (119 + (l * 7 + 4)))) (y - (N (119 + (l * 7 + 3)))).toNat).1 (N 1) from hk9]
        exact gm_r_int (pc := 44) (by decide +kernel) (Or.inl (by decide +kernel)) (kv (by omega) y3 _ ((fr_j hf35 (by decide)).trans uM_at))
theorem re_wherex (hd : 20 ≤ d) (hE : E0 n K R) (hT : TR N h M) (hN : NR N) (hl : ¬ (0 ≤ l ∧ l < N 4)) (hi : gm_ir l) (hi2 : gm_ir y) (k1 : ∀ M2, M2 226 0 = 1 → Q (.inl (some (gm_vi 0))) n K R M2) : gm_Wp X LX d bc bs 313 0 (gm_ent 313 [gm_vr 226, gm_vi l, gm_vi y]) [] n K R M Q := by
  obtain ⟨⟨⟨a0, b0⟩, ⟨a1, b1⟩, ⟨a10, b10⟩, ⟨a11, b11⟩, ⟨a12, b12⟩, a9, b9⟩, ⟨⟨a2, b2⟩, ⟨a5, b5⟩, ⟨a3, b3⟩, ⟨a4, b4⟩, ⟨a6, b6⟩, ⟨a14, b14⟩, ⟨a7, b7⟩, a13, b13⟩, rF, rP, rL⟩ := id hN
  refine gm_sz (gm_p_load (pc := 0) (i := .aload_n 0) (sr := 2) (j := 0) (by decide +kernel) rfl rfl rfl) ?_
  refine gm_sz (gm_p_const (pc := 1) (i := .iconst 0) (v := gm_vi 0) (by decide +kernel) (by decide +kernel)) ?_
  refine gm_sz (fw_pi (pc := 2) (ix := 3) (ci := 11) (j := 0) (M' := gm_uM M 226 0 0) (by decide +kernel) (e0k hE (k := 226) (c := 11) (by decide +kernel)) (by decide +kernel) (by decide +kernel) (by decide +kernel) rfl) ?_
  refine gm_sz (gm_p_load (pc := 5) (i := .aload_n 0) (sr := 2) (j := 0) (by decide +kernel) rfl rfl rfl) ?_
  refine gm_sz (gm_p_load (pc := 6) (i := .aload_n 0) (sr := 2) (j := 0) (by decide +kernel) rfl rfl rfl) ?_
  refine gm_sz (gm_p_load (pc := 7) (i := .iload_n 1) (sr := 0) (j := 1) (by decide +kernel) rfl rfl rfl) ?_
  refine gm_c_virt (k := 226) (ci := 11) (mj := 309) (ix := 405) (pc := 8) (as := [gm_vi l]) (st := [gm_vr 226]) (d' := d - 1) (bc' := 0) (bs' := 0) (by decide +kernel) (by decide +kernel) (by decide +kernel) (by decide +kernel) (e0k hE (k := 226) (c := 11) (by decide +kernel)).1 (e0k hE (k := 226) (c := 11) (by decide +kernel)).2 (by decide) (by decide +kernel) (show 1 = gm_na 309 by decide +kernel) (fw_c1 fw_si) (show 2 ≤ gm_ml 309 by decide +kernel) (Nat.le_of_ble_eq_true rfl) (by omega) (Nat.zero_le _) (Nat.zero_le _) ?_
  refine no_309 (i := l) (by omega) hE (tr_fr (W := [(226, some 0)]) hT (fr_p fr_0 (Or.inr (by decide))) (by decide)) hN hi (fun n8 => ?_) (fun n8 => ?_)
  · show gm_Wp X LX d _ _ 313 11 _ [gm_vi 1, gm_vr 226] n K _ _ Q
    have n8 : ¬ (0 ≤ l ∧ l < N 4) := n8
    refine gm_sz (gm_p_const (pc := 11) (i := .iconst 1) (v := gm_vi 1) (by decide +kernel) (by decide +kernel)) ?_
    refine gm_c_virt (k := 226) (ci := 11) (mj := 282) (ix := 300) (pc := 12) (as := [gm_vi 1, gm_vi 1]) (st := []) (d' := d - 1) (bc' := 0) (bs' := 0) (by decide +kernel) (by decide +kernel) (by decide +kernel) (by decide +kernel) (e0k hE (k := 226) (c := 11) (by decide +kernel)).1 (e0k hE (k := 226) (c := 11) (by decide +kernel)).2 (by decide) (by decide +kernel) (show 2 = gm_na 282 by decide +kernel) (fw_c2 fw_si fw_si) (show 3 ≤ gm_ml 282 by decide +kernel) (Nat.le_of_ble_eq_true rfl) (by omega) (Nat.zero_le _) (Nat.zero_le _) ?_
    refine tf_1 hE ?_
    show gm_Wp X LX d _ _ 313 15 _ [gm_vi 1] n K _ _ Q
    refine fw_iftd (cc := .ne) (pc := 15) (off := 15) (by decide +kernel) (by decide) ⟨by decide, by decide⟩ (by decide) ?_
    refine gm_sz (gm_p_const (pc := 30) (i := .iconst 0) (v := gm_vi 0) (by decide +kernel) (by decide +kernel)) ?_
    exact gm_r_int (pc := 31) (by decide +kernel) (Or.inl (by decide +kernel)) (k1 _ uM_at)
  · show gm_Wp X LX d _ _ 313 11 _ [gm_vi 0, gm_vr 226] n K _ _ Q
    have n8 : 0 ≤ l ∧ l < N 4 := n8
    refine gm_sz (gm_p_const (pc := 11) (i := .iconst 1) (v := gm_vi 1) (by decide +kernel) (by decide +kernel)) ?_
    refine gm_c_virt (k := 226) (ci := 11) (mj := 282) (ix := 300) (pc := 12) (as := [gm_vi 0, gm_vi 1]) (st := []) (d' := d - 1) (bc' := 0) (bs' := 0) (by decide +kernel) (by decide +kernel) (by decide +kernel) (by decide +kernel) (e0k hE (k := 226) (c := 11) (by decide +kernel)).1 (e0k hE (k := 226) (c := 11) (by decide +kernel)).2 (by decide) (by decide +kernel) (show 2 = gm_na 282 by decide +kernel) (fw_c2 fw_si fw_si) (show 3 ≤ gm_ml 282 by decide +kernel) (Nat.le_of_ble_eq_true rfl) (by omega) (Nat.zero_le _) (Nat.zero_le _) ?_
    refine tf_0 hE ?_
    show gm_Wp X LX d _ _ 313 15 _ [gm_vi 0] n K _ _ Q
    refine fw_iffd (cc := .ne) (pc := 15) (off := 15) (by decide +kernel) (by decide) ⟨by decide, by decide⟩ (by decide) ?_
    exact absurd ⟨by omega, by omega⟩ hl
end WD52
section WD52B
variable {X : Int → Int} {LX d bc bs n g z g1 : Nat} {la : Nat → Nat} {K : gm_K} {R : gm_R} {M : gm_M} {N : Int → Int} {lw : Option (List lln)} {A : List (Int → Int)} {im : Option ((Int → Int) × Option (List lln))} {t w : Int} {f : Int → Int} {a b c e : Int} {NC : Nat} {C Ln G : Int → Int}
/-- where a letter is after so many years, and how deep -/
noncomputable def nwl (lw : Option (List lln)) (N : Int → Int) (l : Int) (k : Nat) : Int × Int := nwy N (hts (N 13)) (aphi lw N (hts (N 13))) ((N (119 + (l * 7 + 2)))) (if (N (119 + (l * 7 + 0))) = -1 then 1 else 0) (-1) ((N (119 + (l * 7 + 3)))) ((N (119 + (l * 7 + 4)))) k
noncomputable def q_where (lw : Option (List lln)) (N : Int → Int) (a : Int) (b : Int) : Int × Int := tif (¬ (0 ≤ a ∧ a < N 4)) (1, 0) (tif (¬ (0 ≤ b ∧ b ≤ 299)) (2, 0) (tif (b < (N (119 + (a * 7 + 3)))) (0, -1) (0, min (nwl lw N a (b - (N (119 + (a * 7 + 3)))).toNat).1 (N 1))))
theorem iq_where : gm_ir (q_where lw N a b).1 := by
  unfold q_where
  exact tif_ir (show (-2147483648 : Int) ≤ 1 ∧ (1 : Int) < 2147483648 from by decide) (tif_ir (show (-2147483648 : Int) ≤ 2 ∧ (2 : Int) < 2147483648 from by decide) (tif_ir (show (-2147483648 : Int) ≤ 0 ∧ (0 : Int) < 2147483648 from by decide) ((show (-2147483648 : Int) ≤ 0 ∧ (0 : Int) < 2147483648 from by decide))))
theorem cq_where (hd : 24 ≤ d) (hbc : 4 ≤ bc) (hbs : 24 ≤ bs) (hE : E0 n K R) (hn : 245 ≤ n) (hK : K 245 = (2, 1)) (hc : CC n K R NC C Ln G lw) (hL : LBX NC C Ln lw M) (hG : GJ N) (hV : CLV N lw A im t w f M) (ia : gm_ir a) (ib : gm_ir b) : gm_Wp X LX d bc bs 147 0 (gm_ent 147 [gm_vr 1, gm_vi a, gm_vi b]) [] n K R M (hQ [(3, 1), (0, 2)] (CF (q_where lw N a b).1 (oV (q_where lw N a b).1 (q_where lw N a b).2))) := by
  by_cases hl : 0 ≤ a ∧ a < N 4
  · exact cl_where (Nat.le_trans (by decide) hd) hbc hbs hE hV.1.1 hG.1.1 (flw_a hE hc hG.1.1 hG.1.2.1) (fic_of hL hV) hl ib (fun hy h3 => hQ_v hn hK (cf_v hK ((tif_f (fun hh => hh hl)).trans ((tif_f (fun hh => hh hy)).trans (tif_t h3))) rfl)) (fun hy h3 M2 => hQ_v hn hK (cf_v hK ((tif_f (fun hh => hh hl)).trans ((tif_f (fun hh => hh hy)).trans (tif_f h3))) rfl)) (fun hy => hQ_x hn hK (c := 2) (by decide) (cf_x hK ((tif_f (fun hh => hh hl)).trans (tif_t hy)) (by decide)))
  · exact cl_wherex (Nat.le_trans (by decide) hd) hbc hbs hE hV.1.1 hG.1.1 hl ia ib (hQ_x hn hK (c := 1) (by decide) (cf_x hK (tif_t hl) (by decide)))
theorem rq_where (hd : 24 ≤ d) (hE : E0 n K R) (hT : jT fun j => M 227 (395 + j)) (hS6 : NSb 6 N) (hG : GJ N) (hV : RFV N lw A im t w f M) (ia : gm_ir a) (ib : gm_ir b) : gm_Wp X LX d bc bs 313 0 (gm_ent 313 [gm_vr 226, gm_vi a, gm_vi b]) [] n K R M (RF (q_where lw N a b).1 (q_where lw N a b).2) := by
  have k226 := k226 hE
  by_cases hl : 0 ≤ a ∧ a < N 4
  · exact re_where (Nat.le_trans (by decide) hd) hE hV.1.1 hG.1.1 (flr_a hE (lawg_of hV.1.2.1 hT) hgeo_r hG.1.1 hG.1.1 hS6) ⟨hV.2.1, fun _ _ => rfl⟩ hl ib (fun hy h3 M2 h0 => rf_e k226 ((tif_f (fun hh => hh hl)).trans ((tif_f (fun hh => hh hy)).trans (tif_t h3))) (fun _ => rfl) h0) (fun hy h3 M2 h0 => rf_e k226 ((tif_f (fun hh => hh hl)).trans ((tif_f (fun hh => hh hy)).trans (tif_f h3))) (fun _ => rfl) h0) (fun hy M2 h0 => rf_e k226 ((tif_f (fun hh => hh hl)).trans (tif_t hy)) (fun e => absurd e (by decide)) h0)
  · exact re_wherex (Nat.le_trans (by decide) hd) hE hV.1.1 hG.1.1 hl ia ib (fun M2 h0 => rf_e k226 (tif_t hl) (fun e => absurd e (by decide)) h0)
theorem fw_where (hb : bg g la K R M) (hR : REL la K M N lw A im t w f) (ia : gm_ir a) (ib : gm_ir b) : ∀ z g1, bs_ok la z g1 → ¬ z = 100003 → gm_Wp X LX 279 6 600 146 0 (gm_ent 146 (gm_vr 1 :: bc_as [a, b] true)) [] (245 + 4 * g1) (bs_K la K) (bs_R z g1) (bs_M la M) (CF (q_where lw N a b).1 (oV (q_where lw N a b).1 (q_where lw N a b).2)) := by
  intro z g1 hz hz3
  have hE := e0_w hb hz
  obtain ⟨NC, C, Ln, hcc, hlb⟩ := cc_w hb hz hz3 hR.2.1.1 hR.2.2.2.1.2.1
  exact hl_146 (d := 278) (k1_e hE) (cq_where (by decide) (by decide) (by decide) hE (k245 hE).1 (k245 hE).2 hcc hlb hR.1.1 (clv_w hb hR.2.2.1) ia ib)
theorem fm_where (hb : bg g la K R M) (hR : REL la K M N lw A im t w f) (ia : gm_ir a) (ib : gm_ir b) : gm_Wp X LX 279 6 600 313 0 (gm_ent 313 (gm_vr 226 :: [a, b].map gm_vi)) [] 245 (bs_K la K) (bs_R 100003 0) (bs_M la M) (RF (q_where lw N a b).1 (q_where lw N a b).2) := rq_where (by decide) (e0_w hb (Or.inr (Or.inl ⟨rfl, rfl⟩))) (gJ_w hb) (ns6 (bs_F0 (z := 100003) hb) (rfv_w (la := la) hR.2.2.2).1.1.1 hR.1.1.1.1) hR.1.1 (rfv_w hR.2.2.2) ia ib
end WD52B
end
/-! 7d00.ls -/
section
/-! THE LAW'S CALLS: their rows, by name (laid by wip/rel/gq.py). -/
noncomputable def ax_feed : List ck_Sum := [p2_s5]
theorem ax_feed_s {X : Int → Int} {LX : Nat} : ∀ S ∈ ax_feed, ck_Ok p2_O X LX 19 S := ck_S1 p2_s5_s ck_S0
theorem ax_feed_c : ax_feed.all (w_x p2_O 0 0 1 false) = true := by decide +kernel
theorem ax_feed_v : bc_cov 60 [(-2147483648, 2147483647), (-2147483648, 2147483647), (-2147483648, 2147483647), (-2147483648, 2147483647), (-2147483648, 2147483647)] (ax_feed.map bc_box) = true := by decide +kernel
noncomputable def al_feed : List ck_Sum := [pl_s5]
theorem al_feed_s {X : Int → Int} {LX : Nat} : ∀ S ∈ al_feed, ck_Ok p2_OL X LX 19 S := ck_S1 pl_s5_s ck_S0
theorem al_feed_c : al_feed.all (w_x p2_OL 246 1 1 false) = true := by decide +kernel
theorem al_feed_v : bc_cov 60 [(-2147483648, 2147483647), (-2147483648, 2147483647), (-2147483648, 2147483647), (-2147483648, 2147483647), (-2147483648, 2147483647)] (al_feed.map bc_box) = true := by decide +kernel
noncomputable def am_feed : List ck_Sum := [p2_s6]
theorem am_feed_s {X : Int → Int} {LX : Nat} : ∀ S ∈ am_feed, ck_Ok p2_O X LX 239 S := ck_S1 p2_s6_s ck_S0
theorem am_feed_c : am_feed.all (w_m) = true := by decide +kernel
theorem am_feed_v : bc_cov 60 [(-2147483648, 2147483647), (-2147483648, 2147483647), (-2147483648, 2147483647), (-2147483648, 2147483647), (-2147483648, 2147483647)] (am_feed.map bc_box) = true := by decide +kernel
noncomputable def ax_valley : List ck_Sum := [p2_h0]
theorem ax_valley_s {X : Int → Int} {LX : Nat} : ∀ S ∈ ax_valley, ck_Ok p2_O X LX 70 S := ck_S1 p2_h0_s ck_S0
theorem ax_valley_c : ax_valley.all (w_x p2_O 0 0 1 true) = true := by decide +kernel
theorem ax_valley_v : bc_cov 60 [] (ax_valley.map bc_box) = true := by decide +kernel
noncomputable def al_valley : List ck_Sum := [pl_h0]
theorem al_valley_s {X : Int → Int} {LX : Nat} : ∀ S ∈ al_valley, ck_Ok p2_OL X LX 70 S := ck_S1 pl_h0_s ck_S0
theorem al_valley_c : al_valley.all (w_x p2_OL 246 1 1 true) = true := by decide +kernel
theorem al_valley_v : bc_cov 60 [] (al_valley.map bc_box) = true := by decide +kernel
noncomputable def am_valley : List ck_Sum := [p2_s246]
theorem am_valley_s {X : Int → Int} {LX : Nat} : ∀ S ∈ am_valley, ck_Ok p2_O X LX 242 S := ck_S1 p2_s246_s ck_S0
theorem am_valley_c : am_valley.all (w_m) = true := by decide +kernel
theorem am_valley_v : bc_cov 60 [] (am_valley.map bc_box) = true := by decide +kernel
theorem z0_p2_s247 {X : Int → Int} {LX : Nat} : ck_Ok q0_O X LX 22 p2_s247 := q0_l p2_s247_s (by decide +kernel)
noncomputable def ax_fault : List ck_Sum := [p2_s247]
theorem ax_fault_s {X : Int → Int} {LX : Nat} : ∀ S ∈ ax_fault, ck_Ok q0_O X LX 22 S := ck_S1 z0_p2_s247 ck_S0
theorem ax_fault_c : ax_fault.all (fun S => w_k q0_O 0 0 1 false S && w_r true S) = true := by decide +kernel
theorem ax_fault_v : bc_cov 60 [] (ax_fault.map bc_box) = true := by decide +kernel
theorem zL_pl_s144 {X : Int → Int} {LX : Nat} : ck_Ok qL_O X LX 22 pl_s144 := qL_l pl_s144_s (by decide +kernel)
noncomputable def al_fault : List ck_Sum := [pl_s144]
theorem al_fault_s {X : Int → Int} {LX : Nat} : ∀ S ∈ al_fault, ck_Ok qL_O X LX 22 S := ck_S1 zL_pl_s144 ck_S0
theorem al_fault_c : al_fault.all (fun S => w_k qL_O 246 1 1 false S && w_r true S) = true := by decide +kernel
theorem al_fault_v : bc_cov 60 [] (al_fault.map bc_box) = true := by decide +kernel
theorem zR_p2_s248 {X : Int → Int} {LX : Nat} : ck_Ok qR_O X LX 241 p2_s248 := qR_l p2_s248_s (by decide +kernel)
noncomputable def am_fault : List ck_Sum := [p2_s248]
theorem am_fault_s {X : Int → Int} {LX : Nat} : ∀ S ∈ am_fault, ck_Ok qR_O X LX 241 S := ck_S1 zR_p2_s248 ck_S0
theorem am_fault_c : am_fault.all (fun S => w_kR S && w_r true S) = true := by decide +kernel
theorem am_fault_v : bc_cov 60 [] (am_fault.map bc_box) = true := by decide +kernel
theorem z0_p2_h1 {X : Int → Int} {LX : Nat} : ck_Ok q0_O X LX 127 p2_h1 := q0_l p2_h1_s (by decide +kernel)
theorem z0_p2_h2 {X : Int → Int} {LX : Nat} : ck_Ok q0_O X LX 127 p2_h2 := q0_l p2_h2_s (by decide +kernel)
theorem z0_p2_h3 {X : Int → Int} {LX : Nat} : ck_Ok q0_O X LX 127 p2_h3 := q0_l p2_h3_s (by decide +kernel)
noncomputable def ax_heat : List ck_Sum := [p2_h1, p2_h2, p2_h3]
theorem ax_heat_s {X : Int → Int} {LX : Nat} : ∀ S ∈ ax_heat, ck_Ok q0_O X LX 127 S := ck_S1 z0_p2_h1 (ck_S1 z0_p2_h2 (ck_S1 z0_p2_h3 ck_S0))
theorem ax_heat_c : ax_heat.all (fun S => w_k q0_O 0 0 1 true S && w_r true S) = true := by decide +kernel
theorem ax_heat_v : bc_cov 60 [(-2147483648, 2147483647)] (ax_heat.map bc_box) = true := by decide +kernel
theorem zL_pl_h1 {X : Int → Int} {LX : Nat} : ck_Ok qL_O X LX 127 pl_h1 := qL_l pl_h1_s (by decide +kernel)
theorem zL_pl_h2 {X : Int → Int} {LX : Nat} : ck_Ok qL_O X LX 127 pl_h2 := qL_l pl_h2_s (by decide +kernel)
theorem zL_pl_h3 {X : Int → Int} {LX : Nat} : ck_Ok qL_O X LX 127 pl_h3 := qL_l pl_h3_s (by decide +kernel)
noncomputable def al_heat : List ck_Sum := [pl_h1, pl_h2, pl_h3]
theorem al_heat_s {X : Int → Int} {LX : Nat} : ∀ S ∈ al_heat, ck_Ok qL_O X LX 127 S := ck_S1 zL_pl_h1 (ck_S1 zL_pl_h2 (ck_S1 zL_pl_h3 ck_S0))
theorem al_heat_c : al_heat.all (fun S => w_k qL_O 246 1 1 true S && w_r true S) = true := by decide +kernel
theorem al_heat_v : bc_cov 60 [(-2147483648, 2147483647)] (al_heat.map bc_box) = true := by decide +kernel
theorem zR_p2_s258 {X : Int → Int} {LX : Nat} : ck_Ok qR_O X LX 284 p2_s258 := qR_l p2_s258_s (by decide +kernel)
theorem zR_p2_s261 {X : Int → Int} {LX : Nat} : ck_Ok qR_O X LX 284 p2_s261 := qR_l p2_s261_s (by decide +kernel)
theorem zR_p2_s264 {X : Int → Int} {LX : Nat} : ck_Ok qR_O X LX 284 p2_s264 := qR_l p2_s264_s (by decide +kernel)
noncomputable def am_heat : List ck_Sum := [p2_s258, p2_s261, p2_s264]
theorem am_heat_s {X : Int → Int} {LX : Nat} : ∀ S ∈ am_heat, ck_Ok qR_O X LX 284 S := ck_S1 zR_p2_s258 (ck_S1 zR_p2_s261 (ck_S1 zR_p2_s264 ck_S0))
theorem am_heat_c : am_heat.all (fun S => w_kR S && w_r true S) = true := by decide +kernel
theorem am_heat_v : bc_cov 60 [(-2147483648, 2147483647)] (am_heat.map bc_box) = true := by decide +kernel
theorem z0_p2_h4 {X : Int → Int} {LX : Nat} : ck_Ok q0_O X LX 130 p2_h4 := q0_l p2_h4_s (by decide +kernel)
theorem z0_p2_h5 {X : Int → Int} {LX : Nat} : ck_Ok q0_O X LX 130 p2_h5 := q0_l p2_h5_s (by decide +kernel)
theorem z0_p2_h6 {X : Int → Int} {LX : Nat} : ck_Ok q0_O X LX 130 p2_h6 := q0_l p2_h6_s (by decide +kernel)
theorem z0_p2_h7 {X : Int → Int} {LX : Nat} : ck_Ok q0_O X LX 130 p2_h7 := q0_l p2_h7_s (by decide +kernel)
theorem z0_p2_h8 {X : Int → Int} {LX : Nat} : ck_Ok q0_O X LX 130 p2_h8 := q0_l p2_h8_s (by decide +kernel)
noncomputable def ax_speed : List ck_Sum := [p2_h4, p2_h5, p2_h6, p2_h7, p2_h8]
theorem ax_speed_s {X : Int → Int} {LX : Nat} : ∀ S ∈ ax_speed, ck_Ok q0_O X LX 130 S := ck_S1 z0_p2_h4 (ck_S1 z0_p2_h5 (ck_S1 z0_p2_h6 (ck_S1 z0_p2_h7 (ck_S1 z0_p2_h8 ck_S0))))
theorem ax_speed_c : ax_speed.all (fun S => w_k q0_O 0 0 1 true S && w_r true S) = true := by decide +kernel
theorem ax_speed_v : bc_cov 60 [(-2147483648, 2147483647), (-2147483648, 2147483647)] (ax_speed.map bc_box) = true := by decide +kernel
theorem zL_pl_h4 {X : Int → Int} {LX : Nat} : ck_Ok qL_O X LX 130 pl_h4 := qL_l pl_h4_s (by decide +kernel)
theorem zL_pl_h5 {X : Int → Int} {LX : Nat} : ck_Ok qL_O X LX 130 pl_h5 := qL_l pl_h5_s (by decide +kernel)
theorem zL_pl_h6 {X : Int → Int} {LX : Nat} : ck_Ok qL_O X LX 130 pl_h6 := qL_l pl_h6_s (by decide +kernel)
theorem zL_pl_h7 {X : Int → Int} {LX : Nat} : ck_Ok qL_O X LX 130 pl_h7 := qL_l pl_h7_s (by decide +kernel)
theorem zL_pl_h8 {X : Int → Int} {LX : Nat} : ck_Ok qL_O X LX 130 pl_h8 := qL_l pl_h8_s (by decide +kernel)
noncomputable def al_speed : List ck_Sum := [pl_h4, pl_h5, pl_h6, pl_h7, pl_h8]
theorem al_speed_s {X : Int → Int} {LX : Nat} : ∀ S ∈ al_speed, ck_Ok qL_O X LX 130 S := ck_S1 zL_pl_h4 (ck_S1 zL_pl_h5 (ck_S1 zL_pl_h6 (ck_S1 zL_pl_h7 (ck_S1 zL_pl_h8 ck_S0))))
theorem al_speed_c : al_speed.all (fun S => w_k qL_O 246 1 1 true S && w_r true S) = true := by decide +kernel
theorem al_speed_v : bc_cov 60 [(-2147483648, 2147483647), (-2147483648, 2147483647)] (al_speed.map bc_box) = true := by decide +kernel
theorem zR_p2_s285 {X : Int → Int} {LX : Nat} : ck_Ok qR_O X LX 287 p2_s285 := qR_l p2_s285_s (by decide +kernel)
theorem zR_p2_s288 {X : Int → Int} {LX : Nat} : ck_Ok qR_O X LX 287 p2_s288 := qR_l p2_s288_s (by decide +kernel)
theorem zR_p2_s293 {X : Int → Int} {LX : Nat} : ck_Ok qR_O X LX 287 p2_s293 := qR_l p2_s293_s (by decide +kernel)
theorem zR_p2_s296 {X : Int → Int} {LX : Nat} : ck_Ok qR_O X LX 287 p2_s296 := qR_l p2_s296_s (by decide +kernel)
theorem zR_p2_s300 {X : Int → Int} {LX : Nat} : ck_Ok qR_O X LX 287 p2_s300 := qR_l p2_s300_s (by decide +kernel)
noncomputable def am_speed : List ck_Sum := [p2_s285, p2_s288, p2_s293, p2_s296, p2_s300]
theorem am_speed_s {X : Int → Int} {LX : Nat} : ∀ S ∈ am_speed, ck_Ok qR_O X LX 287 S := ck_S1 zR_p2_s285 (ck_S1 zR_p2_s288 (ck_S1 zR_p2_s293 (ck_S1 zR_p2_s296 (ck_S1 zR_p2_s300 ck_S0))))
theorem am_speed_c : am_speed.all (fun S => w_kR S && w_r true S) = true := by decide +kernel
theorem am_speed_v : bc_cov 60 [(-2147483648, 2147483647), (-2147483648, 2147483647)] (am_speed.map bc_box) = true := by decide +kernel
theorem z0_p2_h9 {X : Int → Int} {LX : Nat} : ck_Ok q0_O X LX 135 p2_h9 := q0_l p2_h9_s (by decide +kernel)
theorem z0_p2_h10 {X : Int → Int} {LX : Nat} : ck_Ok q0_O X LX 135 p2_h10 := q0_l p2_h10_s (by decide +kernel)
theorem z0_p2_h11 {X : Int → Int} {LX : Nat} : ck_Ok q0_O X LX 135 p2_h11 := q0_l p2_h11_s (by decide +kernel)
theorem z0_p2_h12 {X : Int → Int} {LX : Nat} : ck_Ok q0_O X LX 135 p2_h12 := q0_l p2_h12_s (by decide +kernel)
theorem z0_p2_h13 {X : Int → Int} {LX : Nat} : ck_Ok q0_O X LX 135 p2_h13 := q0_l p2_h13_s (by decide +kernel)
theorem z0_p2_h14 {X : Int → Int} {LX : Nat} : ck_Ok q0_O X LX 135 p2_h14 := q0_l p2_h14_s (by decide +kernel)
theorem z0_p2_h15 {X : Int → Int} {LX : Nat} : ck_Ok q0_O X LX 135 p2_h15 := q0_l p2_h15_s (by decide +kernel)
noncomputable def ax_flow : List ck_Sum := [p2_h9, p2_h10, p2_h11, p2_h12, p2_h13, p2_h14, p2_h15]
theorem ax_flow_s {X : Int → Int} {LX : Nat} : ∀ S ∈ ax_flow, ck_Ok q0_O X LX 135 S := ck_S1 z0_p2_h9 (ck_S1 z0_p2_h10 (ck_S1 z0_p2_h11 (ck_S1 z0_p2_h12 (ck_S1 z0_p2_h13 (ck_S1 z0_p2_h14 (ck_S1 z0_p2_h15 ck_S0))))))
theorem ax_flow_c : ax_flow.all (fun S => w_k q0_O 0 0 1 true S && w_r true S) = true := by decide +kernel
theorem ax_flow_v : bc_cov 60 [(-2147483648, 2147483647), (-2147483648, 2147483647), (-2147483648, 2147483647)] (ax_flow.map bc_box) = true := by decide +kernel
theorem zL_pl_h9 {X : Int → Int} {LX : Nat} : ck_Ok qL_O X LX 135 pl_h9 := qL_l pl_h9_s (by decide +kernel)
theorem zL_pl_h10 {X : Int → Int} {LX : Nat} : ck_Ok qL_O X LX 135 pl_h10 := qL_l pl_h10_s (by decide +kernel)
theorem zL_pl_h11 {X : Int → Int} {LX : Nat} : ck_Ok qL_O X LX 135 pl_h11 := qL_l pl_h11_s (by decide +kernel)
theorem zL_pl_h12 {X : Int → Int} {LX : Nat} : ck_Ok qL_O X LX 135 pl_h12 := qL_l pl_h12_s (by decide +kernel)
theorem zL_pl_h13 {X : Int → Int} {LX : Nat} : ck_Ok qL_O X LX 135 pl_h13 := qL_l pl_h13_s (by decide +kernel)
theorem zL_pl_h14 {X : Int → Int} {LX : Nat} : ck_Ok qL_O X LX 135 pl_h14 := qL_l pl_h14_s (by decide +kernel)
noncomputable def al_flow : List ck_Sum := [pl_h9, pl_h10, pl_h11, pl_h12, pl_h13, pl_h14, q_pl_h15]
theorem al_flow_s {X : Int → Int} {LX : Nat} : ∀ S ∈ al_flow, ck_Ok qL_O X LX 135 S := ck_S1 zL_pl_h9 (ck_S1 zL_pl_h10 (ck_S1 zL_pl_h11 (ck_S1 zL_pl_h12 (ck_S1 zL_pl_h13 (ck_S1 zL_pl_h14 (ck_S1 q_pl_h15_s ck_S0))))))
theorem al_flow_c : al_flow.all (fun S => w_k qL_O 246 1 1 true S && w_r true S) = true := by decide +kernel
theorem al_flow_v : bc_cov 60 [(-2147483648, 2147483647), (-2147483648, 2147483647), (-2147483648, 2147483647)] (al_flow.map bc_box) = true := by decide +kernel
theorem zR_p2_s310 {X : Int → Int} {LX : Nat} : ck_Ok qR_O X LX 291 p2_s310 := qR_l p2_s310_s (by decide +kernel)
theorem zR_p2_s311 {X : Int → Int} {LX : Nat} : ck_Ok qR_O X LX 291 p2_s311 := qR_l p2_s311_s (by decide +kernel)
theorem zR_p2_s312 {X : Int → Int} {LX : Nat} : ck_Ok qR_O X LX 291 p2_s312 := qR_l p2_s312_s (by decide +kernel)
theorem zR_p2_s313 {X : Int → Int} {LX : Nat} : ck_Ok qR_O X LX 291 p2_s313 := qR_l p2_s313_s (by decide +kernel)
theorem zR_p2_s314 {X : Int → Int} {LX : Nat} : ck_Ok qR_O X LX 291 p2_s314 := qR_l p2_s314_s (by decide +kernel)
theorem zR_p2_s315 {X : Int → Int} {LX : Nat} : ck_Ok qR_O X LX 291 p2_s315 := qR_l p2_s315_s (by decide +kernel)
noncomputable def am_flow : List ck_Sum := [p2_s310, p2_s311, p2_s312, p2_s313, p2_s314, p2_s315, q_p2_s319]
theorem am_flow_s {X : Int → Int} {LX : Nat} : ∀ S ∈ am_flow, ck_Ok qR_O X LX 291 S := ck_S1 zR_p2_s310 (ck_S1 zR_p2_s311 (ck_S1 zR_p2_s312 (ck_S1 zR_p2_s313 (ck_S1 zR_p2_s314 (ck_S1 zR_p2_s315 (ck_S1 q_p2_s319_s ck_S0))))))
theorem am_flow_c : am_flow.all (fun S => w_kR S && w_r true S) = true := by decide +kernel
theorem am_flow_v : bc_cov 60 [(-2147483648, 2147483647), (-2147483648, 2147483647), (-2147483648, 2147483647)] (am_flow.map bc_box) = true := by decide +kernel
theorem z0_p2_h16 {X : Int → Int} {LX : Nat} : ck_Ok q0_O X LX 137 p2_h16 := q0_l p2_h16_s (by decide +kernel)
theorem z0_p2_h17 {X : Int → Int} {LX : Nat} : ck_Ok q0_O X LX 137 p2_h17 := q0_l p2_h17_s (by decide +kernel)
theorem z0_p2_h18 {X : Int → Int} {LX : Nat} : ck_Ok q0_O X LX 137 p2_h18 := q0_l p2_h18_s (by decide +kernel)
theorem z0_p2_h19 {X : Int → Int} {LX : Nat} : ck_Ok q0_O X LX 137 p2_h19 := q0_l p2_h19_s (by decide +kernel)
noncomputable def ax_person : List ck_Sum := [p2_h16, p2_h17, p2_h18, p2_h19, q_p2_h20]
theorem ax_person_s {X : Int → Int} {LX : Nat} : ∀ S ∈ ax_person, ck_Ok q0_O X LX 137 S := ck_S1 z0_p2_h16 (ck_S1 z0_p2_h17 (ck_S1 z0_p2_h18 (ck_S1 z0_p2_h19 (ck_S1 q_p2_h20_s ck_S0))))
theorem ax_person_c : ax_person.all (fun S => w_k q0_O 0 0 1 true S && w_r true S) = true := by decide +kernel
theorem ax_person_v : bc_cov 60 [(-2147483648, 2147483647), (-2147483648, 2147483647)] (ax_person.map bc_box) = true := by decide +kernel
theorem zL_pl_h16 {X : Int → Int} {LX : Nat} : ck_Ok qL_O X LX 137 pl_h16 := qL_l pl_h16_s (by decide +kernel)
theorem zL_pl_h17 {X : Int → Int} {LX : Nat} : ck_Ok qL_O X LX 137 pl_h17 := qL_l pl_h17_s (by decide +kernel)
theorem zL_pl_h18 {X : Int → Int} {LX : Nat} : ck_Ok qL_O X LX 137 pl_h18 := qL_l pl_h18_s (by decide +kernel)
theorem zL_pl_h19 {X : Int → Int} {LX : Nat} : ck_Ok qL_O X LX 137 pl_h19 := qL_l pl_h19_s (by decide +kernel)
noncomputable def al_person : List ck_Sum := [pl_h16, pl_h17, pl_h18, pl_h19, q_pl_h20]
theorem al_person_s {X : Int → Int} {LX : Nat} : ∀ S ∈ al_person, ck_Ok qL_O X LX 137 S := ck_S1 zL_pl_h16 (ck_S1 zL_pl_h17 (ck_S1 zL_pl_h18 (ck_S1 zL_pl_h19 (ck_S1 q_pl_h20_s ck_S0))))
theorem al_person_c : al_person.all (fun S => w_k qL_O 246 1 1 true S && w_r true S) = true := by decide +kernel
theorem al_person_v : bc_cov 60 [(-2147483648, 2147483647), (-2147483648, 2147483647)] (al_person.map bc_box) = true := by decide +kernel
theorem zR_p2_s360 {X : Int → Int} {LX : Nat} : ck_Ok qR_O X LX 297 p2_s360 := qR_l p2_s360_s (by decide +kernel)
theorem zR_p2_s363 {X : Int → Int} {LX : Nat} : ck_Ok qR_O X LX 297 p2_s363 := qR_l p2_s363_s (by decide +kernel)
theorem zR_p2_s367 {X : Int → Int} {LX : Nat} : ck_Ok qR_O X LX 297 p2_s367 := qR_l p2_s367_s (by decide +kernel)
theorem zR_p2_s369 {X : Int → Int} {LX : Nat} : ck_Ok qR_O X LX 297 p2_s369 := qR_l p2_s369_s (by decide +kernel)
noncomputable def am_person : List ck_Sum := [p2_s360, p2_s363, p2_s367, p2_s369, q_p2_s385]
theorem am_person_s {X : Int → Int} {LX : Nat} : ∀ S ∈ am_person, ck_Ok qR_O X LX 297 S := ck_S1 zR_p2_s360 (ck_S1 zR_p2_s363 (ck_S1 zR_p2_s367 (ck_S1 zR_p2_s369 (ck_S1 q_p2_s385_s ck_S0))))
theorem am_person_c : am_person.all (fun S => w_kR S && w_r true S) = true := by decide +kernel
theorem am_person_v : bc_cov 60 [(-2147483648, 2147483647), (-2147483648, 2147483647)] (am_person.map bc_box) = true := by decide +kernel
theorem z0_p2_h21 {X : Int → Int} {LX : Nat} : ck_Ok q0_O X LX 141 p2_h21 := q0_l p2_h21_s (by decide +kernel)
theorem z0_p2_h22 {X : Int → Int} {LX : Nat} : ck_Ok q0_O X LX 141 p2_h22 := q0_l p2_h22_s (by decide +kernel)
theorem z0_p2_h23 {X : Int → Int} {LX : Nat} : ck_Ok q0_O X LX 141 p2_h23 := q0_l p2_h23_s (by decide +kernel)
theorem z0_p2_h24 {X : Int → Int} {LX : Nat} : ck_Ok q0_O X LX 141 p2_h24 := q0_l p2_h24_s (by decide +kernel)
theorem z0_p2_h25 {X : Int → Int} {LX : Nat} : ck_Ok q0_O X LX 141 p2_h25 := q0_l p2_h25_s (by decide +kernel)
noncomputable def ax_letter : List ck_Sum := [p2_h21, p2_h22, p2_h23, p2_h24, p2_h25]
theorem ax_letter_s {X : Int → Int} {LX : Nat} : ∀ S ∈ ax_letter, ck_Ok q0_O X LX 141 S := ck_S1 z0_p2_h21 (ck_S1 z0_p2_h22 (ck_S1 z0_p2_h23 (ck_S1 z0_p2_h24 (ck_S1 z0_p2_h25 ck_S0))))
theorem ax_letter_c : ax_letter.all (fun S => w_k q0_O 0 0 1 true S && w_r true S) = true := by decide +kernel
theorem ax_letter_v : bc_cov 60 [(-2147483648, 2147483647), (-2147483648, 2147483647)] (ax_letter.map bc_box) = true := by decide +kernel
theorem zL_pl_h21 {X : Int → Int} {LX : Nat} : ck_Ok qL_O X LX 141 pl_h21 := qL_l pl_h21_s (by decide +kernel)
theorem zL_pl_h22 {X : Int → Int} {LX : Nat} : ck_Ok qL_O X LX 141 pl_h22 := qL_l pl_h22_s (by decide +kernel)
theorem zL_pl_h23 {X : Int → Int} {LX : Nat} : ck_Ok qL_O X LX 141 pl_h23 := qL_l pl_h23_s (by decide +kernel)
theorem zL_pl_h24 {X : Int → Int} {LX : Nat} : ck_Ok qL_O X LX 141 pl_h24 := qL_l pl_h24_s (by decide +kernel)
noncomputable def al_letter : List ck_Sum := [pl_h21, pl_h22, pl_h23, pl_h24, q_pl_h25]
theorem al_letter_s {X : Int → Int} {LX : Nat} : ∀ S ∈ al_letter, ck_Ok qL_O X LX 141 S := ck_S1 zL_pl_h21 (ck_S1 zL_pl_h22 (ck_S1 zL_pl_h23 (ck_S1 zL_pl_h24 (ck_S1 q_pl_h25_s ck_S0))))
theorem al_letter_c : al_letter.all (fun S => w_k qL_O 246 1 1 true S && w_r true S) = true := by decide +kernel
theorem al_letter_v : bc_cov 60 [(-2147483648, 2147483647), (-2147483648, 2147483647)] (al_letter.map bc_box) = true := by decide +kernel
theorem zR_p2_s401 {X : Int → Int} {LX : Nat} : ck_Ok qR_O X LX 308 p2_s401 := qR_l p2_s401_s (by decide +kernel)
theorem zR_p2_s404 {X : Int → Int} {LX : Nat} : ck_Ok qR_O X LX 308 p2_s404 := qR_l p2_s404_s (by decide +kernel)
theorem zR_p2_s408 {X : Int → Int} {LX : Nat} : ck_Ok qR_O X LX 308 p2_s408 := qR_l p2_s408_s (by decide +kernel)
theorem zR_p2_s410 {X : Int → Int} {LX : Nat} : ck_Ok qR_O X LX 308 p2_s410 := qR_l p2_s410_s (by decide +kernel)
noncomputable def am_letter : List ck_Sum := [p2_s401, p2_s404, p2_s408, p2_s410, q_p2_s416]
theorem am_letter_s {X : Int → Int} {LX : Nat} : ∀ S ∈ am_letter, ck_Ok qR_O X LX 308 S := ck_S1 zR_p2_s401 (ck_S1 zR_p2_s404 (ck_S1 zR_p2_s408 (ck_S1 zR_p2_s410 (ck_S1 q_p2_s416_s ck_S0))))
theorem am_letter_c : am_letter.all (fun S => w_kR S && w_r true S) = true := by decide +kernel
theorem am_letter_v : bc_cov 60 [(-2147483648, 2147483647), (-2147483648, 2147483647)] (am_letter.map bc_box) = true := by decide +kernel
theorem z0_p2_h26 {X : Int → Int} {LX : Nat} : ck_Ok q0_O X LX 146 p2_h26 := q0_l p2_h26_s (by decide +kernel)
theorem z0_p2_h27 {X : Int → Int} {LX : Nat} : ck_Ok q0_O X LX 146 p2_h27 := q0_l p2_h27_s (by decide +kernel)
theorem z0_p2_h28 {X : Int → Int} {LX : Nat} : ck_Ok q0_O X LX 146 p2_h28 := q0_l p2_h28_s (by decide +kernel)
theorem z0_p2_h29 {X : Int → Int} {LX : Nat} : ck_Ok q0_O X LX 146 p2_h29 := q0_l p2_h29_s (by decide +kernel)
theorem z0_p2_h30 {X : Int → Int} {LX : Nat} : ck_Ok q0_O X LX 146 p2_h30 := q0_l p2_h30_s (by decide +kernel)
noncomputable def ax_where : List ck_Sum := [p2_h26, p2_h27, p2_h28, p2_h29, p2_h30]
theorem ax_where_s {X : Int → Int} {LX : Nat} : ∀ S ∈ ax_where, ck_Ok q0_O X LX 146 S := ck_S1 z0_p2_h26 (ck_S1 z0_p2_h27 (ck_S1 z0_p2_h28 (ck_S1 z0_p2_h29 (ck_S1 z0_p2_h30 ck_S0))))
theorem ax_where_c : ax_where.all (fun S => w_k q0_O 0 0 1 true S && w_r true S) = true := by decide +kernel
theorem ax_where_v : bc_cov 60 [(-2147483648, 2147483647), (-2147483648, 2147483647)] (ax_where.map bc_box) = true := by decide +kernel
theorem zL_pl_h26 {X : Int → Int} {LX : Nat} : ck_Ok qL_O X LX 146 pl_h26 := qL_l pl_h26_s (by decide +kernel)
theorem zL_pl_h27 {X : Int → Int} {LX : Nat} : ck_Ok qL_O X LX 146 pl_h27 := qL_l pl_h27_s (by decide +kernel)
theorem zL_pl_h28 {X : Int → Int} {LX : Nat} : ck_Ok qL_O X LX 146 pl_h28 := qL_l pl_h28_s (by decide +kernel)
theorem zL_pl_h29 {X : Int → Int} {LX : Nat} : ck_Ok qL_O X LX 146 pl_h29 := qL_l pl_h29_s (by decide +kernel)
noncomputable def al_where : List ck_Sum := [pl_h26, pl_h27, pl_h28, pl_h29, q_pl_h30]
theorem al_where_s {X : Int → Int} {LX : Nat} : ∀ S ∈ al_where, ck_Ok qL_O X LX 146 S := ck_S1 zL_pl_h26 (ck_S1 zL_pl_h27 (ck_S1 zL_pl_h28 (ck_S1 zL_pl_h29 (ck_S1 q_pl_h30_s ck_S0))))
theorem al_where_c : al_where.all (fun S => w_k qL_O 246 1 1 true S && w_r true S) = true := by decide +kernel
theorem al_where_v : bc_cov 60 [(-2147483648, 2147483647), (-2147483648, 2147483647)] (al_where.map bc_box) = true := by decide +kernel
theorem zR_p2_s423 {X : Int → Int} {LX : Nat} : ck_Ok qR_O X LX 313 p2_s423 := qR_l p2_s423_s (by decide +kernel)
theorem zR_p2_s424 {X : Int → Int} {LX : Nat} : ck_Ok qR_O X LX 313 p2_s424 := qR_l p2_s424_s (by decide +kernel)
theorem zR_p2_s425 {X : Int → Int} {LX : Nat} : ck_Ok qR_O X LX 313 p2_s425 := qR_l p2_s425_s (by decide +kernel)
theorem zR_p2_s426 {X : Int → Int} {LX : Nat} : ck_Ok qR_O X LX 313 p2_s426 := qR_l p2_s426_s (by decide +kernel)
noncomputable def am_where : List ck_Sum := [p2_s423, p2_s424, p2_s425, p2_s426, q_p2_s427]
theorem am_where_s {X : Int → Int} {LX : Nat} : ∀ S ∈ am_where, ck_Ok qR_O X LX 313 S := ck_S1 zR_p2_s423 (ck_S1 zR_p2_s424 (ck_S1 zR_p2_s425 (ck_S1 zR_p2_s426 (ck_S1 q_p2_s427_s ck_S0))))
theorem am_where_v : bc_cov 60 [(-2147483648, 2147483647), (-2147483648, 2147483647)] (am_where.map bc_box) = true := by decide +kernel
theorem z0_p2_h31 {X : Int → Int} {LX : Nat} : ck_Ok q0_O X LX 149 p2_h31 := q0_l p2_h31_s (by decide +kernel)
theorem z0_p2_h32 {X : Int → Int} {LX : Nat} : ck_Ok q0_O X LX 149 p2_h32 := q0_l p2_h32_s (by decide +kernel)
theorem z0_p2_h33 {X : Int → Int} {LX : Nat} : ck_Ok q0_O X LX 149 p2_h33 := q0_l p2_h33_s (by decide +kernel)
theorem z0_p2_h34 {X : Int → Int} {LX : Nat} : ck_Ok q0_O X LX 149 p2_h34 := q0_l p2_h34_s (by decide +kernel)
theorem z0_p2_h35 {X : Int → Int} {LX : Nat} : ck_Ok q0_O X LX 149 p2_h35 := q0_l p2_h35_s (by decide +kernel)
noncomputable def ax_deep : List ck_Sum := [p2_h31, p2_h32, p2_h33, p2_h34, p2_h35]
theorem ax_deep_s {X : Int → Int} {LX : Nat} : ∀ S ∈ ax_deep, ck_Ok q0_O X LX 149 S := ck_S1 z0_p2_h31 (ck_S1 z0_p2_h32 (ck_S1 z0_p2_h33 (ck_S1 z0_p2_h34 (ck_S1 z0_p2_h35 ck_S0))))
theorem ax_deep_c : ax_deep.all (fun S => w_k q0_O 0 0 1 true S && w_r true S) = true := by decide +kernel
theorem ax_deep_v : bc_cov 60 [(-2147483648, 2147483647), (-2147483648, 2147483647)] (ax_deep.map bc_box) = true := by decide +kernel
theorem zL_pl_h31 {X : Int → Int} {LX : Nat} : ck_Ok qL_O X LX 149 pl_h31 := qL_l pl_h31_s (by decide +kernel)
theorem zL_pl_h32 {X : Int → Int} {LX : Nat} : ck_Ok qL_O X LX 149 pl_h32 := qL_l pl_h32_s (by decide +kernel)
theorem zL_pl_h33 {X : Int → Int} {LX : Nat} : ck_Ok qL_O X LX 149 pl_h33 := qL_l pl_h33_s (by decide +kernel)
theorem zL_pl_h34 {X : Int → Int} {LX : Nat} : ck_Ok qL_O X LX 149 pl_h34 := qL_l pl_h34_s (by decide +kernel)
noncomputable def al_deep : List ck_Sum := [pl_h31, pl_h32, pl_h33, pl_h34, q_pl_h35]
theorem al_deep_s {X : Int → Int} {LX : Nat} : ∀ S ∈ al_deep, ck_Ok qL_O X LX 149 S := ck_S1 zL_pl_h31 (ck_S1 zL_pl_h32 (ck_S1 zL_pl_h33 (ck_S1 zL_pl_h34 (ck_S1 q_pl_h35_s ck_S0))))
theorem al_deep_c : al_deep.all (fun S => w_k qL_O 246 1 1 true S && w_r true S) = true := by decide +kernel
theorem al_deep_v : bc_cov 60 [(-2147483648, 2147483647), (-2147483648, 2147483647)] (al_deep.map bc_box) = true := by decide +kernel
theorem zR_p2_s433 {X : Int → Int} {LX : Nat} : ck_Ok qR_O X LX 314 p2_s433 := qR_l p2_s433_s (by decide +kernel)
theorem zR_p2_s434 {X : Int → Int} {LX : Nat} : ck_Ok qR_O X LX 314 p2_s434 := qR_l p2_s434_s (by decide +kernel)
theorem zR_p2_s435 {X : Int → Int} {LX : Nat} : ck_Ok qR_O X LX 314 p2_s435 := qR_l p2_s435_s (by decide +kernel)
theorem zR_p2_s436 {X : Int → Int} {LX : Nat} : ck_Ok qR_O X LX 314 p2_s436 := qR_l p2_s436_s (by decide +kernel)
noncomputable def am_deep : List ck_Sum := [p2_s433, p2_s434, p2_s435, p2_s436, q_p2_s437]
theorem am_deep_s {X : Int → Int} {LX : Nat} : ∀ S ∈ am_deep, ck_Ok qR_O X LX 314 S := ck_S1 zR_p2_s433 (ck_S1 zR_p2_s434 (ck_S1 zR_p2_s435 (ck_S1 zR_p2_s436 (ck_S1 q_p2_s437_s ck_S0))))
theorem am_deep_c : am_deep.all (fun S => w_kR S && w_r true S) = true := by decide +kernel
theorem am_deep_v : bc_cov 60 [(-2147483648, 2147483647), (-2147483648, 2147483647)] (am_deep.map bc_box) = true := by decide +kernel
noncomputable def ax_post : List ck_Sum := [p2_h36, p2_h37, p2_h38, p2_h39, p2_h40]
theorem ax_post_s {X : Int → Int} {LX : Nat} : ∀ S ∈ ax_post, ck_Ok p2_O X LX 151 S := ck_S1 p2_h36_s (ck_S1 p2_h37_s (ck_S1 p2_h38_s (ck_S1 p2_h39_s (ck_S1 p2_h40_s ck_S0))))
theorem ax_post_c : ax_post.all (w_x p2_O 0 0 1 true) = true := by decide +kernel
theorem ax_post_v : bc_cov 60 [(-2147483648, 2147483647), (-2147483648, 2147483647)] (ax_post.map bc_box) = true := by decide +kernel
noncomputable def al_post : List ck_Sum := [pl_h36, pl_h37, pl_h38, pl_h39, pl_h40]
theorem al_post_s {X : Int → Int} {LX : Nat} : ∀ S ∈ al_post, ck_Ok p2_OL X LX 151 S := ck_S1 pl_h36_s (ck_S1 pl_h37_s (ck_S1 pl_h38_s (ck_S1 pl_h39_s (ck_S1 pl_h40_s ck_S0))))
theorem al_post_c : al_post.all (w_x p2_OL 246 1 1 true) = true := by decide +kernel
theorem al_post_v : bc_cov 60 [(-2147483648, 2147483647), (-2147483648, 2147483647)] (al_post.map bc_box) = true := by decide +kernel
noncomputable def am_post : List ck_Sum := [p2_s547, p2_s548, p2_s549, p2_s550, p2_s557]
theorem am_post_s {X : Int → Int} {LX : Nat} : ∀ S ∈ am_post, ck_Ok p2_O X LX 315 S := ck_S1 p2_s547_s (ck_S1 p2_s548_s (ck_S1 p2_s549_s (ck_S1 p2_s550_s (ck_S1 p2_s557_s ck_S0))))
theorem am_post_c : am_post.all (w_m) = true := by decide +kernel
theorem am_post_v : bc_cov 60 [(-2147483648, 2147483647), (-2147483648, 2147483647)] (am_post.map bc_box) = true := by decide +kernel
noncomputable def ax_watch : List ck_Sum := [p2_h41, p2_h42, p2_h43, p2_h44, p2_h45]
theorem ax_watch_s {X : Int → Int} {LX : Nat} : ∀ S ∈ ax_watch, ck_Ok p2_O X LX 155 S := ck_S1 p2_h41_s (ck_S1 p2_h42_s (ck_S1 p2_h43_s (ck_S1 p2_h44_s (ck_S1 p2_h45_s ck_S0))))
theorem ax_watch_c : ax_watch.all (w_x p2_O 0 0 1 true) = true := by decide +kernel
theorem ax_watch_v : bc_cov 60 [(-2147483648, 2147483647), (-2147483648, 2147483647)] (ax_watch.map bc_box) = true := by decide +kernel
noncomputable def al_watch : List ck_Sum := [pl_h41, pl_h42, pl_h43, pl_h44, pl_h45]
theorem al_watch_s {X : Int → Int} {LX : Nat} : ∀ S ∈ al_watch, ck_Ok p2_OL X LX 155 S := ck_S1 pl_h41_s (ck_S1 pl_h42_s (ck_S1 pl_h43_s (ck_S1 pl_h44_s (ck_S1 pl_h45_s ck_S0))))
theorem al_watch_c : al_watch.all (w_x p2_OL 246 1 1 true) = true := by decide +kernel
theorem al_watch_v : bc_cov 60 [(-2147483648, 2147483647), (-2147483648, 2147483647)] (al_watch.map bc_box) = true := by decide +kernel
noncomputable def am_watch : List ck_Sum := [p2_s567, p2_s568, p2_s572, p2_s573, p2_s574]
theorem am_watch_s {X : Int → Int} {LX : Nat} : ∀ S ∈ am_watch, ck_Ok p2_O X LX 317 S := ck_S1 p2_s567_s (ck_S1 p2_s568_s (ck_S1 p2_s572_s (ck_S1 p2_s573_s (ck_S1 p2_s574_s ck_S0))))
theorem am_watch_c : am_watch.all (w_m) = true := by decide +kernel
theorem am_watch_v : bc_cov 60 [(-2147483648, 2147483647), (-2147483648, 2147483647)] (am_watch.map bc_box) = true := by decide +kernel
noncomputable def ax_open : List ck_Sum := [p2_h46, p2_h47, p2_h48, p2_h49, p2_h50, p2_h51, p2_h52, p2_h53, p2_h54, p2_h55, p2_h56, p2_h57, p2_h58, p2_h59, p2_h60, p2_h61, p2_h62, p2_h63, p2_h64, p2_h65, p2_h66, p2_h67, p2_h68, p2_h69, p2_h70, p2_h71]
theorem ax_open_s {X : Int → Int} {LX : Nat} : ∀ S ∈ ax_open, ck_Ok p2_O X LX 157 S := ck_S1 p2_h46_s (ck_S1 p2_h47_s (ck_S1 p2_h48_s (ck_S1 p2_h49_s (ck_S1 p2_h50_s (ck_S1 p2_h51_s (ck_S1 p2_h52_s (ck_S1 p2_h53_s (ck_S1 p2_h54_s (ck_S1 p2_h55_s (ck_S1 p2_h56_s (ck_S1 p2_h57_s (ck_S1 p2_h58_s (ck_S1 p2_h59_s (ck_S1 p2_h60_s (ck_S1 p2_h61_s (ck_S1 p2_h62_s (ck_S1 p2_h63_s (ck_S1 p2_h64_s (ck_S1 p2_h65_s (ck_S1 p2_h66_s (ck_S1 p2_h67_s (ck_S1 p2_h68_s (ck_S1 p2_h69_s (ck_S1 p2_h70_s (ck_S1 p2_h71_s ck_S0)))))))))))))))))))))))))
theorem ax_open_c : ax_open.all (w_x p2_O 0 0 1 true) = true := by decide +kernel
theorem ax_open_v : bc_cov 60 [(-2147483648, 2147483647)] (ax_open.map bc_box) = true := by decide +kernel
noncomputable def al_open : List ck_Sum := [pl_h46, pl_h47, pl_h48, pl_h49, pl_h50, pl_h51, pl_h52, pl_h53, pl_h54, pl_h55, pl_h56, pl_h57, pl_h58, pl_h59, pl_h60, pl_h61, pl_h62, pl_h63, pl_h64, pl_h65, pl_h66, pl_h67, pl_h68, pl_h69, pl_h70, pl_h71]
theorem al_open_s {X : Int → Int} {LX : Nat} : ∀ S ∈ al_open, ck_Ok p2_OL X LX 157 S := ck_S1 pl_h46_s (ck_S1 pl_h47_s (ck_S1 pl_h48_s (ck_S1 pl_h49_s (ck_S1 pl_h50_s (ck_S1 pl_h51_s (ck_S1 pl_h52_s (ck_S1 pl_h53_s (ck_S1 pl_h54_s (ck_S1 pl_h55_s (ck_S1 pl_h56_s (ck_S1 pl_h57_s (ck_S1 pl_h58_s (ck_S1 pl_h59_s (ck_S1 pl_h60_s (ck_S1 pl_h61_s (ck_S1 pl_h62_s (ck_S1 pl_h63_s (ck_S1 pl_h64_s (ck_S1 pl_h65_s (ck_S1 pl_h66_s (ck_S1 pl_h67_s (ck_S1 pl_h68_s (ck_S1 pl_h69_s (ck_S1 pl_h70_s (ck_S1 pl_h71_s ck_S0)))))))))))))))))))))))))
theorem al_open_c : al_open.all (w_x p2_OL 246 1 1 true) = true := by decide +kernel
theorem al_open_v : bc_cov 60 [(-2147483648, 2147483647)] (al_open.map bc_box) = true := by decide +kernel
noncomputable def am_open : List ck_Sum := [p2_s822, p2_s823, p2_s834, p2_s845, p2_s856, p2_s867, p2_s878, p2_s889, p2_s900, p2_s911, p2_s922, p2_s933, p2_s944, p2_s955, p2_s966, p2_s977, p2_s988, p2_s999, p2_s1010, p2_s1021, p2_s1032, p2_s1043, p2_s1054, p2_s1065, p2_s1076, p2_s1087]
theorem am_open_s {X : Int → Int} {LX : Nat} : ∀ S ∈ am_open, ck_Ok p2_O X LX 318 S := ck_S1 p2_s822_s (ck_S1 p2_s823_s (ck_S1 p2_s834_s (ck_S1 p2_s845_s (ck_S1 p2_s856_s (ck_S1 p2_s867_s (ck_S1 p2_s878_s (ck_S1 p2_s889_s (ck_S1 p2_s900_s (ck_S1 p2_s911_s (ck_S1 p2_s922_s (ck_S1 p2_s933_s (ck_S1 p2_s944_s (ck_S1 p2_s955_s (ck_S1 p2_s966_s (ck_S1 p2_s977_s (ck_S1 p2_s988_s (ck_S1 p2_s999_s (ck_S1 p2_s1010_s (ck_S1 p2_s1021_s (ck_S1 p2_s1032_s (ck_S1 p2_s1043_s (ck_S1 p2_s1054_s (ck_S1 p2_s1065_s (ck_S1 p2_s1076_s (ck_S1 p2_s1087_s ck_S0)))))))))))))))))))))))))
theorem am_open_c : am_open.all (w_m) = true := by decide +kernel
theorem am_open_v : bc_cov 60 [(-2147483648, 2147483647)] (am_open.map bc_box) = true := by decide +kernel
noncomputable def ax_years : List ck_Sum := [p2_h72, p2_h73, p2_h74]
theorem ax_years_s {X : Int → Int} {LX : Nat} : ∀ S ∈ ax_years, ck_Ok p2_O X LX 160 S := ck_S1 p2_h72_s (ck_S1 p2_h73_s (ck_S1 p2_h74_s ck_S0))
theorem ax_years_c : ax_years.all (w_x p2_O 0 0 1 true) = true := by decide +kernel
theorem ax_years_v : bc_cov 60 [(-2147483648, 2147483647)] (ax_years.map bc_box) = true := by decide +kernel
noncomputable def al_years : List ck_Sum := [pl_h72, pl_h73, pl_h74]
theorem al_years_s {X : Int → Int} {LX : Nat} : ∀ S ∈ al_years, ck_Ok p2_OL X LX 160 S := ck_S1 pl_h72_s (ck_S1 pl_h73_s (ck_S1 pl_h74_s ck_S0))
theorem al_years_c : al_years.all (w_x p2_OL 246 1 1 true) = true := by decide +kernel
theorem al_years_v : bc_cov 60 [(-2147483648, 2147483647)] (al_years.map bc_box) = true := by decide +kernel
noncomputable def am_years : List ck_Sum := [p2_s1151, p2_s1153, p2_s1206, p2_s1208, p2_s1210, p2_s1212, p2_s1214, p2_s1216, p2_s1218, p2_s1220, p2_s1222, p2_s1224, p2_s1226, p2_s1228, p2_s1230, p2_s1232, p2_s1234, p2_s1236, p2_s1238, p2_s1240, p2_s1242, p2_s1244, p2_s1246, p2_s1248, p2_s1250, p2_s1252, p2_s1254, p2_s1256, p2_s1258, p2_s1260, p2_s1262, p2_s1264, p2_s1266, p2_s1268, p2_s1270, p2_s1272, p2_s1274, p2_s1276, p2_s1278, p2_s1280, p2_s1282, p2_s1284, p2_s1286, p2_s1288, p2_s1290, p2_s1292, p2_s1294, p2_s1296, p2_s1298, p2_s1300, p2_s1302, p2_s1304]
theorem am_years_s {X : Int → Int} {LX : Nat} : ∀ S ∈ am_years, ck_Ok p2_O X LX 320 S := ck_S1 p2_s1151_s (ck_S1 p2_s1153_s (ck_S1 p2_s1206_s (ck_S1 p2_s1208_s (ck_S1 p2_s1210_s (ck_S1 p2_s1212_s (ck_S1 p2_s1214_s (ck_S1 p2_s1216_s (ck_S1 p2_s1218_s (ck_S1 p2_s1220_s (ck_S1 p2_s1222_s (ck_S1 p2_s1224_s (ck_S1 p2_s1226_s (ck_S1 p2_s1228_s (ck_S1 p2_s1230_s (ck_S1 p2_s1232_s (ck_S1 p2_s1234_s (ck_S1 p2_s1236_s (ck_S1 p2_s1238_s (ck_S1 p2_s1240_s (ck_S1 p2_s1242_s (ck_S1 p2_s1244_s (ck_S1 p2_s1246_s (ck_S1 p2_s1248_s (ck_S1 p2_s1250_s (ck_S1 p2_s1252_s (ck_S1 p2_s1254_s (ck_S1 p2_s1256_s (ck_S1 p2_s1258_s (ck_S1 p2_s1260_s (ck_S1 p2_s1262_s (ck_S1 p2_s1264_s (ck_S1 p2_s1266_s (ck_S1 p2_s1268_s (ck_S1 p2_s1270_s (ck_S1 p2_s1272_s (ck_S1 p2_s1274_s (ck_S1 p2_s1276_s (ck_S1 p2_s1278_s (ck_S1 p2_s1280_s (ck_S1 p2_s1282_s (ck_S1 p2_s1284_s (ck_S1 p2_s1286_s (ck_S1 p2_s1288_s (ck_S1 p2_s1290_s (ck_S1 p2_s1292_s (ck_S1 p2_s1294_s (ck_S1 p2_s1296_s (ck_S1 p2_s1298_s (ck_S1 p2_s1300_s (ck_S1 p2_s1302_s (ck_S1 p2_s1304_s ck_S0)))))))))))))))))))))))))))))))))))))))))))))))))))
theorem am_years_c : am_years.all (w_m) = true := by decide +kernel
theorem am_years_v : bc_cov 60 [(-2147483648, 2147483647)] (am_years.map bc_box) = true := by decide +kernel
theorem z0_p2_h124 {X : Int → Int} {LX : Nat} : ck_Ok q0_O X LX 166 p2_h124 := q0_l p2_h124_s (by decide +kernel)
theorem z0_p2_h125 {X : Int → Int} {LX : Nat} : ck_Ok q0_O X LX 166 p2_h125 := q0_l p2_h125_s (by decide +kernel)
theorem z0_p2_h126 {X : Int → Int} {LX : Nat} : ck_Ok q0_O X LX 166 p2_h126 := q0_l p2_h126_s (by decide +kernel)
theorem z0_p2_h127 {X : Int → Int} {LX : Nat} : ck_Ok q0_O X LX 166 p2_h127 := q0_l p2_h127_s (by decide +kernel)
theorem z0_p2_h128 {X : Int → Int} {LX : Nat} : ck_Ok q0_O X LX 166 p2_h128 := q0_l p2_h128_s (by decide +kernel)
theorem z0_p2_h129 {X : Int → Int} {LX : Nat} : ck_Ok q0_O X LX 166 p2_h129 := q0_l p2_h129_s (by decide +kernel)
theorem z0_p2_h130 {X : Int → Int} {LX : Nat} : ck_Ok q0_O X LX 166 p2_h130 := q0_l p2_h130_s (by decide +kernel)
theorem z0_p2_h131 {X : Int → Int} {LX : Nat} : ck_Ok q0_O X LX 166 p2_h131 := q0_l p2_h131_s (by decide +kernel)
theorem z0_p2_h132 {X : Int → Int} {LX : Nat} : ck_Ok q0_O X LX 166 p2_h132 := q0_l p2_h132_s (by decide +kernel)
noncomputable def ax_throwsFor : List ck_Sum := [p2_h124, p2_h125, p2_h126, p2_h127, p2_h128, p2_h129, p2_h130, p2_h131, p2_h132]
theorem ax_throwsFor_s {X : Int → Int} {LX : Nat} : ∀ S ∈ ax_throwsFor, ck_Ok q0_O X LX 166 S := ck_S1 z0_p2_h124 (ck_S1 z0_p2_h125 (ck_S1 z0_p2_h126 (ck_S1 z0_p2_h127 (ck_S1 z0_p2_h128 (ck_S1 z0_p2_h129 (ck_S1 z0_p2_h130 (ck_S1 z0_p2_h131 (ck_S1 z0_p2_h132 ck_S0))))))))
theorem ax_throwsFor_c : ax_throwsFor.all (fun S => w_k q0_O 0 0 1 true S && w_r true S) = true := by decide +kernel
theorem ax_throwsFor_v : bc_cov 60 [(-2147483648, 2147483647), (-2147483648, 2147483647), (-2147483648, 2147483647), (-2147483648, 2147483647)] (ax_throwsFor.map bc_box) = true := by decide +kernel
theorem zL_pl_h124 {X : Int → Int} {LX : Nat} : ck_Ok qL_O X LX 166 pl_h124 := qL_l pl_h124_s (by decide +kernel)
theorem zL_pl_h125 {X : Int → Int} {LX : Nat} : ck_Ok qL_O X LX 166 pl_h125 := qL_l pl_h125_s (by decide +kernel)
theorem zL_pl_h126 {X : Int → Int} {LX : Nat} : ck_Ok qL_O X LX 166 pl_h126 := qL_l pl_h126_s (by decide +kernel)
theorem zL_pl_h127 {X : Int → Int} {LX : Nat} : ck_Ok qL_O X LX 166 pl_h127 := qL_l pl_h127_s (by decide +kernel)
theorem zL_pl_h128 {X : Int → Int} {LX : Nat} : ck_Ok qL_O X LX 166 pl_h128 := qL_l pl_h128_s (by decide +kernel)
theorem zL_pl_h129 {X : Int → Int} {LX : Nat} : ck_Ok qL_O X LX 166 pl_h129 := qL_l pl_h129_s (by decide +kernel)
theorem zL_pl_h130 {X : Int → Int} {LX : Nat} : ck_Ok qL_O X LX 166 pl_h130 := qL_l pl_h130_s (by decide +kernel)
theorem zL_pl_h131 {X : Int → Int} {LX : Nat} : ck_Ok qL_O X LX 166 pl_h131 := qL_l pl_h131_s (by decide +kernel)
noncomputable def al_throwsFor : List ck_Sum := [pl_h124, pl_h125, pl_h126, pl_h127, pl_h128, pl_h129, pl_h130, pl_h131, q_pl_h132]
theorem al_throwsFor_s {X : Int → Int} {LX : Nat} : ∀ S ∈ al_throwsFor, ck_Ok qL_O X LX 166 S := ck_S1 zL_pl_h124 (ck_S1 zL_pl_h125 (ck_S1 zL_pl_h126 (ck_S1 zL_pl_h127 (ck_S1 zL_pl_h128 (ck_S1 zL_pl_h129 (ck_S1 zL_pl_h130 (ck_S1 zL_pl_h131 (ck_S1 q_pl_h132_s ck_S0))))))))
theorem al_throwsFor_c : al_throwsFor.all (fun S => w_k qL_O 246 1 1 true S && w_r true S) = true := by decide +kernel
theorem al_throwsFor_v : bc_cov 60 [(-2147483648, 2147483647), (-2147483648, 2147483647), (-2147483648, 2147483647), (-2147483648, 2147483647)] (al_throwsFor.map bc_box) = true := by decide +kernel
theorem zR_p2_s1315 {X : Int → Int} {LX : Nat} : ck_Ok qR_O X LX 324 p2_s1315 := qR_l p2_s1315_s (by decide +kernel)
theorem zR_p2_s1316 {X : Int → Int} {LX : Nat} : ck_Ok qR_O X LX 324 p2_s1316 := qR_l p2_s1316_s (by decide +kernel)
theorem zR_p2_s1317 {X : Int → Int} {LX : Nat} : ck_Ok qR_O X LX 324 p2_s1317 := qR_l p2_s1317_s (by decide +kernel)
theorem zR_p2_s1318 {X : Int → Int} {LX : Nat} : ck_Ok qR_O X LX 324 p2_s1318 := qR_l p2_s1318_s (by decide +kernel)
theorem zR_p2_s1319 {X : Int → Int} {LX : Nat} : ck_Ok qR_O X LX 324 p2_s1319 := qR_l p2_s1319_s (by decide +kernel)
theorem zR_p2_s1320 {X : Int → Int} {LX : Nat} : ck_Ok qR_O X LX 324 p2_s1320 := qR_l p2_s1320_s (by decide +kernel)
theorem zR_p2_s1322 {X : Int → Int} {LX : Nat} : ck_Ok qR_O X LX 324 p2_s1322 := qR_l p2_s1322_s (by decide +kernel)
theorem zR_p2_s1324 {X : Int → Int} {LX : Nat} : ck_Ok qR_O X LX 324 p2_s1324 := qR_l p2_s1324_s (by decide +kernel)
noncomputable def am_throwsFor : List ck_Sum := [p2_s1315, p2_s1316, p2_s1317, p2_s1318, p2_s1319, p2_s1320, p2_s1322, p2_s1324, q_p2_s1327]
theorem am_throwsFor_s {X : Int → Int} {LX : Nat} : ∀ S ∈ am_throwsFor, ck_Ok qR_O X LX 324 S := ck_S1 zR_p2_s1315 (ck_S1 zR_p2_s1316 (ck_S1 zR_p2_s1317 (ck_S1 zR_p2_s1318 (ck_S1 zR_p2_s1319 (ck_S1 zR_p2_s1320 (ck_S1 zR_p2_s1322 (ck_S1 zR_p2_s1324 (ck_S1 q_p2_s1327_s ck_S0))))))))
theorem am_throwsFor_c : am_throwsFor.all (fun S => w_kR S && w_r true S) = true := by decide +kernel
theorem am_throwsFor_v : bc_cov 60 [(-2147483648, 2147483647), (-2147483648, 2147483647), (-2147483648, 2147483647), (-2147483648, 2147483647)] (am_throwsFor.map bc_box) = true := by decide +kernel
theorem z0_p2_h133 {X : Int → Int} {LX : Nat} : ck_Ok q0_O X LX 168 p2_h133 := q0_l p2_h133_s (by decide +kernel)
theorem z0_p2_h134 {X : Int → Int} {LX : Nat} : ck_Ok q0_O X LX 168 p2_h134 := q0_l p2_h134_s (by decide +kernel)
theorem z0_p2_h135 {X : Int → Int} {LX : Nat} : ck_Ok q0_O X LX 168 p2_h135 := q0_l p2_h135_s (by decide +kernel)
theorem z0_p2_h136 {X : Int → Int} {LX : Nat} : ck_Ok q0_O X LX 168 p2_h136 := q0_l p2_h136_s (by decide +kernel)
theorem z0_p2_h137 {X : Int → Int} {LX : Nat} : ck_Ok q0_O X LX 168 p2_h137 := q0_l p2_h137_s (by decide +kernel)
noncomputable def ax_latest : List ck_Sum := [p2_h133, p2_h134, p2_h135, p2_h136, p2_h137]
theorem ax_latest_s {X : Int → Int} {LX : Nat} : ∀ S ∈ ax_latest, ck_Ok q0_O X LX 168 S := ck_S1 z0_p2_h133 (ck_S1 z0_p2_h134 (ck_S1 z0_p2_h135 (ck_S1 z0_p2_h136 (ck_S1 z0_p2_h137 ck_S0))))
theorem ax_latest_c : ax_latest.all (fun S => w_k q0_O 0 0 1 true S && w_r true S) = true := by decide +kernel
theorem ax_latest_v : bc_cov 60 [(-2147483648, 2147483647), (-2147483648, 2147483647)] (ax_latest.map bc_box) = true := by decide +kernel
theorem zL_pl_h133 {X : Int → Int} {LX : Nat} : ck_Ok qL_O X LX 168 pl_h133 := qL_l pl_h133_s (by decide +kernel)
theorem zL_pl_h134 {X : Int → Int} {LX : Nat} : ck_Ok qL_O X LX 168 pl_h134 := qL_l pl_h134_s (by decide +kernel)
theorem zL_pl_h135 {X : Int → Int} {LX : Nat} : ck_Ok qL_O X LX 168 pl_h135 := qL_l pl_h135_s (by decide +kernel)
theorem zL_pl_h136 {X : Int → Int} {LX : Nat} : ck_Ok qL_O X LX 168 pl_h136 := qL_l pl_h136_s (by decide +kernel)
noncomputable def al_latest : List ck_Sum := [pl_h133, pl_h134, pl_h135, pl_h136, q_pl_h137]
theorem al_latest_s {X : Int → Int} {LX : Nat} : ∀ S ∈ al_latest, ck_Ok qL_O X LX 168 S := ck_S1 zL_pl_h133 (ck_S1 zL_pl_h134 (ck_S1 zL_pl_h135 (ck_S1 zL_pl_h136 (ck_S1 q_pl_h137_s ck_S0))))
theorem al_latest_c : al_latest.all (fun S => w_k qL_O 246 1 1 true S && w_r true S) = true := by decide +kernel
theorem al_latest_v : bc_cov 60 [(-2147483648, 2147483647), (-2147483648, 2147483647)] (al_latest.map bc_box) = true := by decide +kernel
theorem zR_p2_s1334 {X : Int → Int} {LX : Nat} : ck_Ok qR_O X LX 326 p2_s1334 := qR_l p2_s1334_s (by decide +kernel)
theorem zR_p2_s1335 {X : Int → Int} {LX : Nat} : ck_Ok qR_O X LX 326 p2_s1335 := qR_l p2_s1335_s (by decide +kernel)
theorem zR_p2_s1336 {X : Int → Int} {LX : Nat} : ck_Ok qR_O X LX 326 p2_s1336 := qR_l p2_s1336_s (by decide +kernel)
theorem zR_p2_s1337 {X : Int → Int} {LX : Nat} : ck_Ok qR_O X LX 326 p2_s1337 := qR_l p2_s1337_s (by decide +kernel)
noncomputable def am_latest : List ck_Sum := [p2_s1334, p2_s1335, p2_s1336, p2_s1337, q_p2_s1338]
theorem am_latest_s {X : Int → Int} {LX : Nat} : ∀ S ∈ am_latest, ck_Ok qR_O X LX 326 S := ck_S1 zR_p2_s1334 (ck_S1 zR_p2_s1335 (ck_S1 zR_p2_s1336 (ck_S1 zR_p2_s1337 (ck_S1 q_p2_s1338_s ck_S0))))
theorem am_latest_c : am_latest.all (fun S => w_kR S && w_r true S) = true := by decide +kernel
theorem am_latest_v : bc_cov 60 [(-2147483648, 2147483647), (-2147483648, 2147483647)] (am_latest.map bc_box) = true := by decide +kernel
theorem z0_p2_h138 {X : Int → Int} {LX : Nat} : ck_Ok q0_O X LX 171 p2_h138 := q0_l p2_h138_s (by decide +kernel)
theorem z0_p2_h139 {X : Int → Int} {LX : Nat} : ck_Ok q0_O X LX 171 p2_h139 := q0_l p2_h139_s (by decide +kernel)
theorem z0_p2_h140 {X : Int → Int} {LX : Nat} : ck_Ok q0_O X LX 171 p2_h140 := q0_l p2_h140_s (by decide +kernel)
theorem z0_p2_h141 {X : Int → Int} {LX : Nat} : ck_Ok q0_O X LX 171 p2_h141 := q0_l p2_h141_s (by decide +kernel)
theorem z0_p2_h142 {X : Int → Int} {LX : Nat} : ck_Ok q0_O X LX 171 p2_h142 := q0_l p2_h142_s (by decide +kernel)
noncomputable def ax_hut : List ck_Sum := [p2_h138, p2_h139, p2_h140, p2_h141, p2_h142]
theorem ax_hut_s {X : Int → Int} {LX : Nat} : ∀ S ∈ ax_hut, ck_Ok q0_O X LX 171 S := ck_S1 z0_p2_h138 (ck_S1 z0_p2_h139 (ck_S1 z0_p2_h140 (ck_S1 z0_p2_h141 (ck_S1 z0_p2_h142 ck_S0))))
theorem ax_hut_c : ax_hut.all (fun S => w_k q0_O 0 0 1 true S && w_r true S) = true := by decide +kernel
theorem ax_hut_v : bc_cov 60 [(-2147483648, 2147483647), (-2147483648, 2147483647)] (ax_hut.map bc_box) = true := by decide +kernel
theorem zL_pl_h138 {X : Int → Int} {LX : Nat} : ck_Ok qL_O X LX 171 pl_h138 := qL_l pl_h138_s (by decide +kernel)
theorem zL_pl_h139 {X : Int → Int} {LX : Nat} : ck_Ok qL_O X LX 171 pl_h139 := qL_l pl_h139_s (by decide +kernel)
theorem zL_pl_h140 {X : Int → Int} {LX : Nat} : ck_Ok qL_O X LX 171 pl_h140 := qL_l pl_h140_s (by decide +kernel)
theorem zL_pl_h141 {X : Int → Int} {LX : Nat} : ck_Ok qL_O X LX 171 pl_h141 := qL_l pl_h141_s (by decide +kernel)
noncomputable def al_hut : List ck_Sum := [pl_h138, pl_h139, pl_h140, pl_h141, q_pl_h142]
theorem al_hut_s {X : Int → Int} {LX : Nat} : ∀ S ∈ al_hut, ck_Ok qL_O X LX 171 S := ck_S1 zL_pl_h138 (ck_S1 zL_pl_h139 (ck_S1 zL_pl_h140 (ck_S1 zL_pl_h141 (ck_S1 q_pl_h142_s ck_S0))))
theorem al_hut_c : al_hut.all (fun S => w_k qL_O 246 1 1 true S && w_r true S) = true := by decide +kernel
theorem al_hut_v : bc_cov 60 [(-2147483648, 2147483647), (-2147483648, 2147483647)] (al_hut.map bc_box) = true := by decide +kernel
theorem zR_p2_s1344 {X : Int → Int} {LX : Nat} : ck_Ok qR_O X LX 327 p2_s1344 := qR_l p2_s1344_s (by decide +kernel)
theorem zR_p2_s1345 {X : Int → Int} {LX : Nat} : ck_Ok qR_O X LX 327 p2_s1345 := qR_l p2_s1345_s (by decide +kernel)
theorem zR_p2_s1347 {X : Int → Int} {LX : Nat} : ck_Ok qR_O X LX 327 p2_s1347 := qR_l p2_s1347_s (by decide +kernel)
theorem zR_p2_s1349 {X : Int → Int} {LX : Nat} : ck_Ok qR_O X LX 327 p2_s1349 := qR_l p2_s1349_s (by decide +kernel)
noncomputable def am_hut : List ck_Sum := [p2_s1344, p2_s1345, p2_s1347, p2_s1349, q_p2_s1351]
theorem am_hut_s {X : Int → Int} {LX : Nat} : ∀ S ∈ am_hut, ck_Ok qR_O X LX 327 S := ck_S1 zR_p2_s1344 (ck_S1 zR_p2_s1345 (ck_S1 zR_p2_s1347 (ck_S1 zR_p2_s1349 (ck_S1 q_p2_s1351_s ck_S0))))
theorem am_hut_c : am_hut.all (fun S => w_kR S && w_r true S) = true := by decide +kernel
theorem am_hut_v : bc_cov 60 [(-2147483648, 2147483647), (-2147483648, 2147483647)] (am_hut.map bc_box) = true := by decide +kernel
theorem z0_p2_h143 {X : Int → Int} {LX : Nat} : ck_Ok q0_O X LX 173 p2_h143 := q0_l p2_h143_s (by decide +kernel)
theorem z0_p2_h144 {X : Int → Int} {LX : Nat} : ck_Ok q0_O X LX 173 p2_h144 := q0_l p2_h144_s (by decide +kernel)
theorem z0_p2_h145 {X : Int → Int} {LX : Nat} : ck_Ok q0_O X LX 173 p2_h145 := q0_l p2_h145_s (by decide +kernel)
theorem z0_p2_h146 {X : Int → Int} {LX : Nat} : ck_Ok q0_O X LX 173 p2_h146 := q0_l p2_h146_s (by decide +kernel)
theorem z0_p2_h147 {X : Int → Int} {LX : Nat} : ck_Ok q0_O X LX 173 p2_h147 := q0_l p2_h147_s (by decide +kernel)
noncomputable def ax_without : List ck_Sum := [p2_h143, p2_h144, p2_h145, p2_h146, p2_h147]
theorem ax_without_s {X : Int → Int} {LX : Nat} : ∀ S ∈ ax_without, ck_Ok q0_O X LX 173 S := ck_S1 z0_p2_h143 (ck_S1 z0_p2_h144 (ck_S1 z0_p2_h145 (ck_S1 z0_p2_h146 (ck_S1 z0_p2_h147 ck_S0))))
theorem ax_without_c : ax_without.all (fun S => w_k q0_O 0 0 1 true S && w_r true S) = true := by decide +kernel
theorem ax_without_v : bc_cov 60 [(-2147483648, 2147483647), (-2147483648, 2147483647)] (ax_without.map bc_box) = true := by decide +kernel
theorem zL_pl_h143 {X : Int → Int} {LX : Nat} : ck_Ok qL_O X LX 173 pl_h143 := qL_l pl_h143_s (by decide +kernel)
theorem zL_pl_h144 {X : Int → Int} {LX : Nat} : ck_Ok qL_O X LX 173 pl_h144 := qL_l pl_h144_s (by decide +kernel)
theorem zL_pl_h145 {X : Int → Int} {LX : Nat} : ck_Ok qL_O X LX 173 pl_h145 := qL_l pl_h145_s (by decide +kernel)
theorem zL_pl_h146 {X : Int → Int} {LX : Nat} : ck_Ok qL_O X LX 173 pl_h146 := qL_l pl_h146_s (by decide +kernel)
noncomputable def al_without : List ck_Sum := [pl_h143, pl_h144, pl_h145, pl_h146, q_pl_h147]
theorem al_without_s {X : Int → Int} {LX : Nat} : ∀ S ∈ al_without, ck_Ok qL_O X LX 173 S := ck_S1 zL_pl_h143 (ck_S1 zL_pl_h144 (ck_S1 zL_pl_h145 (ck_S1 zL_pl_h146 (ck_S1 q_pl_h147_s ck_S0))))
theorem al_without_c : al_without.all (fun S => w_k qL_O 246 1 1 true S && w_r true S) = true := by decide +kernel
theorem al_without_v : bc_cov 60 [(-2147483648, 2147483647), (-2147483648, 2147483647)] (al_without.map bc_box) = true := by decide +kernel
theorem zR_p2_s1358 {X : Int → Int} {LX : Nat} : ck_Ok qR_O X LX 328 p2_s1358 := qR_l p2_s1358_s (by decide +kernel)
theorem zR_p2_s1359 {X : Int → Int} {LX : Nat} : ck_Ok qR_O X LX 328 p2_s1359 := qR_l p2_s1359_s (by decide +kernel)
theorem zR_p2_s1360 {X : Int → Int} {LX : Nat} : ck_Ok qR_O X LX 328 p2_s1360 := qR_l p2_s1360_s (by decide +kernel)
theorem zR_p2_s1361 {X : Int → Int} {LX : Nat} : ck_Ok qR_O X LX 328 p2_s1361 := qR_l p2_s1361_s (by decide +kernel)
noncomputable def am_without : List ck_Sum := [p2_s1358, p2_s1359, p2_s1360, p2_s1361, q_p2_s1362]
theorem am_without_s {X : Int → Int} {LX : Nat} : ∀ S ∈ am_without, ck_Ok qR_O X LX 328 S := ck_S1 zR_p2_s1358 (ck_S1 zR_p2_s1359 (ck_S1 zR_p2_s1360 (ck_S1 zR_p2_s1361 (ck_S1 q_p2_s1362_s ck_S0))))
theorem am_without_c : am_without.all (fun S => w_kR S && w_r true S) = true := by decide +kernel
theorem am_without_v : bc_cov 60 [(-2147483648, 2147483647), (-2147483648, 2147483647)] (am_without.map bc_box) = true := by decide +kernel
theorem z0_p2_h148 {X : Int → Int} {LX : Nat} : ck_Ok q0_O X LX 176 p2_h148 := q0_l p2_h148_s (by decide +kernel)
theorem z0_p2_h149 {X : Int → Int} {LX : Nat} : ck_Ok q0_O X LX 176 p2_h149 := q0_l p2_h149_s (by decide +kernel)
theorem z0_p2_h150 {X : Int → Int} {LX : Nat} : ck_Ok q0_O X LX 176 p2_h150 := q0_l p2_h150_s (by decide +kernel)
noncomputable def ax_moved : List ck_Sum := [p2_h148, p2_h149, p2_h150]
theorem ax_moved_s {X : Int → Int} {LX : Nat} : ∀ S ∈ ax_moved, ck_Ok q0_O X LX 176 S := ck_S1 z0_p2_h148 (ck_S1 z0_p2_h149 (ck_S1 z0_p2_h150 ck_S0))
theorem ax_moved_c : ax_moved.all (fun S => w_k q0_O 0 0 1 true S && w_r true S) = true := by decide +kernel
theorem ax_moved_v : bc_cov 60 [(-2147483648, 2147483647)] (ax_moved.map bc_box) = true := by decide +kernel
theorem zL_pl_h148 {X : Int → Int} {LX : Nat} : ck_Ok qL_O X LX 176 pl_h148 := qL_l pl_h148_s (by decide +kernel)
theorem zL_pl_h149 {X : Int → Int} {LX : Nat} : ck_Ok qL_O X LX 176 pl_h149 := qL_l pl_h149_s (by decide +kernel)
noncomputable def al_moved : List ck_Sum := [pl_h148, pl_h149, q_pl_h150]
theorem al_moved_s {X : Int → Int} {LX : Nat} : ∀ S ∈ al_moved, ck_Ok qL_O X LX 176 S := ck_S1 zL_pl_h148 (ck_S1 zL_pl_h149 (ck_S1 q_pl_h150_s ck_S0))
theorem al_moved_c : al_moved.all (fun S => w_k qL_O 246 1 1 true S && w_r true S) = true := by decide +kernel
theorem al_moved_v : bc_cov 60 [(-2147483648, 2147483647)] (al_moved.map bc_box) = true := by decide +kernel
theorem zR_p2_s1366 {X : Int → Int} {LX : Nat} : ck_Ok qR_O X LX 329 p2_s1366 := qR_l p2_s1366_s (by decide +kernel)
theorem zR_p2_s1367 {X : Int → Int} {LX : Nat} : ck_Ok qR_O X LX 329 p2_s1367 := qR_l p2_s1367_s (by decide +kernel)
noncomputable def am_moved : List ck_Sum := [p2_s1366, p2_s1367, q_p2_s1368]
theorem am_moved_s {X : Int → Int} {LX : Nat} : ∀ S ∈ am_moved, ck_Ok qR_O X LX 329 S := ck_S1 zR_p2_s1366 (ck_S1 zR_p2_s1367 (ck_S1 q_p2_s1368_s ck_S0))
theorem am_moved_c : am_moved.all (fun S => w_kR S && w_r true S) = true := by decide +kernel
theorem am_moved_v : bc_cov 60 [(-2147483648, 2147483647)] (am_moved.map bc_box) = true := by decide +kernel
noncomputable def ax_lost : List ck_Sum := [q_p2_s1369]
theorem ax_lost_s {X : Int → Int} {LX : Nat} : ∀ S ∈ ax_lost, ck_Ok q0_O X LX 23 S := ck_S1 q_p2_s1369_s ck_S0
theorem ax_lost_c : ax_lost.all (fun S => w_k q0_O 0 0 1 false S && w_r true S) = true := by decide +kernel
theorem ax_lost_v : bc_cov 60 [] (ax_lost.map bc_box) = true := by decide +kernel
noncomputable def al_lost : List ck_Sum := [q_pl_s713]
theorem al_lost_s {X : Int → Int} {LX : Nat} : ∀ S ∈ al_lost, ck_Ok qL_O X LX 23 S := ck_S1 q_pl_s713_s ck_S0
theorem al_lost_c : al_lost.all (fun S => w_k qL_O 246 1 1 false S && w_r true S) = true := by decide +kernel
theorem al_lost_v : bc_cov 60 [] (al_lost.map bc_box) = true := by decide +kernel
noncomputable def am_lost : List ck_Sum := [q_p2_s1370]
theorem am_lost_s {X : Int → Int} {LX : Nat} : ∀ S ∈ am_lost, ck_Ok qR_O X LX 330 S := ck_S1 q_p2_s1370_s ck_S0
theorem am_lost_c : am_lost.all (fun S => w_kR S && w_r true S) = true := by decide +kernel
theorem am_lost_v : bc_cov 60 [] (am_lost.map bc_box) = true := by decide +kernel
noncomputable def ax_market : List ck_Sum := [q_p2_s1372]
theorem ax_market_s {X : Int → Int} {LX : Nat} : ∀ S ∈ ax_market, ck_Ok q0_O X LX 46 S := ck_S1 q_p2_s1372_s ck_S0
theorem ax_market_c : ax_market.all (fun S => w_k q0_O 0 0 1 false S && w_r true S) = true := by decide +kernel
theorem ax_market_v : bc_cov 60 [(0, 1)] (ax_market.map bc_box) = true := by decide +kernel
noncomputable def al_market : List ck_Sum := [q_pl_s715]
theorem al_market_s {X : Int → Int} {LX : Nat} : ∀ S ∈ al_market, ck_Ok qL_O X LX 46 S := ck_S1 q_pl_s715_s ck_S0
theorem al_market_c : al_market.all (fun S => w_k qL_O 246 1 1 false S && w_r true S) = true := by decide +kernel
theorem al_market_v : bc_cov 60 [(0, 1)] (al_market.map bc_box) = true := by decide +kernel
noncomputable def am_market : List ck_Sum := [q_p2_s1375]
theorem am_market_s {X : Int → Int} {LX : Nat} : ∀ S ∈ am_market, ck_Ok qR_O X LX 331 S := ck_S1 q_p2_s1375_s ck_S0
theorem am_market_c : am_market.all (fun S => w_kR S && w_r true S) = true := by decide +kernel
theorem am_market_v : bc_cov 60 [(0, 1)] (am_market.map bc_box) = true := by decide +kernel
theorem z0_p2_h151 {X : Int → Int} {LX : Nat} : ck_Ok q0_O X LX 178 p2_h151 := q0_l p2_h151_s (by decide +kernel)
theorem z0_p2_h152 {X : Int → Int} {LX : Nat} : ck_Ok q0_O X LX 178 p2_h152 := q0_l p2_h152_s (by decide +kernel)
theorem z0_p2_h153 {X : Int → Int} {LX : Nat} : ck_Ok q0_O X LX 178 p2_h153 := q0_l p2_h153_s (by decide +kernel)
noncomputable def ax_passes : List ck_Sum := [p2_h151, p2_h152, p2_h153]
theorem ax_passes_s {X : Int → Int} {LX : Nat} : ∀ S ∈ ax_passes, ck_Ok q0_O X LX 178 S := ck_S1 z0_p2_h151 (ck_S1 z0_p2_h152 (ck_S1 z0_p2_h153 ck_S0))
theorem ax_passes_c : ax_passes.all (fun S => w_k q0_O 0 0 1 true S && w_r true S) = true := by decide +kernel
theorem ax_passes_v : bc_cov 60 [(-2147483648, 2147483647)] (ax_passes.map bc_box) = true := by decide +kernel
theorem zL_pl_h151 {X : Int → Int} {LX : Nat} : ck_Ok qL_O X LX 178 pl_h151 := qL_l pl_h151_s (by decide +kernel)
theorem zL_pl_h152 {X : Int → Int} {LX : Nat} : ck_Ok qL_O X LX 178 pl_h152 := qL_l pl_h152_s (by decide +kernel)
noncomputable def al_passes : List ck_Sum := [pl_h151, pl_h152, q_pl_h153]
theorem al_passes_s {X : Int → Int} {LX : Nat} : ∀ S ∈ al_passes, ck_Ok qL_O X LX 178 S := ck_S1 zL_pl_h151 (ck_S1 zL_pl_h152 (ck_S1 q_pl_h153_s ck_S0))
theorem al_passes_c : al_passes.all (fun S => w_k qL_O 246 1 1 true S && w_r true S) = true := by decide +kernel
theorem al_passes_v : bc_cov 60 [(-2147483648, 2147483647)] (al_passes.map bc_box) = true := by decide +kernel
theorem zR_p2_s1392 {X : Int → Int} {LX : Nat} : ck_Ok qR_O X LX 334 p2_s1392 := qR_l p2_s1392_s (by decide +kernel)
theorem zR_p2_s1393 {X : Int → Int} {LX : Nat} : ck_Ok qR_O X LX 334 p2_s1393 := qR_l p2_s1393_s (by decide +kernel)
noncomputable def am_passes : List ck_Sum := [p2_s1392, p2_s1393, q_p2_s1398]
theorem am_passes_s {X : Int → Int} {LX : Nat} : ∀ S ∈ am_passes, ck_Ok qR_O X LX 334 S := ck_S1 zR_p2_s1392 (ck_S1 zR_p2_s1393 (ck_S1 q_p2_s1398_s ck_S0))
theorem am_passes_c : am_passes.all (fun S => w_kR S && w_r true S) = true := by decide +kernel
theorem am_passes_v : bc_cov 60 [(-2147483648, 2147483647)] (am_passes.map bc_box) = true := by decide +kernel
theorem z0_p2_h154 {X : Int → Int} {LX : Nat} : ck_Ok q0_O X LX 185 p2_h154 := q0_l p2_h154_s (by decide +kernel)
theorem z0_p2_h155 {X : Int → Int} {LX : Nat} : ck_Ok q0_O X LX 185 p2_h155 := q0_l p2_h155_s (by decide +kernel)
theorem z0_p2_h156 {X : Int → Int} {LX : Nat} : ck_Ok q0_O X LX 185 p2_h156 := q0_l p2_h156_s (by decide +kernel)
theorem z0_p2_h157 {X : Int → Int} {LX : Nat} : ck_Ok q0_O X LX 185 p2_h157 := q0_l p2_h157_s (by decide +kernel)
theorem z0_p2_h158 {X : Int → Int} {LX : Nat} : ck_Ok q0_O X LX 185 p2_h158 := q0_l p2_h158_s (by decide +kernel)
theorem z0_p2_h159 {X : Int → Int} {LX : Nat} : ck_Ok q0_O X LX 185 p2_h159 := q0_l p2_h159_s (by decide +kernel)
theorem z0_p2_h160 {X : Int → Int} {LX : Nat} : ck_Ok q0_O X LX 185 p2_h160 := q0_l p2_h160_s (by decide +kernel)
noncomputable def ax_writers : List ck_Sum := [p2_h154, p2_h155, p2_h156, p2_h157, p2_h158, p2_h159, p2_h160]
theorem ax_writers_s {X : Int → Int} {LX : Nat} : ∀ S ∈ ax_writers, ck_Ok q0_O X LX 185 S := ck_S1 z0_p2_h154 (ck_S1 z0_p2_h155 (ck_S1 z0_p2_h156 (ck_S1 z0_p2_h157 (ck_S1 z0_p2_h158 (ck_S1 z0_p2_h159 (ck_S1 z0_p2_h160 ck_S0))))))
theorem ax_writers_c : ax_writers.all (fun S => w_k q0_O 0 0 1 true S && w_r true S) = true := by decide +kernel
theorem ax_writers_v : bc_cov 60 [(-2147483648, 2147483647), (-2147483648, 2147483647), (-2147483648, 2147483647)] (ax_writers.map bc_box) = true := by decide +kernel
theorem zL_pl_h154 {X : Int → Int} {LX : Nat} : ck_Ok qL_O X LX 185 pl_h154 := qL_l pl_h154_s (by decide +kernel)
theorem zL_pl_h155 {X : Int → Int} {LX : Nat} : ck_Ok qL_O X LX 185 pl_h155 := qL_l pl_h155_s (by decide +kernel)
theorem zL_pl_h156 {X : Int → Int} {LX : Nat} : ck_Ok qL_O X LX 185 pl_h156 := qL_l pl_h156_s (by decide +kernel)
theorem zL_pl_h157 {X : Int → Int} {LX : Nat} : ck_Ok qL_O X LX 185 pl_h157 := qL_l pl_h157_s (by decide +kernel)
theorem zL_pl_h158 {X : Int → Int} {LX : Nat} : ck_Ok qL_O X LX 185 pl_h158 := qL_l pl_h158_s (by decide +kernel)
theorem zL_pl_h159 {X : Int → Int} {LX : Nat} : ck_Ok qL_O X LX 185 pl_h159 := qL_l pl_h159_s (by decide +kernel)
noncomputable def al_writers : List ck_Sum := [pl_h154, pl_h155, pl_h156, pl_h157, pl_h158, pl_h159, q_pl_h160]
theorem al_writers_s {X : Int → Int} {LX : Nat} : ∀ S ∈ al_writers, ck_Ok qL_O X LX 185 S := ck_S1 zL_pl_h154 (ck_S1 zL_pl_h155 (ck_S1 zL_pl_h156 (ck_S1 zL_pl_h157 (ck_S1 zL_pl_h158 (ck_S1 zL_pl_h159 (ck_S1 q_pl_h160_s ck_S0))))))
theorem al_writers_c : al_writers.all (fun S => w_k qL_O 246 1 1 true S && w_r true S) = true := by decide +kernel
theorem al_writers_v : bc_cov 60 [(-2147483648, 2147483647), (-2147483648, 2147483647), (-2147483648, 2147483647)] (al_writers.map bc_box) = true := by decide +kernel
theorem zR_p2_s1412 {X : Int → Int} {LX : Nat} : ck_Ok qR_O X LX 338 p2_s1412 := qR_l p2_s1412_s (by decide +kernel)
theorem zR_p2_s1413 {X : Int → Int} {LX : Nat} : ck_Ok qR_O X LX 338 p2_s1413 := qR_l p2_s1413_s (by decide +kernel)
theorem zR_p2_s1414 {X : Int → Int} {LX : Nat} : ck_Ok qR_O X LX 338 p2_s1414 := qR_l p2_s1414_s (by decide +kernel)
theorem zR_p2_s1415 {X : Int → Int} {LX : Nat} : ck_Ok qR_O X LX 338 p2_s1415 := qR_l p2_s1415_s (by decide +kernel)
theorem zR_p2_s1417 {X : Int → Int} {LX : Nat} : ck_Ok qR_O X LX 338 p2_s1417 := qR_l p2_s1417_s (by decide +kernel)
theorem zR_p2_s1419 {X : Int → Int} {LX : Nat} : ck_Ok qR_O X LX 338 p2_s1419 := qR_l p2_s1419_s (by decide +kernel)
noncomputable def am_writers : List ck_Sum := [p2_s1412, p2_s1413, p2_s1414, p2_s1415, p2_s1417, p2_s1419, q_p2_s1422]
theorem am_writers_s {X : Int → Int} {LX : Nat} : ∀ S ∈ am_writers, ck_Ok qR_O X LX 338 S := ck_S1 zR_p2_s1412 (ck_S1 zR_p2_s1413 (ck_S1 zR_p2_s1414 (ck_S1 zR_p2_s1415 (ck_S1 zR_p2_s1417 (ck_S1 zR_p2_s1419 (ck_S1 q_p2_s1422_s ck_S0))))))
theorem am_writers_c : am_writers.all (fun S => w_kR S && w_r true S) = true := by decide +kernel
theorem am_writers_v : bc_cov 60 [(-2147483648, 2147483647), (-2147483648, 2147483647), (-2147483648, 2147483647)] (am_writers.map bc_box) = true := by decide +kernel
theorem z0_p2_h161 {X : Int → Int} {LX : Nat} : ck_Ok q0_O X LX 189 p2_h161 := q0_l p2_h161_s (by decide +kernel)
theorem z0_p2_h162 {X : Int → Int} {LX : Nat} : ck_Ok q0_O X LX 189 p2_h162 := q0_l p2_h162_s (by decide +kernel)
theorem z0_p2_h163 {X : Int → Int} {LX : Nat} : ck_Ok q0_O X LX 189 p2_h163 := q0_l p2_h163_s (by decide +kernel)
theorem z0_p2_h164 {X : Int → Int} {LX : Nat} : ck_Ok q0_O X LX 189 p2_h164 := q0_l p2_h164_s (by decide +kernel)
theorem z0_p2_h165 {X : Int → Int} {LX : Nat} : ck_Ok q0_O X LX 189 p2_h165 := q0_l p2_h165_s (by decide +kernel)
theorem z0_p2_h166 {X : Int → Int} {LX : Nat} : ck_Ok q0_O X LX 189 p2_h166 := q0_l p2_h166_s (by decide +kernel)
theorem z0_p2_h167 {X : Int → Int} {LX : Nat} : ck_Ok q0_O X LX 189 p2_h167 := q0_l p2_h167_s (by decide +kernel)
theorem z0_p2_h168 {X : Int → Int} {LX : Nat} : ck_Ok q0_O X LX 189 p2_h168 := q0_l p2_h168_s (by decide +kernel)
theorem z0_p2_h169 {X : Int → Int} {LX : Nat} : ck_Ok q0_O X LX 189 p2_h169 := q0_l p2_h169_s (by decide +kernel)
noncomputable def ax_wrote : List ck_Sum := [p2_h161, p2_h162, p2_h163, p2_h164, p2_h165, p2_h166, p2_h167, p2_h168, p2_h169]
theorem ax_wrote_s {X : Int → Int} {LX : Nat} : ∀ S ∈ ax_wrote, ck_Ok q0_O X LX 189 S := ck_S1 z0_p2_h161 (ck_S1 z0_p2_h162 (ck_S1 z0_p2_h163 (ck_S1 z0_p2_h164 (ck_S1 z0_p2_h165 (ck_S1 z0_p2_h166 (ck_S1 z0_p2_h167 (ck_S1 z0_p2_h168 (ck_S1 z0_p2_h169 ck_S0))))))))
theorem ax_wrote_c : ax_wrote.all (fun S => w_k q0_O 0 0 1 true S && w_r true S) = true := by decide +kernel
theorem ax_wrote_v : bc_cov 60 [(-2147483648, 2147483647), (-2147483648, 2147483647), (-2147483648, 2147483647), (-2147483648, 2147483647)] (ax_wrote.map bc_box) = true := by decide +kernel
theorem zL_pl_h161 {X : Int → Int} {LX : Nat} : ck_Ok qL_O X LX 189 pl_h161 := qL_l pl_h161_s (by decide +kernel)
theorem zL_pl_h162 {X : Int → Int} {LX : Nat} : ck_Ok qL_O X LX 189 pl_h162 := qL_l pl_h162_s (by decide +kernel)
theorem zL_pl_h163 {X : Int → Int} {LX : Nat} : ck_Ok qL_O X LX 189 pl_h163 := qL_l pl_h163_s (by decide +kernel)
theorem zL_pl_h164 {X : Int → Int} {LX : Nat} : ck_Ok qL_O X LX 189 pl_h164 := qL_l pl_h164_s (by decide +kernel)
theorem zL_pl_h165 {X : Int → Int} {LX : Nat} : ck_Ok qL_O X LX 189 pl_h165 := qL_l pl_h165_s (by decide +kernel)
theorem zL_pl_h166 {X : Int → Int} {LX : Nat} : ck_Ok qL_O X LX 189 pl_h166 := qL_l pl_h166_s (by decide +kernel)
theorem zL_pl_h167 {X : Int → Int} {LX : Nat} : ck_Ok qL_O X LX 189 pl_h167 := qL_l pl_h167_s (by decide +kernel)
theorem zL_pl_h168 {X : Int → Int} {LX : Nat} : ck_Ok qL_O X LX 189 pl_h168 := qL_l pl_h168_s (by decide +kernel)
noncomputable def al_wrote : List ck_Sum := [pl_h161, pl_h162, pl_h163, pl_h164, pl_h165, pl_h166, pl_h167, pl_h168, q_pl_h169]
theorem al_wrote_s {X : Int → Int} {LX : Nat} : ∀ S ∈ al_wrote, ck_Ok qL_O X LX 189 S := ck_S1 zL_pl_h161 (ck_S1 zL_pl_h162 (ck_S1 zL_pl_h163 (ck_S1 zL_pl_h164 (ck_S1 zL_pl_h165 (ck_S1 zL_pl_h166 (ck_S1 zL_pl_h167 (ck_S1 zL_pl_h168 (ck_S1 q_pl_h169_s ck_S0))))))))
theorem al_wrote_c : al_wrote.all (fun S => w_k qL_O 246 1 1 true S && w_r true S) = true := by decide +kernel
theorem al_wrote_v : bc_cov 60 [(-2147483648, 2147483647), (-2147483648, 2147483647), (-2147483648, 2147483647), (-2147483648, 2147483647)] (al_wrote.map bc_box) = true := by decide +kernel
theorem zR_p2_s1432 {X : Int → Int} {LX : Nat} : ck_Ok qR_O X LX 340 p2_s1432 := qR_l p2_s1432_s (by decide +kernel)
theorem zR_p2_s1433 {X : Int → Int} {LX : Nat} : ck_Ok qR_O X LX 340 p2_s1433 := qR_l p2_s1433_s (by decide +kernel)
theorem zR_p2_s1434 {X : Int → Int} {LX : Nat} : ck_Ok qR_O X LX 340 p2_s1434 := qR_l p2_s1434_s (by decide +kernel)
theorem zR_p2_s1435 {X : Int → Int} {LX : Nat} : ck_Ok qR_O X LX 340 p2_s1435 := qR_l p2_s1435_s (by decide +kernel)
theorem zR_p2_s1436 {X : Int → Int} {LX : Nat} : ck_Ok qR_O X LX 340 p2_s1436 := qR_l p2_s1436_s (by decide +kernel)
theorem zR_p2_s1437 {X : Int → Int} {LX : Nat} : ck_Ok qR_O X LX 340 p2_s1437 := qR_l p2_s1437_s (by decide +kernel)
theorem zR_p2_s1438 {X : Int → Int} {LX : Nat} : ck_Ok qR_O X LX 340 p2_s1438 := qR_l p2_s1438_s (by decide +kernel)
theorem zR_p2_s1439 {X : Int → Int} {LX : Nat} : ck_Ok qR_O X LX 340 p2_s1439 := qR_l p2_s1439_s (by decide +kernel)
noncomputable def am_wrote : List ck_Sum := [p2_s1432, p2_s1433, p2_s1434, p2_s1435, p2_s1436, p2_s1437, p2_s1438, p2_s1439, q_p2_s1440]
theorem am_wrote_s {X : Int → Int} {LX : Nat} : ∀ S ∈ am_wrote, ck_Ok qR_O X LX 340 S := ck_S1 zR_p2_s1432 (ck_S1 zR_p2_s1433 (ck_S1 zR_p2_s1434 (ck_S1 zR_p2_s1435 (ck_S1 zR_p2_s1436 (ck_S1 zR_p2_s1437 (ck_S1 zR_p2_s1438 (ck_S1 zR_p2_s1439 (ck_S1 q_p2_s1440_s ck_S0))))))))
theorem am_wrote_c : am_wrote.all (fun S => w_kR S && w_r true S) = true := by decide +kernel
theorem am_wrote_v : bc_cov 60 [(-2147483648, 2147483647), (-2147483648, 2147483647), (-2147483648, 2147483647), (-2147483648, 2147483647)] (am_wrote.map bc_box) = true := by decide +kernel
theorem z0_p2_h170 {X : Int → Int} {LX : Nat} : ck_Ok q0_O X LX 191 p2_h170 := q0_l p2_h170_s (by decide +kernel)
theorem z0_p2_h171 {X : Int → Int} {LX : Nat} : ck_Ok q0_O X LX 191 p2_h171 := q0_l p2_h171_s (by decide +kernel)
theorem z0_p2_h172 {X : Int → Int} {LX : Nat} : ck_Ok q0_O X LX 191 p2_h172 := q0_l p2_h172_s (by decide +kernel)
theorem z0_p2_h173 {X : Int → Int} {LX : Nat} : ck_Ok q0_O X LX 191 p2_h173 := q0_l p2_h173_s (by decide +kernel)
theorem z0_p2_h174 {X : Int → Int} {LX : Nat} : ck_Ok q0_O X LX 191 p2_h174 := q0_l p2_h174_s (by decide +kernel)
noncomputable def ax_table : List ck_Sum := [p2_h170, p2_h171, p2_h172, p2_h173, p2_h174]
theorem ax_table_s {X : Int → Int} {LX : Nat} : ∀ S ∈ ax_table, ck_Ok q0_O X LX 191 S := ck_S1 z0_p2_h170 (ck_S1 z0_p2_h171 (ck_S1 z0_p2_h172 (ck_S1 z0_p2_h173 (ck_S1 z0_p2_h174 ck_S0))))
theorem ax_table_c : ax_table.all (fun S => w_k q0_O 0 0 1 true S && w_r true S) = true := by decide +kernel
theorem ax_table_v : bc_cov 60 [(-2147483648, 2147483647), (-2147483648, 2147483647)] (ax_table.map bc_box) = true := by decide +kernel
theorem zL_pl_h170 {X : Int → Int} {LX : Nat} : ck_Ok qL_O X LX 191 pl_h170 := qL_l pl_h170_s (by decide +kernel)
theorem zL_pl_h171 {X : Int → Int} {LX : Nat} : ck_Ok qL_O X LX 191 pl_h171 := qL_l pl_h171_s (by decide +kernel)
theorem zL_pl_h172 {X : Int → Int} {LX : Nat} : ck_Ok qL_O X LX 191 pl_h172 := qL_l pl_h172_s (by decide +kernel)
theorem zL_pl_h173 {X : Int → Int} {LX : Nat} : ck_Ok qL_O X LX 191 pl_h173 := qL_l pl_h173_s (by decide +kernel)
theorem zL_pl_h174 {X : Int → Int} {LX : Nat} : ck_Ok qL_O X LX 191 pl_h174 := qL_l pl_h174_s (by decide +kernel)
noncomputable def al_table : List ck_Sum := [pl_h170, pl_h171, pl_h172, pl_h173, pl_h174]
theorem al_table_s {X : Int → Int} {LX : Nat} : ∀ S ∈ al_table, ck_Ok qL_O X LX 191 S := ck_S1 zL_pl_h170 (ck_S1 zL_pl_h171 (ck_S1 zL_pl_h172 (ck_S1 zL_pl_h173 (ck_S1 zL_pl_h174 ck_S0))))
theorem al_table_c : al_table.all (fun S => w_k qL_O 246 1 1 true S && w_r true S) = true := by decide +kernel
theorem al_table_v : bc_cov 60 [(-2147483648, 2147483647), (-2147483648, 2147483647)] (al_table.map bc_box) = true := by decide +kernel
theorem zR_p2_s1455 {X : Int → Int} {LX : Nat} : ck_Ok qR_O X LX 341 p2_s1455 := qR_l p2_s1455_s (by decide +kernel)
theorem zR_p2_s1457 {X : Int → Int} {LX : Nat} : ck_Ok qR_O X LX 341 p2_s1457 := qR_l p2_s1457_s (by decide +kernel)
theorem zR_p2_s1459 {X : Int → Int} {LX : Nat} : ck_Ok qR_O X LX 341 p2_s1459 := qR_l p2_s1459_s (by decide +kernel)
theorem zR_p2_s1460 {X : Int → Int} {LX : Nat} : ck_Ok qR_O X LX 341 p2_s1460 := qR_l p2_s1460_s (by decide +kernel)
theorem zR_p2_s1462 {X : Int → Int} {LX : Nat} : ck_Ok qR_O X LX 341 p2_s1462 := qR_l p2_s1462_s (by decide +kernel)
noncomputable def am_table : List ck_Sum := [p2_s1455, p2_s1457, p2_s1459, p2_s1460, p2_s1462]
theorem am_table_s {X : Int → Int} {LX : Nat} : ∀ S ∈ am_table, ck_Ok qR_O X LX 341 S := ck_S1 zR_p2_s1455 (ck_S1 zR_p2_s1457 (ck_S1 zR_p2_s1459 (ck_S1 zR_p2_s1460 (ck_S1 zR_p2_s1462 ck_S0))))
theorem am_table_c : am_table.all (fun S => w_kR S && w_r true S) = true := by decide +kernel
theorem am_table_v : bc_cov 60 [(-2147483648, 2147483647), (-2147483648, 2147483647)] (am_table.map bc_box) = true := by decide +kernel
theorem z0_p2_h175 {X : Int → Int} {LX : Nat} : ck_Ok q0_O X LX 194 p2_h175 := q0_l p2_h175_s (by decide +kernel)
theorem z0_p2_h176 {X : Int → Int} {LX : Nat} : ck_Ok q0_O X LX 194 p2_h176 := q0_l p2_h176_s (by decide +kernel)
theorem z0_p2_h177 {X : Int → Int} {LX : Nat} : ck_Ok q0_O X LX 194 p2_h177 := q0_l p2_h177_s (by decide +kernel)
theorem z0_p2_h178 {X : Int → Int} {LX : Nat} : ck_Ok q0_O X LX 194 p2_h178 := q0_l p2_h178_s (by decide +kernel)
theorem z0_p2_h179 {X : Int → Int} {LX : Nat} : ck_Ok q0_O X LX 194 p2_h179 := q0_l p2_h179_s (by decide +kernel)
noncomputable def ax_apart : List ck_Sum := [p2_h175, p2_h176, p2_h177, p2_h178, p2_h179]
theorem ax_apart_s {X : Int → Int} {LX : Nat} : ∀ S ∈ ax_apart, ck_Ok q0_O X LX 194 S := ck_S1 z0_p2_h175 (ck_S1 z0_p2_h176 (ck_S1 z0_p2_h177 (ck_S1 z0_p2_h178 (ck_S1 z0_p2_h179 ck_S0))))
theorem ax_apart_c : ax_apart.all (fun S => w_k q0_O 0 0 1 true S && w_r true S) = true := by decide +kernel
theorem ax_apart_v : bc_cov 60 [(-2147483648, 2147483647), (-2147483648, 2147483647), (-2147483648, 2147483647)] (ax_apart.map bc_box) = true := by decide +kernel
theorem zL_pl_h175 {X : Int → Int} {LX : Nat} : ck_Ok qL_O X LX 194 pl_h175 := qL_l pl_h175_s (by decide +kernel)
theorem zL_pl_h176 {X : Int → Int} {LX : Nat} : ck_Ok qL_O X LX 194 pl_h176 := qL_l pl_h176_s (by decide +kernel)
theorem zL_pl_h177 {X : Int → Int} {LX : Nat} : ck_Ok qL_O X LX 194 pl_h177 := qL_l pl_h177_s (by decide +kernel)
theorem zL_pl_h178 {X : Int → Int} {LX : Nat} : ck_Ok qL_O X LX 194 pl_h178 := qL_l pl_h178_s (by decide +kernel)
theorem zL_pl_h179 {X : Int → Int} {LX : Nat} : ck_Ok qL_O X LX 194 pl_h179 := qL_l pl_h179_s (by decide +kernel)
noncomputable def al_apart : List ck_Sum := [pl_h175, pl_h176, pl_h177, pl_h178, pl_h179]
theorem al_apart_s {X : Int → Int} {LX : Nat} : ∀ S ∈ al_apart, ck_Ok qL_O X LX 194 S := ck_S1 zL_pl_h175 (ck_S1 zL_pl_h176 (ck_S1 zL_pl_h177 (ck_S1 zL_pl_h178 (ck_S1 zL_pl_h179 ck_S0))))
theorem al_apart_c : al_apart.all (fun S => w_k qL_O 246 1 1 true S && w_r true S) = true := by decide +kernel
theorem al_apart_v : bc_cov 60 [(-2147483648, 2147483647), (-2147483648, 2147483647), (-2147483648, 2147483647)] (al_apart.map bc_box) = true := by decide +kernel
theorem zR_p2_s1469 {X : Int → Int} {LX : Nat} : ck_Ok qR_O X LX 344 p2_s1469 := qR_l p2_s1469_s (by decide +kernel)
theorem zR_p2_s1470 {X : Int → Int} {LX : Nat} : ck_Ok qR_O X LX 344 p2_s1470 := qR_l p2_s1470_s (by decide +kernel)
theorem zR_p2_s1471 {X : Int → Int} {LX : Nat} : ck_Ok qR_O X LX 344 p2_s1471 := qR_l p2_s1471_s (by decide +kernel)
theorem zR_p2_s1472 {X : Int → Int} {LX : Nat} : ck_Ok qR_O X LX 344 p2_s1472 := qR_l p2_s1472_s (by decide +kernel)
theorem zR_p2_s1475 {X : Int → Int} {LX : Nat} : ck_Ok qR_O X LX 344 p2_s1475 := qR_l p2_s1475_s (by decide +kernel)
noncomputable def am_apart : List ck_Sum := [p2_s1469, p2_s1470, p2_s1471, p2_s1472, p2_s1475]
theorem am_apart_s {X : Int → Int} {LX : Nat} : ∀ S ∈ am_apart, ck_Ok qR_O X LX 344 S := ck_S1 zR_p2_s1469 (ck_S1 zR_p2_s1470 (ck_S1 zR_p2_s1471 (ck_S1 zR_p2_s1472 (ck_S1 zR_p2_s1475 ck_S0))))
theorem am_apart_c : am_apart.all (fun S => w_kR S && w_r true S) = true := by decide +kernel
theorem am_apart_v : bc_cov 60 [(-2147483648, 2147483647), (-2147483648, 2147483647), (-2147483648, 2147483647)] (am_apart.map bc_box) = true := by decide +kernel
theorem z0_p2_s1478 {X : Int → Int} {LX : Nat} : ck_Ok q0_O X LX 48 p2_s1478 := q0_l p2_s1478_s (by decide +kernel)
noncomputable def ax_poles : List ck_Sum := [p2_s1478]
theorem ax_poles_s {X : Int → Int} {LX : Nat} : ∀ S ∈ ax_poles, ck_Ok q0_O X LX 48 S := ck_S1 z0_p2_s1478 ck_S0
theorem ax_poles_c : ax_poles.all (fun S => w_k q0_O 0 0 1 false S && w_r true S) = true := by decide +kernel
theorem ax_poles_v : bc_cov 60 [] (ax_poles.map bc_box) = true := by decide +kernel
theorem zL_pl_s775 {X : Int → Int} {LX : Nat} : ck_Ok qL_O X LX 48 pl_s775 := qL_l pl_s775_s (by decide +kernel)
noncomputable def al_poles : List ck_Sum := [pl_s775]
theorem al_poles_s {X : Int → Int} {LX : Nat} : ∀ S ∈ al_poles, ck_Ok qL_O X LX 48 S := ck_S1 zL_pl_s775 ck_S0
theorem al_poles_c : al_poles.all (fun S => w_k qL_O 246 1 1 false S && w_r true S) = true := by decide +kernel
theorem al_poles_v : bc_cov 60 [] (al_poles.map bc_box) = true := by decide +kernel
theorem zR_p2_s1479 {X : Int → Int} {LX : Nat} : ck_Ok qR_O X LX 347 p2_s1479 := qR_l p2_s1479_s (by decide +kernel)
noncomputable def am_poles : List ck_Sum := [p2_s1479]
theorem am_poles_s {X : Int → Int} {LX : Nat} : ∀ S ∈ am_poles, ck_Ok qR_O X LX 347 S := ck_S1 zR_p2_s1479 ck_S0
theorem am_poles_c : am_poles.all (fun S => w_kR S && w_r true S) = true := by decide +kernel
theorem am_poles_v : bc_cov 60 [] (am_poles.map bc_box) = true := by decide +kernel
noncomputable def ax_fit : List ck_Sum := [p2_h180]
theorem ax_fit_s {X : Int → Int} {LX : Nat} : ∀ S ∈ ax_fit, ck_Ok p2_O X LX 196 S := ck_S1 p2_h180_s ck_S0
theorem ax_fit_c : ax_fit.all (fun S => w_ft p2_O 0 0 1 true 1 1 S && w_r true S) = true := by decide +kernel
theorem ax_fit_v : bc_cov 60 [] (ax_fit.map bc_box) = true := by decide +kernel
noncomputable def al_fit : List ck_Sum := [pl_h180]
theorem al_fit_s {X : Int → Int} {LX : Nat} : ∀ S ∈ al_fit, ck_Ok p2_OL X LX 196 S := ck_S1 pl_h180_s ck_S0
theorem al_fit_c : al_fit.all (fun S => w_ft p2_OL 246 1 1 true 1 1 S && w_r true S) = true := by decide +kernel
theorem al_fit_v : bc_cov 60 [] (al_fit.map bc_box) = true := by decide +kernel
noncomputable def am_fit : List ck_Sum := [p2_s1487]
theorem am_fit_s {X : Int → Int} {LX : Nat} : ∀ S ∈ am_fit, ck_Ok p2_O X LX 348 S := ck_S1 p2_s1487_s ck_S0
theorem am_fit_c : am_fit.all (fun S => w_ft p2_O 100003 0 226 false 226 8 S && w_r true S) = true := by decide +kernel
theorem am_fit_v : bc_cov 60 [] (am_fit.map bc_box) = true := by decide +kernel
theorem z0_p2_h181 {X : Int → Int} {LX : Nat} : ck_Ok q0_O X LX 200 p2_h181 := q0_l p2_h181_s (by decide +kernel)
theorem z0_p2_h182 {X : Int → Int} {LX : Nat} : ck_Ok q0_O X LX 200 p2_h182 := q0_l p2_h182_s (by decide +kernel)
theorem z0_p2_h183 {X : Int → Int} {LX : Nat} : ck_Ok q0_O X LX 200 p2_h183 := q0_l p2_h183_s (by decide +kernel)
theorem z0_p2_h184 {X : Int → Int} {LX : Nat} : ck_Ok q0_O X LX 200 p2_h184 := q0_l p2_h184_s (by decide +kernel)
theorem z0_p2_h185 {X : Int → Int} {LX : Nat} : ck_Ok q0_O X LX 200 p2_h185 := q0_l p2_h185_s (by decide +kernel)
noncomputable def ax_soonest : List ck_Sum := [p2_h181, p2_h182, p2_h183, p2_h184, p2_h185]
theorem ax_soonest_s {X : Int → Int} {LX : Nat} : ∀ S ∈ ax_soonest, ck_Ok q0_O X LX 200 S := ck_S1 z0_p2_h181 (ck_S1 z0_p2_h182 (ck_S1 z0_p2_h183 (ck_S1 z0_p2_h184 (ck_S1 z0_p2_h185 ck_S0))))
theorem ax_soonest_c : ax_soonest.all (fun S => w_k q0_O 0 0 1 true S && w_r true S) = true := by decide +kernel
theorem ax_soonest_v : bc_cov 60 [(-2147483648, 2147483647), (-2147483648, 2147483647), (0, 1)] (ax_soonest.map bc_box) = true := by decide +kernel
theorem zL_pl_h181 {X : Int → Int} {LX : Nat} : ck_Ok qL_O X LX 200 pl_h181 := qL_l pl_h181_s (by decide +kernel)
theorem zL_pl_h182 {X : Int → Int} {LX : Nat} : ck_Ok qL_O X LX 200 pl_h182 := qL_l pl_h182_s (by decide +kernel)
theorem zL_pl_h183 {X : Int → Int} {LX : Nat} : ck_Ok qL_O X LX 200 pl_h183 := qL_l pl_h183_s (by decide +kernel)
theorem zL_pl_h184 {X : Int → Int} {LX : Nat} : ck_Ok qL_O X LX 200 pl_h184 := qL_l pl_h184_s (by decide +kernel)
noncomputable def al_soonest : List ck_Sum := [pl_h181, pl_h182, pl_h183, pl_h184, q_pl_h185]
theorem al_soonest_s {X : Int → Int} {LX : Nat} : ∀ S ∈ al_soonest, ck_Ok qL_O X LX 200 S := ck_S1 zL_pl_h181 (ck_S1 zL_pl_h182 (ck_S1 zL_pl_h183 (ck_S1 zL_pl_h184 (ck_S1 q_pl_h185_s ck_S0))))
theorem al_soonest_c : al_soonest.all (fun S => w_k qL_O 246 1 1 true S && w_r true S) = true := by decide +kernel
theorem al_soonest_v : bc_cov 60 [(-2147483648, 2147483647), (-2147483648, 2147483647), (0, 1)] (al_soonest.map bc_box) = true := by decide +kernel
theorem zR_p2_s1507 {X : Int → Int} {LX : Nat} : ck_Ok qR_O X LX 349 p2_s1507 := qR_l p2_s1507_s (by decide +kernel)
theorem zR_p2_s1508 {X : Int → Int} {LX : Nat} : ck_Ok qR_O X LX 349 p2_s1508 := qR_l p2_s1508_s (by decide +kernel)
theorem zR_p2_s1509 {X : Int → Int} {LX : Nat} : ck_Ok qR_O X LX 349 p2_s1509 := qR_l p2_s1509_s (by decide +kernel)
theorem zR_p2_s1510 {X : Int → Int} {LX : Nat} : ck_Ok qR_O X LX 349 p2_s1510 := qR_l p2_s1510_s (by decide +kernel)
noncomputable def am_soonest : List ck_Sum := [p2_s1507, p2_s1508, p2_s1509, p2_s1510, q_p2_s1515]
theorem am_soonest_s {X : Int → Int} {LX : Nat} : ∀ S ∈ am_soonest, ck_Ok qR_O X LX 349 S := ck_S1 zR_p2_s1507 (ck_S1 zR_p2_s1508 (ck_S1 zR_p2_s1509 (ck_S1 zR_p2_s1510 (ck_S1 q_p2_s1515_s ck_S0))))
theorem am_soonest_c : am_soonest.all (fun S => w_kR S && w_r true S) = true := by decide +kernel
theorem am_soonest_v : bc_cov 60 [(-2147483648, 2147483647), (-2147483648, 2147483647), (0, 1)] (am_soonest.map bc_box) = true := by decide +kernel
theorem z0_p2_h186 {X : Int → Int} {LX : Nat} : ck_Ok q0_O X LX 206 p2_h186 := q0_l p2_h186_s (by decide +kernel)
theorem z0_p2_h187 {X : Int → Int} {LX : Nat} : ck_Ok q0_O X LX 206 p2_h187 := q0_l p2_h187_s (by decide +kernel)
theorem z0_p2_h188 {X : Int → Int} {LX : Nat} : ck_Ok q0_O X LX 206 p2_h188 := q0_l p2_h188_s (by decide +kernel)
theorem z0_p2_h189 {X : Int → Int} {LX : Nat} : ck_Ok q0_O X LX 206 p2_h189 := q0_l p2_h189_s (by decide +kernel)
theorem z0_p2_h190 {X : Int → Int} {LX : Nat} : ck_Ok q0_O X LX 206 p2_h190 := q0_l p2_h190_s (by decide +kernel)
theorem z0_p2_h191 {X : Int → Int} {LX : Nat} : ck_Ok q0_O X LX 206 p2_h191 := q0_l p2_h191_s (by decide +kernel)
theorem z0_p2_h192 {X : Int → Int} {LX : Nat} : ck_Ok q0_O X LX 206 p2_h192 := q0_l p2_h192_s (by decide +kernel)
noncomputable def ax_chain : List ck_Sum := [p2_h186, p2_h187, p2_h188, p2_h189, p2_h190, p2_h191, p2_h192]
theorem ax_chain_s {X : Int → Int} {LX : Nat} : ∀ S ∈ ax_chain, ck_Ok q0_O X LX 206 S := ck_S1 z0_p2_h186 (ck_S1 z0_p2_h187 (ck_S1 z0_p2_h188 (ck_S1 z0_p2_h189 (ck_S1 z0_p2_h190 (ck_S1 z0_p2_h191 (ck_S1 z0_p2_h192 ck_S0))))))
theorem ax_chain_c : ax_chain.all (fun S => w_k q0_O 0 0 1 true S && w_r true S) = true := by decide +kernel
theorem ax_chain_v : bc_cov 60 [(-2147483648, 2147483647), (-2147483648, 2147483647), (-2147483648, 2147483647)] (ax_chain.map bc_box) = true := by decide +kernel
theorem zL_pl_h186 {X : Int → Int} {LX : Nat} : ck_Ok qL_O X LX 206 pl_h186 := qL_l pl_h186_s (by decide +kernel)
theorem zL_pl_h187 {X : Int → Int} {LX : Nat} : ck_Ok qL_O X LX 206 pl_h187 := qL_l pl_h187_s (by decide +kernel)
theorem zL_pl_h188 {X : Int → Int} {LX : Nat} : ck_Ok qL_O X LX 206 pl_h188 := qL_l pl_h188_s (by decide +kernel)
theorem zL_pl_h189 {X : Int → Int} {LX : Nat} : ck_Ok qL_O X LX 206 pl_h189 := qL_l pl_h189_s (by decide +kernel)
noncomputable def al_chain : List ck_Sum := [pl_h186, pl_h187, pl_h188, pl_h189, q_pl_h190, q_pl_h191, q_pl_h192]
theorem al_chain_s {X : Int → Int} {LX : Nat} : ∀ S ∈ al_chain, ck_Ok qL_O X LX 206 S := ck_S1 zL_pl_h186 (ck_S1 zL_pl_h187 (ck_S1 zL_pl_h188 (ck_S1 zL_pl_h189 (ck_S1 q_pl_h190_s (ck_S1 q_pl_h191_s (ck_S1 q_pl_h192_s ck_S0))))))
theorem al_chain_c : al_chain.all (fun S => w_k qL_O 246 1 1 true S && w_r true S) = true := by decide +kernel
theorem al_chain_v : bc_cov 60 [(-2147483648, 2147483647), (-2147483648, 2147483647), (-2147483648, 2147483647)] (al_chain.map bc_box) = true := by decide +kernel
theorem zR_p2_s1529 {X : Int → Int} {LX : Nat} : ck_Ok qR_O X LX 354 p2_s1529 := qR_l p2_s1529_s (by decide +kernel)
theorem zR_p2_s1530 {X : Int → Int} {LX : Nat} : ck_Ok qR_O X LX 354 p2_s1530 := qR_l p2_s1530_s (by decide +kernel)
theorem zR_p2_s1531 {X : Int → Int} {LX : Nat} : ck_Ok qR_O X LX 354 p2_s1531 := qR_l p2_s1531_s (by decide +kernel)
theorem zR_p2_s1532 {X : Int → Int} {LX : Nat} : ck_Ok qR_O X LX 354 p2_s1532 := qR_l p2_s1532_s (by decide +kernel)
noncomputable def am_chain : List ck_Sum := [p2_s1529, p2_s1530, p2_s1531, p2_s1532, q_p2_s1536, q_p2_s1538, q_p2_s1540]
theorem am_chain_s {X : Int → Int} {LX : Nat} : ∀ S ∈ am_chain, ck_Ok qR_O X LX 354 S := ck_S1 zR_p2_s1529 (ck_S1 zR_p2_s1530 (ck_S1 zR_p2_s1531 (ck_S1 zR_p2_s1532 (ck_S1 q_p2_s1536_s (ck_S1 q_p2_s1538_s (ck_S1 q_p2_s1540_s ck_S0))))))
theorem am_chain_c : am_chain.all (fun S => w_kR S && w_r true S) = true := by decide +kernel
theorem am_chain_v : bc_cov 60 [(-2147483648, 2147483647), (-2147483648, 2147483647), (-2147483648, 2147483647)] (am_chain.map bc_box) = true := by decide +kernel
theorem z0_p2_h193 {X : Int → Int} {LX : Nat} : ck_Ok q0_O X LX 210 p2_h193 := q0_l p2_h193_s (by decide +kernel)
theorem z0_p2_h194 {X : Int → Int} {LX : Nat} : ck_Ok q0_O X LX 210 p2_h194 := q0_l p2_h194_s (by decide +kernel)
theorem z0_p2_h195 {X : Int → Int} {LX : Nat} : ck_Ok q0_O X LX 210 p2_h195 := q0_l p2_h195_s (by decide +kernel)
theorem z0_p2_h196 {X : Int → Int} {LX : Nat} : ck_Ok q0_O X LX 210 p2_h196 := q0_l p2_h196_s (by decide +kernel)
theorem z0_p2_h197 {X : Int → Int} {LX : Nat} : ck_Ok q0_O X LX 210 p2_h197 := q0_l p2_h197_s (by decide +kernel)
noncomputable def ax_reached : List ck_Sum := [p2_h193, p2_h194, p2_h195, p2_h196, p2_h197]
theorem ax_reached_s {X : Int → Int} {LX : Nat} : ∀ S ∈ ax_reached, ck_Ok q0_O X LX 210 S := ck_S1 z0_p2_h193 (ck_S1 z0_p2_h194 (ck_S1 z0_p2_h195 (ck_S1 z0_p2_h196 (ck_S1 z0_p2_h197 ck_S0))))
theorem ax_reached_c : ax_reached.all (fun S => w_k q0_O 0 0 1 true S && w_r true S) = true := by decide +kernel
theorem ax_reached_v : bc_cov 60 [(-2147483648, 2147483647), (-2147483648, 2147483647)] (ax_reached.map bc_box) = true := by decide +kernel
theorem zL_pl_h193 {X : Int → Int} {LX : Nat} : ck_Ok qL_O X LX 210 pl_h193 := qL_l pl_h193_s (by decide +kernel)
theorem zL_pl_h194 {X : Int → Int} {LX : Nat} : ck_Ok qL_O X LX 210 pl_h194 := qL_l pl_h194_s (by decide +kernel)
theorem zL_pl_h195 {X : Int → Int} {LX : Nat} : ck_Ok qL_O X LX 210 pl_h195 := qL_l pl_h195_s (by decide +kernel)
theorem zL_pl_h196 {X : Int → Int} {LX : Nat} : ck_Ok qL_O X LX 210 pl_h196 := qL_l pl_h196_s (by decide +kernel)
noncomputable def al_reached : List ck_Sum := [pl_h193, pl_h194, pl_h195, pl_h196, q_pl_h197]
theorem al_reached_s {X : Int → Int} {LX : Nat} : ∀ S ∈ al_reached, ck_Ok qL_O X LX 210 S := ck_S1 zL_pl_h193 (ck_S1 zL_pl_h194 (ck_S1 zL_pl_h195 (ck_S1 zL_pl_h196 (ck_S1 q_pl_h197_s ck_S0))))
theorem al_reached_c : al_reached.all (fun S => w_k qL_O 246 1 1 true S && w_r true S) = true := by decide +kernel
theorem al_reached_v : bc_cov 60 [(-2147483648, 2147483647), (-2147483648, 2147483647)] (al_reached.map bc_box) = true := by decide +kernel
theorem zR_p2_s1549 {X : Int → Int} {LX : Nat} : ck_Ok qR_O X LX 356 p2_s1549 := qR_l p2_s1549_s (by decide +kernel)
theorem zR_p2_s1550 {X : Int → Int} {LX : Nat} : ck_Ok qR_O X LX 356 p2_s1550 := qR_l p2_s1550_s (by decide +kernel)
theorem zR_p2_s1551 {X : Int → Int} {LX : Nat} : ck_Ok qR_O X LX 356 p2_s1551 := qR_l p2_s1551_s (by decide +kernel)
theorem zR_p2_s1552 {X : Int → Int} {LX : Nat} : ck_Ok qR_O X LX 356 p2_s1552 := qR_l p2_s1552_s (by decide +kernel)
noncomputable def am_reached : List ck_Sum := [p2_s1549, p2_s1550, p2_s1551, p2_s1552, q_p2_s1553]
theorem am_reached_s {X : Int → Int} {LX : Nat} : ∀ S ∈ am_reached, ck_Ok qR_O X LX 356 S := ck_S1 zR_p2_s1549 (ck_S1 zR_p2_s1550 (ck_S1 zR_p2_s1551 (ck_S1 zR_p2_s1552 (ck_S1 q_p2_s1553_s ck_S0))))
theorem am_reached_c : am_reached.all (fun S => w_kR S && w_r true S) = true := by decide +kernel
theorem am_reached_v : bc_cov 60 [(-2147483648, 2147483647), (-2147483648, 2147483647)] (am_reached.map bc_box) = true := by decide +kernel
theorem z0_p2_h198 {X : Int → Int} {LX : Nat} : ck_Ok q0_O X LX 212 p2_h198 := q0_l p2_h198_s (by decide +kernel)
theorem z0_p2_h199 {X : Int → Int} {LX : Nat} : ck_Ok q0_O X LX 212 p2_h199 := q0_l p2_h199_s (by decide +kernel)
noncomputable def ax_thieves : List ck_Sum := [p2_h198, p2_h199, q_p2_h200]
theorem ax_thieves_s {X : Int → Int} {LX : Nat} : ∀ S ∈ ax_thieves, ck_Ok q0_O X LX 212 S := ck_S1 z0_p2_h198 (ck_S1 z0_p2_h199 (ck_S1 q_p2_h200_s ck_S0))
theorem ax_thieves_c : ax_thieves.all (fun S => w_k q0_O 0 0 1 true S && w_r true S) = true := by decide +kernel
theorem ax_thieves_v : bc_cov 60 [(-2147483648, 2147483647), (0, 1)] (ax_thieves.map bc_box) = true := by decide +kernel
theorem zL_pl_h198 {X : Int → Int} {LX : Nat} : ck_Ok qL_O X LX 212 pl_h198 := qL_l pl_h198_s (by decide +kernel)
theorem zL_pl_h199 {X : Int → Int} {LX : Nat} : ck_Ok qL_O X LX 212 pl_h199 := qL_l pl_h199_s (by decide +kernel)
noncomputable def al_thieves : List ck_Sum := [pl_h198, pl_h199, q_pl_h200]
theorem al_thieves_s {X : Int → Int} {LX : Nat} : ∀ S ∈ al_thieves, ck_Ok qL_O X LX 212 S := ck_S1 zL_pl_h198 (ck_S1 zL_pl_h199 (ck_S1 q_pl_h200_s ck_S0))
theorem al_thieves_c : al_thieves.all (fun S => w_k qL_O 246 1 1 true S && w_r true S) = true := by decide +kernel
theorem al_thieves_v : bc_cov 60 [(-2147483648, 2147483647), (0, 1)] (al_thieves.map bc_box) = true := by decide +kernel
theorem zR_p2_s1571 {X : Int → Int} {LX : Nat} : ck_Ok qR_O X LX 357 p2_s1571 := qR_l p2_s1571_s (by decide +kernel)
theorem zR_p2_s1573 {X : Int → Int} {LX : Nat} : ck_Ok qR_O X LX 357 p2_s1573 := qR_l p2_s1573_s (by decide +kernel)
noncomputable def am_thieves : List ck_Sum := [p2_s1571, p2_s1573, q_p2_s1582]
theorem am_thieves_s {X : Int → Int} {LX : Nat} : ∀ S ∈ am_thieves, ck_Ok qR_O X LX 357 S := ck_S1 zR_p2_s1571 (ck_S1 zR_p2_s1573 (ck_S1 q_p2_s1582_s ck_S0))
theorem am_thieves_c : am_thieves.all (fun S => w_kR S && w_r true S) = true := by decide +kernel
theorem am_thieves_v : bc_cov 60 [(-2147483648, 2147483647), (0, 1)] (am_thieves.map bc_box) = true := by decide +kernel
theorem z0_p2_h201 {X : Int → Int} {LX : Nat} : ck_Ok q0_O X LX 217 p2_h201 := q0_l p2_h201_s (by decide +kernel)
theorem z0_p2_h202 {X : Int → Int} {LX : Nat} : ck_Ok q0_O X LX 217 p2_h202 := q0_l p2_h202_s (by decide +kernel)
noncomputable def ax_watchman : List ck_Sum := [p2_h201, p2_h202, q_p2_h203]
theorem ax_watchman_s {X : Int → Int} {LX : Nat} : ∀ S ∈ ax_watchman, ck_Ok q0_O X LX 217 S := ck_S1 z0_p2_h201 (ck_S1 z0_p2_h202 (ck_S1 q_p2_h203_s ck_S0))
theorem ax_watchman_c : ax_watchman.all (fun S => w_k q0_O 0 0 1 true S && w_r true S) = true := by decide +kernel
theorem ax_watchman_v : bc_cov 60 [(-2147483648, 2147483647), (0, 1)] (ax_watchman.map bc_box) = true := by decide +kernel
theorem zL_pl_h201 {X : Int → Int} {LX : Nat} : ck_Ok qL_O X LX 217 pl_h201 := qL_l pl_h201_s (by decide +kernel)
theorem zL_pl_h202 {X : Int → Int} {LX : Nat} : ck_Ok qL_O X LX 217 pl_h202 := qL_l pl_h202_s (by decide +kernel)
noncomputable def al_watchman : List ck_Sum := [pl_h201, pl_h202, q_pl_h203]
theorem al_watchman_s {X : Int → Int} {LX : Nat} : ∀ S ∈ al_watchman, ck_Ok qL_O X LX 217 S := ck_S1 zL_pl_h201 (ck_S1 zL_pl_h202 (ck_S1 q_pl_h203_s ck_S0))
theorem al_watchman_c : al_watchman.all (fun S => w_k qL_O 246 1 1 true S && w_r true S) = true := by decide +kernel
theorem al_watchman_v : bc_cov 60 [(-2147483648, 2147483647), (0, 1)] (al_watchman.map bc_box) = true := by decide +kernel
theorem zR_p2_s1588 {X : Int → Int} {LX : Nat} : ck_Ok qR_O X LX 359 p2_s1588 := qR_l p2_s1588_s (by decide +kernel)
theorem zR_p2_s1589 {X : Int → Int} {LX : Nat} : ck_Ok qR_O X LX 359 p2_s1589 := qR_l p2_s1589_s (by decide +kernel)
noncomputable def am_watchman : List ck_Sum := [p2_s1588, p2_s1589, q_p2_s1590]
theorem am_watchman_s {X : Int → Int} {LX : Nat} : ∀ S ∈ am_watchman, ck_Ok qR_O X LX 359 S := ck_S1 zR_p2_s1588 (ck_S1 zR_p2_s1589 (ck_S1 q_p2_s1590_s ck_S0))
theorem am_watchman_c : am_watchman.all (fun S => w_kR S && w_r true S) = true := by decide +kernel
theorem am_watchman_v : bc_cov 60 [(-2147483648, 2147483647), (0, 1)] (am_watchman.map bc_box) = true := by decide +kernel
theorem z0_p2_h204 {X : Int → Int} {LX : Nat} : ck_Ok q0_O X LX 220 p2_h204 := q0_l p2_h204_s (by decide +kernel)
theorem z0_p2_h205 {X : Int → Int} {LX : Nat} : ck_Ok q0_O X LX 220 p2_h205 := q0_l p2_h205_s (by decide +kernel)
theorem z0_p2_h206 {X : Int → Int} {LX : Nat} : ck_Ok q0_O X LX 220 p2_h206 := q0_l p2_h206_s (by decide +kernel)
theorem z0_p2_h207 {X : Int → Int} {LX : Nat} : ck_Ok q0_O X LX 220 p2_h207 := q0_l p2_h207_s (by decide +kernel)
theorem z0_p2_h208 {X : Int → Int} {LX : Nat} : ck_Ok q0_O X LX 220 p2_h208 := q0_l p2_h208_s (by decide +kernel)
noncomputable def ax_meeting : List ck_Sum := [p2_h204, p2_h205, p2_h206, p2_h207, p2_h208]
theorem ax_meeting_s {X : Int → Int} {LX : Nat} : ∀ S ∈ ax_meeting, ck_Ok q0_O X LX 220 S := ck_S1 z0_p2_h204 (ck_S1 z0_p2_h205 (ck_S1 z0_p2_h206 (ck_S1 z0_p2_h207 (ck_S1 z0_p2_h208 ck_S0))))
theorem ax_meeting_c : ax_meeting.all (fun S => w_k q0_O 0 0 1 true S && w_r true S) = true := by decide +kernel
theorem ax_meeting_v : bc_cov 60 [(-2147483648, 2147483647), (-2147483648, 2147483647)] (ax_meeting.map bc_box) = true := by decide +kernel
theorem zL_pl_h204 {X : Int → Int} {LX : Nat} : ck_Ok qL_O X LX 220 pl_h204 := qL_l pl_h204_s (by decide +kernel)
theorem zL_pl_h205 {X : Int → Int} {LX : Nat} : ck_Ok qL_O X LX 220 pl_h205 := qL_l pl_h205_s (by decide +kernel)
theorem zL_pl_h206 {X : Int → Int} {LX : Nat} : ck_Ok qL_O X LX 220 pl_h206 := qL_l pl_h206_s (by decide +kernel)
theorem zL_pl_h207 {X : Int → Int} {LX : Nat} : ck_Ok qL_O X LX 220 pl_h207 := qL_l pl_h207_s (by decide +kernel)
noncomputable def al_meeting : List ck_Sum := [pl_h204, pl_h205, pl_h206, pl_h207, q_pl_h208]
theorem al_meeting_s {X : Int → Int} {LX : Nat} : ∀ S ∈ al_meeting, ck_Ok qL_O X LX 220 S := ck_S1 zL_pl_h204 (ck_S1 zL_pl_h205 (ck_S1 zL_pl_h206 (ck_S1 zL_pl_h207 (ck_S1 q_pl_h208_s ck_S0))))
theorem al_meeting_c : al_meeting.all (fun S => w_k qL_O 246 1 1 true S && w_r true S) = true := by decide +kernel
theorem al_meeting_v : bc_cov 60 [(-2147483648, 2147483647), (-2147483648, 2147483647)] (al_meeting.map bc_box) = true := by decide +kernel
theorem zR_p2_s1598 {X : Int → Int} {LX : Nat} : ck_Ok qR_O X LX 360 p2_s1598 := qR_l p2_s1598_s (by decide +kernel)
theorem zR_p2_s1599 {X : Int → Int} {LX : Nat} : ck_Ok qR_O X LX 360 p2_s1599 := qR_l p2_s1599_s (by decide +kernel)
theorem zR_p2_s1600 {X : Int → Int} {LX : Nat} : ck_Ok qR_O X LX 360 p2_s1600 := qR_l p2_s1600_s (by decide +kernel)
theorem zR_p2_s1601 {X : Int → Int} {LX : Nat} : ck_Ok qR_O X LX 360 p2_s1601 := qR_l p2_s1601_s (by decide +kernel)
noncomputable def am_meeting : List ck_Sum := [p2_s1598, p2_s1599, p2_s1600, p2_s1601, q_p2_s1602]
theorem am_meeting_s {X : Int → Int} {LX : Nat} : ∀ S ∈ am_meeting, ck_Ok qR_O X LX 360 S := ck_S1 zR_p2_s1598 (ck_S1 zR_p2_s1599 (ck_S1 zR_p2_s1600 (ck_S1 zR_p2_s1601 (ck_S1 q_p2_s1602_s ck_S0))))
theorem am_meeting_c : am_meeting.all (fun S => w_kR S && w_r true S) = true := by decide +kernel
theorem am_meeting_v : bc_cov 60 [(-2147483648, 2147483647), (-2147483648, 2147483647)] (am_meeting.map bc_box) = true := by decide +kernel
theorem z0_p2_h209 {X : Int → Int} {LX : Nat} : ck_Ok q0_O X LX 222 p2_h209 := q0_l p2_h209_s (by decide +kernel)
theorem z0_p2_h210 {X : Int → Int} {LX : Nat} : ck_Ok q0_O X LX 222 p2_h210 := q0_l p2_h210_s (by decide +kernel)
noncomputable def ax_outs : List ck_Sum := [p2_h209, p2_h210, q_p2_h211]
theorem ax_outs_s {X : Int → Int} {LX : Nat} : ∀ S ∈ ax_outs, ck_Ok q0_O X LX 222 S := ck_S1 z0_p2_h209 (ck_S1 z0_p2_h210 (ck_S1 q_p2_h211_s ck_S0))
theorem ax_outs_c : ax_outs.all (fun S => w_k q0_O 0 0 1 true S && w_r true S) = true := by decide +kernel
theorem ax_outs_v : bc_cov 60 [(-2147483648, 2147483647)] (ax_outs.map bc_box) = true := by decide +kernel
theorem zL_pl_h209 {X : Int → Int} {LX : Nat} : ck_Ok qL_O X LX 222 pl_h209 := qL_l pl_h209_s (by decide +kernel)
theorem zL_pl_h210 {X : Int → Int} {LX : Nat} : ck_Ok qL_O X LX 222 pl_h210 := qL_l pl_h210_s (by decide +kernel)
noncomputable def al_outs : List ck_Sum := [pl_h209, pl_h210, q_pl_h211]
theorem al_outs_s {X : Int → Int} {LX : Nat} : ∀ S ∈ al_outs, ck_Ok qL_O X LX 222 S := ck_S1 zL_pl_h209 (ck_S1 zL_pl_h210 (ck_S1 q_pl_h211_s ck_S0))
theorem al_outs_c : al_outs.all (fun S => w_k qL_O 246 1 1 true S && w_r true S) = true := by decide +kernel
theorem al_outs_v : bc_cov 60 [(-2147483648, 2147483647)] (al_outs.map bc_box) = true := by decide +kernel
theorem zR_p2_s1607 {X : Int → Int} {LX : Nat} : ck_Ok qR_O X LX 361 p2_s1607 := qR_l p2_s1607_s (by decide +kernel)
theorem zR_p2_s1608 {X : Int → Int} {LX : Nat} : ck_Ok qR_O X LX 361 p2_s1608 := qR_l p2_s1608_s (by decide +kernel)
noncomputable def am_outs : List ck_Sum := [p2_s1607, p2_s1608, q_p2_s1609]
theorem am_outs_s {X : Int → Int} {LX : Nat} : ∀ S ∈ am_outs, ck_Ok qR_O X LX 361 S := ck_S1 zR_p2_s1607 (ck_S1 zR_p2_s1608 (ck_S1 q_p2_s1609_s ck_S0))
theorem am_outs_c : am_outs.all (fun S => w_kR S && w_r true S) = true := by decide +kernel
theorem am_outs_v : bc_cov 60 [(-2147483648, 2147483647)] (am_outs.map bc_box) = true := by decide +kernel
noncomputable def ax_order : List ck_Sum := [q_p2_s1611]
theorem ax_order_s {X : Int → Int} {LX : Nat} : ∀ S ∈ ax_order, ck_Ok q0_O X LX 52 S := ck_S1 q_p2_s1611_s ck_S0
theorem ax_order_c : ax_order.all (fun S => w_k q0_O 0 0 1 false S && w_r true S) = true := by decide +kernel
theorem ax_order_v : bc_cov 60 [(-2147483648, 2147483647)] (ax_order.map bc_box) = true := by decide +kernel
noncomputable def al_order : List ck_Sum := [q_pl_s852]
theorem al_order_s {X : Int → Int} {LX : Nat} : ∀ S ∈ al_order, ck_Ok qL_O X LX 52 S := ck_S1 q_pl_s852_s ck_S0
theorem al_order_c : al_order.all (fun S => w_k qL_O 246 1 1 false S && w_r true S) = true := by decide +kernel
theorem al_order_v : bc_cov 60 [(-2147483648, 2147483647)] (al_order.map bc_box) = true := by decide +kernel
noncomputable def am_order : List ck_Sum := [q_p2_s1612]
theorem am_order_s {X : Int → Int} {LX : Nat} : ∀ S ∈ am_order, ck_Ok qR_O X LX 362 S := ck_S1 q_p2_s1612_s ck_S0
theorem am_order_c : am_order.all (fun S => w_kR S && w_r true S) = true := by decide +kernel
theorem am_order_v : bc_cov 60 [(-2147483648, 2147483647)] (am_order.map bc_box) = true := by decide +kernel
theorem z0_p2_h212 {X : Int → Int} {LX : Nat} : ck_Ok q0_O X LX 224 p2_h212 := q0_l p2_h212_s (by decide +kernel)
theorem z0_p2_h213 {X : Int → Int} {LX : Nat} : ck_Ok q0_O X LX 224 p2_h213 := q0_l p2_h213_s (by decide +kernel)
noncomputable def ax_streams : List ck_Sum := [p2_h212, p2_h213, q_p2_h214]
theorem ax_streams_s {X : Int → Int} {LX : Nat} : ∀ S ∈ ax_streams, ck_Ok q0_O X LX 224 S := ck_S1 z0_p2_h212 (ck_S1 z0_p2_h213 (ck_S1 q_p2_h214_s ck_S0))
theorem ax_streams_c : ax_streams.all (fun S => w_k q0_O 0 0 1 true S && w_r true S) = true := by decide +kernel
theorem ax_streams_v : bc_cov 60 [(-2147483648, 2147483647), (0, 1)] (ax_streams.map bc_box) = true := by decide +kernel
theorem zL_pl_h212 {X : Int → Int} {LX : Nat} : ck_Ok qL_O X LX 224 pl_h212 := qL_l pl_h212_s (by decide +kernel)
theorem zL_pl_h213 {X : Int → Int} {LX : Nat} : ck_Ok qL_O X LX 224 pl_h213 := qL_l pl_h213_s (by decide +kernel)
noncomputable def al_streams : List ck_Sum := [pl_h212, pl_h213, q_pl_h214]
theorem al_streams_s {X : Int → Int} {LX : Nat} : ∀ S ∈ al_streams, ck_Ok qL_O X LX 224 S := ck_S1 zL_pl_h212 (ck_S1 zL_pl_h213 (ck_S1 q_pl_h214_s ck_S0))
theorem al_streams_c : al_streams.all (fun S => w_k qL_O 246 1 1 true S && w_r true S) = true := by decide +kernel
theorem al_streams_v : bc_cov 60 [(-2147483648, 2147483647), (0, 1)] (al_streams.map bc_box) = true := by decide +kernel
theorem zR_p2_s1616 {X : Int → Int} {LX : Nat} : ck_Ok qR_O X LX 363 p2_s1616 := qR_l p2_s1616_s (by decide +kernel)
theorem zR_p2_s1617 {X : Int → Int} {LX : Nat} : ck_Ok qR_O X LX 363 p2_s1617 := qR_l p2_s1617_s (by decide +kernel)
noncomputable def am_streams : List ck_Sum := [p2_s1616, p2_s1617, q_p2_s1618]
theorem am_streams_s {X : Int → Int} {LX : Nat} : ∀ S ∈ am_streams, ck_Ok qR_O X LX 363 S := ck_S1 zR_p2_s1616 (ck_S1 zR_p2_s1617 (ck_S1 q_p2_s1618_s ck_S0))
theorem am_streams_c : am_streams.all (fun S => w_kR S && w_r true S) = true := by decide +kernel
theorem am_streams_v : bc_cov 60 [(-2147483648, 2147483647), (0, 1)] (am_streams.map bc_box) = true := by decide +kernel
theorem z0_p2_h215 {X : Int → Int} {LX : Nat} : ck_Ok q0_O X LX 226 p2_h215 := q0_l p2_h215_s (by decide +kernel)
theorem z0_p2_h216 {X : Int → Int} {LX : Nat} : ck_Ok q0_O X LX 226 p2_h216 := q0_l p2_h216_s (by decide +kernel)
theorem z0_p2_h217 {X : Int → Int} {LX : Nat} : ck_Ok q0_O X LX 226 p2_h217 := q0_l p2_h217_s (by decide +kernel)
theorem z0_p2_h218 {X : Int → Int} {LX : Nat} : ck_Ok q0_O X LX 226 p2_h218 := q0_l p2_h218_s (by decide +kernel)
theorem z0_p2_h219 {X : Int → Int} {LX : Nat} : ck_Ok q0_O X LX 226 p2_h219 := q0_l p2_h219_s (by decide +kernel)
noncomputable def ax_range : List ck_Sum := [p2_h215, p2_h216, p2_h217, p2_h218, p2_h219]
theorem ax_range_s {X : Int → Int} {LX : Nat} : ∀ S ∈ ax_range, ck_Ok q0_O X LX 226 S := ck_S1 z0_p2_h215 (ck_S1 z0_p2_h216 (ck_S1 z0_p2_h217 (ck_S1 z0_p2_h218 (ck_S1 z0_p2_h219 ck_S0))))
theorem ax_range_c : ax_range.all (fun S => w_k q0_O 0 0 1 true S && w_r true S) = true := by decide +kernel
theorem ax_range_v : bc_cov 60 [(-2147483648, 2147483647), (-2147483648, 2147483647)] (ax_range.map bc_box) = true := by decide +kernel
theorem zL_pl_h215 {X : Int → Int} {LX : Nat} : ck_Ok qL_O X LX 226 pl_h215 := qL_l pl_h215_s (by decide +kernel)
theorem zL_pl_h216 {X : Int → Int} {LX : Nat} : ck_Ok qL_O X LX 226 pl_h216 := qL_l pl_h216_s (by decide +kernel)
theorem zL_pl_h217 {X : Int → Int} {LX : Nat} : ck_Ok qL_O X LX 226 pl_h217 := qL_l pl_h217_s (by decide +kernel)
theorem zL_pl_h218 {X : Int → Int} {LX : Nat} : ck_Ok qL_O X LX 226 pl_h218 := qL_l pl_h218_s (by decide +kernel)
noncomputable def al_range : List ck_Sum := [pl_h215, pl_h216, pl_h217, pl_h218, q_pl_h219]
theorem al_range_s {X : Int → Int} {LX : Nat} : ∀ S ∈ al_range, ck_Ok qL_O X LX 226 S := ck_S1 zL_pl_h215 (ck_S1 zL_pl_h216 (ck_S1 zL_pl_h217 (ck_S1 zL_pl_h218 (ck_S1 q_pl_h219_s ck_S0))))
theorem al_range_c : al_range.all (fun S => w_k qL_O 246 1 1 true S && w_r true S) = true := by decide +kernel
theorem al_range_v : bc_cov 60 [(-2147483648, 2147483647), (-2147483648, 2147483647)] (al_range.map bc_box) = true := by decide +kernel
theorem zR_p2_s1624 {X : Int → Int} {LX : Nat} : ck_Ok qR_O X LX 364 p2_s1624 := qR_l p2_s1624_s (by decide +kernel)
theorem zR_p2_s1625 {X : Int → Int} {LX : Nat} : ck_Ok qR_O X LX 364 p2_s1625 := qR_l p2_s1625_s (by decide +kernel)
theorem zR_p2_s1626 {X : Int → Int} {LX : Nat} : ck_Ok qR_O X LX 364 p2_s1626 := qR_l p2_s1626_s (by decide +kernel)
theorem zR_p2_s1627 {X : Int → Int} {LX : Nat} : ck_Ok qR_O X LX 364 p2_s1627 := qR_l p2_s1627_s (by decide +kernel)
noncomputable def am_range : List ck_Sum := [p2_s1624, p2_s1625, p2_s1626, p2_s1627, q_p2_s1628]
theorem am_range_s {X : Int → Int} {LX : Nat} : ∀ S ∈ am_range, ck_Ok qR_O X LX 364 S := ck_S1 zR_p2_s1624 (ck_S1 zR_p2_s1625 (ck_S1 zR_p2_s1626 (ck_S1 zR_p2_s1627 (ck_S1 q_p2_s1628_s ck_S0))))
theorem am_range_c : am_range.all (fun S => w_kR S && w_r true S) = true := by decide +kernel
theorem am_range_v : bc_cov 60 [(-2147483648, 2147483647), (-2147483648, 2147483647)] (am_range.map bc_box) = true := by decide +kernel
theorem z0_p2_h220 {X : Int → Int} {LX : Nat} : ck_Ok q0_O X LX 228 p2_h220 := q0_l p2_h220_s (by decide +kernel)
theorem z0_p2_h221 {X : Int → Int} {LX : Nat} : ck_Ok q0_O X LX 228 p2_h221 := q0_l p2_h221_s (by decide +kernel)
theorem z0_p2_h222 {X : Int → Int} {LX : Nat} : ck_Ok q0_O X LX 228 p2_h222 := q0_l p2_h222_s (by decide +kernel)
theorem z0_p2_h223 {X : Int → Int} {LX : Nat} : ck_Ok q0_O X LX 228 p2_h223 := q0_l p2_h223_s (by decide +kernel)
theorem z0_p2_h224 {X : Int → Int} {LX : Nat} : ck_Ok q0_O X LX 228 p2_h224 := q0_l p2_h224_s (by decide +kernel)
noncomputable def ax_swiftest : List ck_Sum := [p2_h220, p2_h221, p2_h222, p2_h223, p2_h224]
theorem ax_swiftest_s {X : Int → Int} {LX : Nat} : ∀ S ∈ ax_swiftest, ck_Ok q0_O X LX 228 S := ck_S1 z0_p2_h220 (ck_S1 z0_p2_h221 (ck_S1 z0_p2_h222 (ck_S1 z0_p2_h223 (ck_S1 z0_p2_h224 ck_S0))))
theorem ax_swiftest_c : ax_swiftest.all (fun S => w_k q0_O 0 0 1 true S && w_r true S) = true := by decide +kernel
theorem ax_swiftest_v : bc_cov 60 [(-2147483648, 2147483647), (-2147483648, 2147483647)] (ax_swiftest.map bc_box) = true := by decide +kernel
theorem zL_pl_h220 {X : Int → Int} {LX : Nat} : ck_Ok qL_O X LX 228 pl_h220 := qL_l pl_h220_s (by decide +kernel)
theorem zL_pl_h221 {X : Int → Int} {LX : Nat} : ck_Ok qL_O X LX 228 pl_h221 := qL_l pl_h221_s (by decide +kernel)
theorem zL_pl_h222 {X : Int → Int} {LX : Nat} : ck_Ok qL_O X LX 228 pl_h222 := qL_l pl_h222_s (by decide +kernel)
theorem zL_pl_h223 {X : Int → Int} {LX : Nat} : ck_Ok qL_O X LX 228 pl_h223 := qL_l pl_h223_s (by decide +kernel)
noncomputable def al_swiftest : List ck_Sum := [pl_h220, pl_h221, pl_h222, pl_h223, q_pl_h224]
theorem al_swiftest_s {X : Int → Int} {LX : Nat} : ∀ S ∈ al_swiftest, ck_Ok qL_O X LX 228 S := ck_S1 zL_pl_h220 (ck_S1 zL_pl_h221 (ck_S1 zL_pl_h222 (ck_S1 zL_pl_h223 (ck_S1 q_pl_h224_s ck_S0))))
theorem al_swiftest_c : al_swiftest.all (fun S => w_k qL_O 246 1 1 true S && w_r true S) = true := by decide +kernel
theorem al_swiftest_v : bc_cov 60 [(-2147483648, 2147483647), (-2147483648, 2147483647)] (al_swiftest.map bc_box) = true := by decide +kernel
theorem zR_p2_s1634 {X : Int → Int} {LX : Nat} : ck_Ok qR_O X LX 365 p2_s1634 := qR_l p2_s1634_s (by decide +kernel)
theorem zR_p2_s1635 {X : Int → Int} {LX : Nat} : ck_Ok qR_O X LX 365 p2_s1635 := qR_l p2_s1635_s (by decide +kernel)
theorem zR_p2_s1636 {X : Int → Int} {LX : Nat} : ck_Ok qR_O X LX 365 p2_s1636 := qR_l p2_s1636_s (by decide +kernel)
theorem zR_p2_s1637 {X : Int → Int} {LX : Nat} : ck_Ok qR_O X LX 365 p2_s1637 := qR_l p2_s1637_s (by decide +kernel)
noncomputable def am_swiftest : List ck_Sum := [p2_s1634, p2_s1635, p2_s1636, p2_s1637, q_p2_s1638]
theorem am_swiftest_s {X : Int → Int} {LX : Nat} : ∀ S ∈ am_swiftest, ck_Ok qR_O X LX 365 S := ck_S1 zR_p2_s1634 (ck_S1 zR_p2_s1635 (ck_S1 zR_p2_s1636 (ck_S1 zR_p2_s1637 (ck_S1 q_p2_s1638_s ck_S0))))
theorem am_swiftest_c : am_swiftest.all (fun S => w_kR S && w_r true S) = true := by decide +kernel
theorem am_swiftest_v : bc_cov 60 [(-2147483648, 2147483647), (-2147483648, 2147483647)] (am_swiftest.map bc_box) = true := by decide +kernel
theorem z0_p2_h225 {X : Int → Int} {LX : Nat} : ck_Ok q0_O X LX 230 p2_h225 := q0_l p2_h225_s (by decide +kernel)
theorem z0_p2_h226 {X : Int → Int} {LX : Nat} : ck_Ok q0_O X LX 230 p2_h226 := q0_l p2_h226_s (by decide +kernel)
theorem z0_p2_h227 {X : Int → Int} {LX : Nat} : ck_Ok q0_O X LX 230 p2_h227 := q0_l p2_h227_s (by decide +kernel)
noncomputable def ax_bare : List ck_Sum := [p2_h225, p2_h226, p2_h227]
theorem ax_bare_s {X : Int → Int} {LX : Nat} : ∀ S ∈ ax_bare, ck_Ok q0_O X LX 230 S := ck_S1 z0_p2_h225 (ck_S1 z0_p2_h226 (ck_S1 z0_p2_h227 ck_S0))
theorem ax_bare_c : ax_bare.all (fun S => w_k q0_O 0 0 1 true S && w_r true S) = true := by decide +kernel
theorem ax_bare_v : bc_cov 60 [(-2147483648, 2147483647)] (ax_bare.map bc_box) = true := by decide +kernel
theorem zL_pl_h225 {X : Int → Int} {LX : Nat} : ck_Ok qL_O X LX 230 pl_h225 := qL_l pl_h225_s (by decide +kernel)
theorem zL_pl_h226 {X : Int → Int} {LX : Nat} : ck_Ok qL_O X LX 230 pl_h226 := qL_l pl_h226_s (by decide +kernel)
noncomputable def al_bare : List ck_Sum := [pl_h225, pl_h226, q_pl_h227]
theorem al_bare_s {X : Int → Int} {LX : Nat} : ∀ S ∈ al_bare, ck_Ok qL_O X LX 230 S := ck_S1 zL_pl_h225 (ck_S1 zL_pl_h226 (ck_S1 q_pl_h227_s ck_S0))
theorem al_bare_c : al_bare.all (fun S => w_k qL_O 246 1 1 true S && w_r true S) = true := by decide +kernel
theorem al_bare_v : bc_cov 60 [(-2147483648, 2147483647)] (al_bare.map bc_box) = true := by decide +kernel
theorem zR_p2_s1642 {X : Int → Int} {LX : Nat} : ck_Ok qR_O X LX 366 p2_s1642 := qR_l p2_s1642_s (by decide +kernel)
theorem zR_p2_s1643 {X : Int → Int} {LX : Nat} : ck_Ok qR_O X LX 366 p2_s1643 := qR_l p2_s1643_s (by decide +kernel)
noncomputable def am_bare : List ck_Sum := [p2_s1642, p2_s1643, q_p2_s1644]
theorem am_bare_s {X : Int → Int} {LX : Nat} : ∀ S ∈ am_bare, ck_Ok qR_O X LX 366 S := ck_S1 zR_p2_s1642 (ck_S1 zR_p2_s1643 (ck_S1 q_p2_s1644_s ck_S0))
theorem am_bare_c : am_bare.all (fun S => w_kR S && w_r true S) = true := by decide +kernel
theorem am_bare_v : bc_cov 60 [(-2147483648, 2147483647)] (am_bare.map bc_box) = true := by decide +kernel
theorem z0_p2_h228 {X : Int → Int} {LX : Nat} : ck_Ok q0_O X LX 232 p2_h228 := q0_l p2_h228_s (by decide +kernel)
theorem z0_p2_h229 {X : Int → Int} {LX : Nat} : ck_Ok q0_O X LX 232 p2_h229 := q0_l p2_h229_s (by decide +kernel)
theorem z0_p2_h230 {X : Int → Int} {LX : Nat} : ck_Ok q0_O X LX 232 p2_h230 := q0_l p2_h230_s (by decide +kernel)
theorem z0_p2_h231 {X : Int → Int} {LX : Nat} : ck_Ok q0_O X LX 232 p2_h231 := q0_l p2_h231_s (by decide +kernel)
theorem z0_p2_h232 {X : Int → Int} {LX : Nat} : ck_Ok q0_O X LX 232 p2_h232 := q0_l p2_h232_s (by decide +kernel)
noncomputable def ax_log : List ck_Sum := [p2_h228, p2_h229, p2_h230, p2_h231, p2_h232]
theorem ax_log_s {X : Int → Int} {LX : Nat} : ∀ S ∈ ax_log, ck_Ok q0_O X LX 232 S := ck_S1 z0_p2_h228 (ck_S1 z0_p2_h229 (ck_S1 z0_p2_h230 (ck_S1 z0_p2_h231 (ck_S1 z0_p2_h232 ck_S0))))
theorem ax_log_c : ax_log.all (fun S => w_k q0_O 0 0 1 true S && w_r true S) = true := by decide +kernel
theorem ax_log_v : bc_cov 60 [(-2147483648, 2147483647), (-2147483648, 2147483647)] (ax_log.map bc_box) = true := by decide +kernel
theorem zL_pl_h228 {X : Int → Int} {LX : Nat} : ck_Ok qL_O X LX 232 pl_h228 := qL_l pl_h228_s (by decide +kernel)
theorem zL_pl_h229 {X : Int → Int} {LX : Nat} : ck_Ok qL_O X LX 232 pl_h229 := qL_l pl_h229_s (by decide +kernel)
theorem zL_pl_h230 {X : Int → Int} {LX : Nat} : ck_Ok qL_O X LX 232 pl_h230 := qL_l pl_h230_s (by decide +kernel)
theorem zL_pl_h231 {X : Int → Int} {LX : Nat} : ck_Ok qL_O X LX 232 pl_h231 := qL_l pl_h231_s (by decide +kernel)
theorem zL_pl_h232 {X : Int → Int} {LX : Nat} : ck_Ok qL_O X LX 232 pl_h232 := qL_l pl_h232_s (by decide +kernel)
noncomputable def al_log : List ck_Sum := [pl_h228, pl_h229, pl_h230, pl_h231, pl_h232]
theorem al_log_s {X : Int → Int} {LX : Nat} : ∀ S ∈ al_log, ck_Ok qL_O X LX 232 S := ck_S1 zL_pl_h228 (ck_S1 zL_pl_h229 (ck_S1 zL_pl_h230 (ck_S1 zL_pl_h231 (ck_S1 zL_pl_h232 ck_S0))))
theorem al_log_c : al_log.all (fun S => w_k qL_O 246 1 1 true S && w_r true S) = true := by decide +kernel
theorem al_log_v : bc_cov 60 [(-2147483648, 2147483647), (-2147483648, 2147483647)] (al_log.map bc_box) = true := by decide +kernel
theorem zR_p2_s1652 {X : Int → Int} {LX : Nat} : ck_Ok qR_O X LX 367 p2_s1652 := qR_l p2_s1652_s (by decide +kernel)
theorem zR_p2_s1653 {X : Int → Int} {LX : Nat} : ck_Ok qR_O X LX 367 p2_s1653 := qR_l p2_s1653_s (by decide +kernel)
theorem zR_p2_s1654 {X : Int → Int} {LX : Nat} : ck_Ok qR_O X LX 367 p2_s1654 := qR_l p2_s1654_s (by decide +kernel)
theorem zR_p2_s1655 {X : Int → Int} {LX : Nat} : ck_Ok qR_O X LX 367 p2_s1655 := qR_l p2_s1655_s (by decide +kernel)
theorem zR_p2_s1656 {X : Int → Int} {LX : Nat} : ck_Ok qR_O X LX 367 p2_s1656 := qR_l p2_s1656_s (by decide +kernel)
noncomputable def am_log : List ck_Sum := [p2_s1652, p2_s1653, p2_s1654, p2_s1655, p2_s1656]
theorem am_log_s {X : Int → Int} {LX : Nat} : ∀ S ∈ am_log, ck_Ok qR_O X LX 367 S := ck_S1 zR_p2_s1652 (ck_S1 zR_p2_s1653 (ck_S1 zR_p2_s1654 (ck_S1 zR_p2_s1655 (ck_S1 zR_p2_s1656 ck_S0))))
theorem am_log_c : am_log.all (fun S => w_kR S && w_r true S) = true := by decide +kernel
theorem am_log_v : bc_cov 60 [(-2147483648, 2147483647), (-2147483648, 2147483647)] (am_log.map bc_box) = true := by decide +kernel
noncomputable def ax_undo : List ck_Sum := [p2_s1743]
theorem ax_undo_s {X : Int → Int} {LX : Nat} : ∀ S ∈ ax_undo, ck_Ok p2_O X LX 54 S := ck_S1 p2_s1743_s ck_S0
theorem ax_undo_c : ax_undo.all (w_x p2_O 0 0 1 false) = true := by decide +kernel
theorem ax_undo_v : bc_cov 60 [] (ax_undo.map bc_box) = true := by decide +kernel
noncomputable def al_undo : List ck_Sum := [pl_s961]
theorem al_undo_s {X : Int → Int} {LX : Nat} : ∀ S ∈ al_undo, ck_Ok p2_OL X LX 54 S := ck_S1 pl_s961_s ck_S0
theorem al_undo_c : al_undo.all (w_x p2_OL 246 1 1 false) = true := by decide +kernel
theorem al_undo_v : bc_cov 60 [] (al_undo.map bc_box) = true := by decide +kernel
noncomputable def am_undo : List ck_Sum := [p2_s1744]
theorem am_undo_s {X : Int → Int} {LX : Nat} : ∀ S ∈ am_undo, ck_Ok p2_O X LX 238 S := ck_S1 p2_s1744_s ck_S0
theorem am_undo_c : am_undo.all (w_m) = true := by decide +kernel
theorem am_undo_v : bc_cov 60 [] (am_undo.map bc_box) = true := by decide +kernel
noncomputable def ax_image : List ck_Sum := [p2_s1752]
theorem ax_image_s {X : Int → Int} {LX : Nat} : ∀ S ∈ ax_image, ck_Ok p2_O X LX 59 S := ck_S1 p2_s1752_s ck_S0
theorem ax_image_c : ax_image.all (w_x p2_O 0 0 1 false) = true := by decide +kernel
theorem ax_image_v : bc_cov 60 [] (ax_image.map bc_box) = true := by decide +kernel
noncomputable def al_image : List ck_Sum := [pl_s969]
theorem al_image_s {X : Int → Int} {LX : Nat} : ∀ S ∈ al_image, ck_Ok p2_OL X LX 59 S := ck_S1 pl_s969_s ck_S0
theorem al_image_c : al_image.all (w_x p2_OL 246 1 1 false) = true := by decide +kernel
theorem al_image_v : bc_cov 60 [] (al_image.map bc_box) = true := by decide +kernel
noncomputable def am_image : List ck_Sum := [p2_s1753]
theorem am_image_s {X : Int → Int} {LX : Nat} : ∀ S ∈ am_image, ck_Ok p2_O X LX 236 S := ck_S1 p2_s1753_s ck_S0
theorem am_image_c : am_image.all (w_m) = true := by decide +kernel
theorem am_image_v : bc_cov 60 [] (am_image.map bc_box) = true := by decide +kernel
noncomputable def ax_back : List ck_Sum := [p2_s1761]
theorem ax_back_s {X : Int → Int} {LX : Nat} : ∀ S ∈ ax_back, ck_Ok p2_O X LX 60 S := ck_S1 p2_s1761_s ck_S0
theorem ax_back_c : ax_back.all (w_x p2_O 0 0 1 false) = true := by decide +kernel
theorem ax_back_v : bc_cov 60 [] (ax_back.map bc_box) = true := by decide +kernel
noncomputable def al_back : List ck_Sum := [pl_s977]
theorem al_back_s {X : Int → Int} {LX : Nat} : ∀ S ∈ al_back, ck_Ok p2_OL X LX 60 S := ck_S1 pl_s977_s ck_S0
theorem al_back_c : al_back.all (w_x p2_OL 246 1 1 false) = true := by decide +kernel
theorem al_back_v : bc_cov 60 [] (al_back.map bc_box) = true := by decide +kernel
noncomputable def am_back : List ck_Sum := [p2_s1762]
theorem am_back_s {X : Int → Int} {LX : Nat} : ∀ S ∈ am_back, ck_Ok p2_O X LX 237 S := ck_S1 p2_s1762_s ck_S0
theorem am_back_c : am_back.all (w_m) = true := by decide +kernel
theorem am_back_v : bc_cov 60 [] (am_back.map bc_box) = true := by decide +kernel
theorem z0_p2_s1763 {X : Int → Int} {LX : Nat} : ck_Ok q0_O X LX 63 p2_s1763 := q0_l p2_s1763_s (by decide +kernel)
theorem z0_p2_s1770 {X : Int → Int} {LX : Nat} : ck_Ok q0_O X LX 63 p2_s1770 := q0_l p2_s1770_s (by decide +kernel)
noncomputable def ax_count : List ck_Sum := [p2_s1763, q_p2_s1768, p2_s1770]
theorem ax_count_s {X : Int → Int} {LX : Nat} : ∀ S ∈ ax_count, ck_Ok q0_O X LX 63 S := ck_S1 z0_p2_s1763 (ck_S1 q_p2_s1768_s (ck_S1 z0_p2_s1770 ck_S0))
theorem ax_count_c : ax_count.all (fun S => w_k q0_O 0 0 1 false S && w_r true S) = true := by decide +kernel
theorem ax_count_v : bc_cov 60 [(-2147483648, 2147483647)] (ax_count.map bc_box) = true := by decide +kernel
theorem zL_pl_s978 {X : Int → Int} {LX : Nat} : ck_Ok qL_O X LX 63 pl_s978 := qL_l pl_s978_s (by decide +kernel)
theorem zL_pl_s985 {X : Int → Int} {LX : Nat} : ck_Ok qL_O X LX 63 pl_s985 := qL_l pl_s985_s (by decide +kernel)
noncomputable def al_count : List ck_Sum := [pl_s978, q_pl_s983, pl_s985]
theorem al_count_s {X : Int → Int} {LX : Nat} : ∀ S ∈ al_count, ck_Ok qL_O X LX 63 S := ck_S1 zL_pl_s978 (ck_S1 q_pl_s983_s (ck_S1 zL_pl_s985 ck_S0))
theorem al_count_c : al_count.all (fun S => w_k qL_O 246 1 1 false S && w_r true S) = true := by decide +kernel
theorem al_count_v : bc_cov 60 [(-2147483648, 2147483647)] (al_count.map bc_box) = true := by decide +kernel
theorem zR_p2_s1772 {X : Int → Int} {LX : Nat} : ck_Ok qR_O X LX 368 p2_s1772 := qR_l p2_s1772_s (by decide +kernel)
theorem zR_p2_s1781 {X : Int → Int} {LX : Nat} : ck_Ok qR_O X LX 368 p2_s1781 := qR_l p2_s1781_s (by decide +kernel)
noncomputable def am_count : List ck_Sum := [p2_s1772, q_p2_s1778, p2_s1781]
theorem am_count_s {X : Int → Int} {LX : Nat} : ∀ S ∈ am_count, ck_Ok qR_O X LX 368 S := ck_S1 zR_p2_s1772 (ck_S1 q_p2_s1778_s (ck_S1 zR_p2_s1781 ck_S0))
theorem am_count_c : am_count.all (fun S => w_kR S && w_r true S) = true := by decide +kernel
theorem am_count_v : bc_cov 60 [(-2147483648, 2147483647)] (am_count.map bc_box) = true := by decide +kernel
end
/-! 7d01.mc -/
section
/-! THE LAW'S CASES, told of class and reference (laid by wip/rel/gq.py). -/
noncomputable def fa (X : Int → Int) (i : Int) : Int → Int := fun z => if z = 0 then X (i + 1) else if z = 1 then X (i + 2) else if z = 2 then X (i + 3) else if z = 3 then X (i + 4) else X (i + 5)
theorem fa_ir {X : Int → Int} (hX : ∀ j, gm_ir (X j)) {i z : Int} : gm_ir (fa X i z) := by
  unfold fa
  split
  · exact hX _
  · split
    · exact hX _
    · split
      · exact hX _
      · split
        · exact hX _
        · exact hX _
/-- what comes behind a case -/
noncomputable def mn_R (X : Int → Int) (LX bc bs : Nat) (i : Int) (g : Nat) (Q : gm_Q) : Prop := ∀ (g' : Nat) (la' : Nat → Nat) (K2 : gm_K) (R2 : gm_R) (M2 : gm_M) (L2 : gm_L), bg g' la' K2 R2 M2 → g' ≤ g + 2 → RELW la' K2 M2 → mn_L i L2 → gm_Wp X LX 280 (bc - 12) (bs - 1200) 370 1993 L2 [] (245 + 4 * g') K2 R2 M2 Q
theorem am_where_c2 : am_where.all (fun S => w_kR S && (w_r true S && bc_keep S 245 0)) = true := by decide +kernel
section MCC
variable {X : Int → Int} {LX g bc bs : Nat} {i : Int} {la : Nat → Nat} {K : gm_K} {R : gm_R} {M : gm_M} {Q : gm_Q} {L : gm_L}
theorem mc_0 (hb : bg g la K R M) (hg : g < 9990) (hM : RELW la K M) (hL : mn_L i L) (hi : 0 ≤ i ∧ i + 6 ≤ (LX : Int)) (hLX : LX ≤ 3072) (hX : ∀ j, gm_ir (X j)) (hbc : 12 ≤ bc) (hbs : 1200 ≤ bs) (rest : mn_R X LX bc bs i g Q) : gm_Wp X LX 280 bc bs 370 244 L [] (245 + 4 * g) K R M Q := by
  obtain ⟨N, lw, A, im, t, w, f, hM⟩ := hM
  refine gm_sz (gm_p_load (pc := 244) (i := .aload_n 1) (sr := 2) (j := 1) (by decide +kernel) rfl hL.2.2.1 rfl) ?_
  refine mn_arg (pc := 245) (j := 1) (by decide +kernel) (by decide +kernel) (by decide +kernel) (by decide +kernel) (by decide +kernel) hL hi (by decide) hLX ?_
  refine mn_arg (pc := 251) (j := 2) (by decide +kernel) (by decide +kernel) (by decide +kernel) (by decide +kernel) (by decide +kernel) hL hi (by decide) hLX ?_
  refine mn_arg (pc := 257) (j := 3) (by decide +kernel) (by decide +kernel) (by decide +kernel) (by decide +kernel) (by decide +kernel) hL hi (by decide) hLX ?_
  refine mn_arg (pc := 263) (j := 4) (by decide +kernel) (by decide +kernel) (by decide +kernel) (by decide +kernel) (by decide +kernel) hL hi (by decide) hLX ?_
  refine mn_arg (pc := 269) (j := 5) (by decide +kernel) (by decide +kernel) (by decide +kernel) (by decide +kernel) (by decide +kernel) hL hi (by decide) hLX ?_
  show gm_Wp X LX 280 _ _ 370 275 L (gm_vi (fa X i 4) :: gm_vi (fa X i 3) :: gm_vi (fa X i 2) :: gm_vi (fa X i 1) :: gm_vi (fa X i 0) :: gm_vr 1 :: []) (245 + 4 * g) _ _ _ Q
  refine ow_feed (pc := 275) (ix := 139) (st := []) hb (by omega) hM (by decide +kernel) (by decide +kernel) (Nat.le_of_ble_eq_true rfl) ax_feed_s al_feed_s ax_feed_c al_feed_c ax_feed_v al_feed_v (bc_in1 (mn_w (fa_ir hX)) (bc_in1 (mn_w (fa_ir hX)) (bc_in1 (mn_w (fa_ir hX)) (bc_in1 (mn_w (fa_ir hX)) (bc_in1 (mn_w (fa_ir hX)) bc_in0))))) (fun j => fa_ir hX) (by omega) (by omega) ?_
  intro la1 K1 R1 M1 hb1 hM1 hv1
  show gm_Wp X LX 280 _ _ 370 278 L [gm_vi ((ap_feed (fa X i) t f).1)] (245 + 4 * g) K1 R1 M1 Q
  refine gm_sz (gm_p_pop (pc := 278) (by decide +kernel) (by simp [gm_sort])) ?_
  refine gm_sz (gm_p_load (pc := 279) (i := .aload_n 2) (sr := 2) (j := 2) (by decide +kernel) rfl hL.2.2.2.1 rfl) ?_
  refine mn_arg (pc := 280) (j := 1) (by decide +kernel) (by decide +kernel) (by decide +kernel) (by decide +kernel) (by decide +kernel) hL hi (by decide) hLX ?_
  refine mn_arg (pc := 286) (j := 2) (by decide +kernel) (by decide +kernel) (by decide +kernel) (by decide +kernel) (by decide +kernel) hL hi (by decide) hLX ?_
  refine mn_arg (pc := 292) (j := 3) (by decide +kernel) (by decide +kernel) (by decide +kernel) (by decide +kernel) (by decide +kernel) hL hi (by decide) hLX ?_
  refine mn_arg (pc := 298) (j := 4) (by decide +kernel) (by decide +kernel) (by decide +kernel) (by decide +kernel) (by decide +kernel) hL hi (by decide) hLX ?_
  refine mn_arg (pc := 304) (j := 5) (by decide +kernel) (by decide +kernel) (by decide +kernel) (by decide +kernel) (by decide +kernel) hL hi (by decide) hLX ?_
  show gm_Wp X LX 280 _ _ 370 310 L (gm_vi (fa X i 4) :: gm_vi (fa X i 3) :: gm_vi (fa X i 2) :: gm_vi (fa X i 1) :: gm_vi (fa X i 0) :: gm_vr 226 :: []) (245 + 4 * g) _ _ _ Q
  refine om_feed (pc := 310) (ix := 143) (st := []) hb1 (by omega) hM1 (by decide +kernel) (by decide +kernel) (Nat.le_of_ble_eq_true rfl) am_feed_s am_feed_c am_feed_v (bc_in1 (mn_w (fa_ir hX)) (bc_in1 (mn_w (fa_ir hX)) (bc_in1 (mn_w (fa_ir hX)) (bc_in1 (mn_w (fa_ir hX)) (bc_in1 (mn_w (fa_ir hX)) bc_in0))))) (fun j => fa_ir hX) (by omega) (by omega) ?_
  intro u2 la2 K2 R2 M2 hu2 hb2 hM2 h245 hth2
  have hu2 : u2 = some (gm_vi (ap_feed (fa X i) t f).1) := hu2
  subst hu2
  show gm_Wp X LX 280 _ _ 370 313 L [gm_vi ((ap_feed (fa X i) t f).1)] (245 + 4 * g) K2 R2 M2 Q
  refine gm_sz (gm_p_pop (pc := 313) (by decide +kernel) (by simp [gm_sort])) ?_
  refine gm_sz (gm_p_goto (pc := 314) (off := 1679) (by decide +kernel) (by decide)) ?_
  exact gm_Wp_wk (Nat.le_refl _) (by omega) (by omega) (rest g _ _ _ _ L hb2 (by omega) ⟨_, _, _, _, _, _, _, hM2⟩ hL)
theorem mc_1 (hb : bg g la K R M) (hg : g < 9990) (hM : RELW la K M) (hL : mn_L i L) (hi : 0 ≤ i ∧ i + 6 ≤ (LX : Int)) (hLX : LX ≤ 3072) (hX : ∀ j, gm_ir (X j)) (hbc : 12 ≤ bc) (hbs : 1200 ≤ bs) (rest : mn_R X LX bc bs i g Q) : gm_Wp X LX 280 bc bs 370 317 L [] (245 + 4 * g) K R M Q := by
  obtain ⟨N, lw, A, im, t, w, f, hM⟩ := hM
  refine gm_sz (gm_p_load (pc := 317) (i := .aload_n 1) (sr := 2) (j := 1) (by decide +kernel) rfl hL.2.2.1 rfl) ?_
  refine mn_arg (pc := 318) (j := 1) (by decide +kernel) (by decide +kernel) (by decide +kernel) (by decide +kernel) (by decide +kernel) hL hi (by decide) hLX ?_
  refine ow_end (pc := 324) (ix := 144) (st := []) hb hM (by decide +kernel) (by decide +kernel) (by decide +kernel) (Nat.le_of_ble_eq_true rfl) (hX _) ?_
  intro la1 K1 R1 M1 hb1 hM1 hv1
  show gm_Wp X LX 280 _ _ 370 327 L [gm_vi ((ap_end (X (i + 1)) t).1)] (245 + 4 * g) K1 R1 M1 Q
  refine gm_sz (gm_p_pop (pc := 327) (by decide +kernel) (by simp [gm_sort])) ?_
  refine gm_sz (gm_p_load (pc := 328) (i := .aload_n 2) (sr := 2) (j := 2) (by decide +kernel) rfl hL.2.2.2.1 rfl) ?_
  refine mn_arg (pc := 329) (j := 1) (by decide +kernel) (by decide +kernel) (by decide +kernel) (by decide +kernel) (by decide +kernel) hL hi (by decide) hLX ?_
  refine om_end (pc := 335) (ix := 148) (st := []) hb1 hM1 (by decide +kernel) (by decide +kernel) (by decide +kernel) (Nat.le_of_ble_eq_true rfl) (hX _) ?_
  intro u2 la2 K2 R2 M2 hu2 hb2 hM2 h245 hth2
  have hu2 : u2 = some (gm_vi (ap_end (X (i + 1)) t).1) := hu2
  subst hu2
  show gm_Wp X LX 280 _ _ 370 338 L [gm_vi ((ap_end (X (i + 1)) t).1)] (245 + 4 * g) K2 R2 M2 Q
  refine gm_sz (gm_p_pop (pc := 338) (by decide +kernel) (by simp [gm_sort])) ?_
  refine gm_sz (gm_p_goto (pc := 339) (off := 1654) (by decide +kernel) (by decide)) ?_
  exact gm_Wp_wk (Nat.le_refl _) (by omega) (by omega) (rest g _ _ _ _ L hb2 (by omega) ⟨_, _, _, _, _, _, _, hM2⟩ hL)
theorem mc_2 (hb : bg g la K R M) (hg : g < 9990) (hM : RELW la K M) (hL : mn_L i L) (hi : 0 ≤ i ∧ i + 6 ≤ (LX : Int)) (hLX : LX ≤ 3072) (hX : ∀ j, gm_ir (X j)) (hbc : 12 ≤ bc) (hbs : 1200 ≤ bs) (rest : mn_R X LX bc bs i g Q) : gm_Wp X LX 280 bc bs 370 342 L [] (245 + 4 * g) K R M Q := by
  obtain ⟨N, lw, A, im, t, w, f, hM⟩ := hM
  refine gm_sz (gm_p_load (pc := 342) (i := .aload_n 1) (sr := 2) (j := 1) (by decide +kernel) rfl hL.2.2.1 rfl) ?_
  refine gm_sz (gm_p_load (pc := 343) (i := .aload_n 3) (sr := 2) (j := 3) (by decide +kernel) rfl hL.2.2.2.2.1 rfl) ?_
  refine ow_valley (pc := 344) (ix := 149) (st := []) hb (by omega) hM (by decide +kernel) (by decide +kernel) (Nat.le_of_ble_eq_true rfl) ax_valley_s al_valley_s ax_valley_c al_valley_c ax_valley_v al_valley_v bc_in0 (by omega) (by omega) ?_
  intro la1 K1 R1 M1 hb1 hM1 hv1
  show gm_Wp X LX 280 _ _ 370 347 L [gm_vi ((ap_valley f t N A).1)] (245 + 4 * g) K1 R1 M1 Q
  refine gm_sz (gm_p_stor (pc := 347) (i := .istore 5) (sr := 0) (j := 5) (by decide +kernel) rfl (by show 5 + 0 < L.length; have := hL.1; omega) rfl) ?_
  have hL5 := mn_L_s (y := (ap_valley f t N A).1) hL (j := 5) (Or.inl rfl)
  have l55 := mn_l5 (y := (ap_valley f t N A).1) hL
  generalize gm_lst L 5 (gm_vi (ap_valley f t N A).1) = L5 at hL5 l55 ⊢
  refine gm_sz (gm_p_load (pc := 349) (i := .aload_n 2) (sr := 2) (j := 2) (by decide +kernel) rfl hL5.2.2.2.1 rfl) ?_
  refine om_valley (pc := 350) (ix := 154) (st := []) hb1 (by omega) hM1 (by decide +kernel) (by decide +kernel) (Nat.le_of_ble_eq_true rfl) am_valley_s am_valley_c am_valley_v bc_in0 (by omega) (by omega) ?_
  intro u2 la2 K2 R2 M2 hu2 hb2 hM2 h245 hth2
  obtain ⟨y2, rfl, hy2⟩ := hu2
  show gm_Wp X LX 280 _ _ 370 353 L5 [gm_vi y2] (245 + 4 * g) K2 R2 M2 Q
  refine gm_sz (gm_p_stor (pc := 353) (i := .istore 6) (sr := 0) (j := 6) (by decide +kernel) rfl (by show 6 + 0 < L5.length; have := hL5.1; omega) rfl) ?_
  have hL6 := mn_L_s (y := y2) hL5 (j := 6) (Or.inr rfl)
  have l66 := mn_l6 (y := y2) hL5
  have l65 := mn_l65 (y := y2) l55
  generalize gm_lst L5 6 (gm_vi y2) = L6 at hL6 l66 l65 ⊢
  refine gm_sz (gm_p_goto (pc := 355) (off := 1638) (by decide +kernel) (by decide)) ?_
  exact gm_Wp_wk (Nat.le_refl _) (by omega) (by omega) (rest g _ _ _ _ L6 hb2 (by omega) ⟨_, _, _, _, _, _, _, hM2⟩ hL6)
theorem mc_3 (hb : bg g la K R M) (hg : g < 9990) (hM : RELW la K M) (hL : mn_L i L) (hi : 0 ≤ i ∧ i + 6 ≤ (LX : Int)) (hLX : LX ≤ 3072) (hX : ∀ j, gm_ir (X j)) (hbc : 12 ≤ bc) (hbs : 1200 ≤ bs) (rest : mn_R X LX bc bs i g Q) : gm_Wp X LX 280 bc bs 370 358 L [] (245 + 4 * g) K R M Q := by
  obtain ⟨N, lw, A, im, t, w, f, hM⟩ := hM
  refine gm_sz (gm_p_load (pc := 358) (i := .aload_n 1) (sr := 2) (j := 1) (by decide +kernel) rfl hL.2.2.1 rfl) ?_
  refine gm_sz (gm_p_load (pc := 359) (i := .aload_n 3) (sr := 2) (j := 3) (by decide +kernel) rfl hL.2.2.2.2.1 rfl) ?_
  refine ow_law (pc := 360) (ix := 155) (st := []) hb (by omega) hM (by decide +kernel) (by decide +kernel) (Nat.le_of_ble_eq_true rfl) (by omega) (by omega) ?_
  intro g1 la1 K1 R1 M1 hg1 hb1 hM1 hv1
  show gm_Wp X LX 280 _ _ 370 363 L [gm_vi ((ap_law f t lw A).1)] (245 + 4 * g1) K1 R1 M1 Q
  refine gm_sz (gm_p_stor (pc := 363) (i := .istore 5) (sr := 0) (j := 5) (by decide +kernel) rfl (by show 5 + 0 < L.length; have := hL.1; omega) rfl) ?_
  have hL5 := mn_L_s (y := (ap_law f t lw A).1) hL (j := 5) (Or.inl rfl)
  have l55 := mn_l5 (y := (ap_law f t lw A).1) hL
  generalize gm_lst L 5 (gm_vi (ap_law f t lw A).1) = L5 at hL5 l55 ⊢
  refine gm_sz (gm_p_load (pc := 365) (i := .aload_n 2) (sr := 2) (j := 2) (by decide +kernel) rfl hL5.2.2.2.1 rfl) ?_
  refine om_law (pc := 366) (ix := 157) (st := []) hb1 (by omega) hM1 (by decide +kernel) (by decide +kernel) (Nat.le_of_ble_eq_true rfl) (by omega) (by omega) ?_
  intro u2 la2 K2 R2 M2 hu2 hb2 hM2 h245 hth2
  obtain ⟨y2, rfl, hy2⟩ := hu2
  show gm_Wp X LX 280 _ _ 370 369 L5 [gm_vi y2] (245 + 4 * g1) K2 R2 M2 Q
  refine gm_sz (gm_p_stor (pc := 369) (i := .istore 6) (sr := 0) (j := 6) (by decide +kernel) rfl (by show 6 + 0 < L5.length; have := hL5.1; omega) rfl) ?_
  have hL6 := mn_L_s (y := y2) hL5 (j := 6) (Or.inr rfl)
  have l66 := mn_l6 (y := y2) hL5
  have l65 := mn_l65 (y := y2) l55
  generalize gm_lst L5 6 (gm_vi y2) = L6 at hL6 l66 l65 ⊢
  refine gm_sz (gm_p_goto (pc := 371) (off := 1622) (by decide +kernel) (by decide)) ?_
  exact gm_Wp_wk (Nat.le_refl _) (by omega) (by omega) (rest g1 _ _ _ _ L6 hb2 (by omega) ⟨_, _, _, _, _, _, _, hM2⟩ hL6)
theorem mc_4 (hb : bg g la K R M) (hg : g < 9990) (hM : RELW la K M) (hL : mn_L i L) (hi : 0 ≤ i ∧ i + 6 ≤ (LX : Int)) (hLX : LX ≤ 3072) (hX : ∀ j, gm_ir (X j)) (hbc : 12 ≤ bc) (hbs : 1200 ≤ bs) (rest : mn_R X LX bc bs i g Q) : gm_Wp X LX 280 bc bs 370 374 L [] (245 + 4 * g) K R M Q := by
  obtain ⟨N, lw, A, im, t, w, f, hM⟩ := hM
  refine gm_sz (gm_p_load (pc := 374) (i := .aload_n 1) (sr := 2) (j := 1) (by decide +kernel) rfl hL.2.2.1 rfl) ?_
  refine rq_d (pc := 375) (ix := 158) (mj := 22) (xs := []) (st := []) (ds := []) (r := true) hb (by omega) hM (by decide +kernel) (by decide +kernel) (by decide +kernel) (by decide +kernel) (show 0 = gm_na 22 by decide +kernel) (show 1 ≤ gm_ml 22 by decide +kernel) (Nat.le_of_ble_eq_true rfl) ax_fault_s al_fault_s ax_fault_c al_fault_c ax_fault_v al_fault_v bc_in0 (fun _ h => nomatch h) (by omega) (by omega) ?_
  intro u1 la1 K1 R1 M1 hu1 hb1 hM1
  obtain ⟨y1, rfl⟩ : ∃ y, u1 = some (gm_vi y) := hu1
  show gm_Wp X LX 280 _ _ 370 378 L [gm_vi y1] (245 + 4 * g) K1 R1 M1 Q
  refine gm_sz (gm_p_pop (pc := 378) (by decide +kernel) (by simp [gm_sort])) ?_
  refine gm_sz (gm_p_load (pc := 379) (i := .aload_n 2) (sr := 2) (j := 2) (by decide +kernel) rfl hL.2.2.2.1 rfl) ?_
  refine rq_m (pc := 380) (ix := 161) (mj := 241) (xs := []) (st := []) (ds := []) (r := true) hb1 (by omega) hM1 (by decide +kernel) (by decide +kernel) (by decide +kernel) (by decide +kernel) (show 0 = gm_na 241 by decide +kernel) (show 1 ≤ gm_ml 241 by decide +kernel) (Nat.le_of_ble_eq_true rfl) am_fault_s am_fault_c am_fault_v bc_in0 (fun _ h => nomatch h) (by omega) (by omega) ?_
  intro u2 la2 K2 R2 M2 hu2 hb2 hM2
  obtain ⟨y2, rfl⟩ : ∃ y, u2 = some (gm_vi y) := hu2
  show gm_Wp X LX 280 _ _ 370 383 L [gm_vi y2] (245 + 4 * g) K2 R2 M2 Q
  refine gm_sz (gm_p_pop (pc := 383) (by decide +kernel) (by simp [gm_sort])) ?_
  refine gm_sz (gm_p_goto (pc := 384) (off := 1609) (by decide +kernel) (by decide)) ?_
  exact gm_Wp_wk (Nat.le_refl _) (by omega) (by omega) (rest g _ _ _ _ L hb2 (by omega) ⟨_, _, _, _, _, _, _, hM2⟩ hL)
theorem mc_5 (hb : bg g la K R M) (hg : g < 9990) (hM : RELW la K M) (hL : mn_L i L) (hi : 0 ≤ i ∧ i + 6 ≤ (LX : Int)) (hLX : LX ≤ 3072) (hX : ∀ j, gm_ir (X j)) (hbc : 12 ≤ bc) (hbs : 1200 ≤ bs) (rest : mn_R X LX bc bs i g Q) : gm_Wp X LX 280 bc bs 370 387 L [] (245 + 4 * g) K R M Q := by
  obtain ⟨N, lw, A, im, t, w, f, hM⟩ := hM
  refine gm_sz (gm_p_load (pc := 387) (i := .aload_n 1) (sr := 2) (j := 1) (by decide +kernel) rfl hL.2.2.1 rfl) ?_
  refine mn_arg (pc := 388) (j := 1) (by decide +kernel) (by decide +kernel) (by decide +kernel) (by decide +kernel) (by decide +kernel) hL hi (by decide) hLX ?_
  refine gm_sz (gm_p_load (pc := 394) (i := .aload_n 3) (sr := 2) (j := 3) (by decide +kernel) rfl hL.2.2.2.2.1 rfl) ?_
  refine rq_x (pc := 395) (ix := 162) (mj := 127) (xs := [X (i + 1)]) (st := []) (ds := [(-2147483648, 2147483647)]) (r := true) hb (by omega) hM (by decide +kernel) (by decide +kernel) (by decide +kernel) (by decide +kernel) (show 3 = gm_na 127 by decide +kernel) (show 3 ≤ gm_ml 127 by decide +kernel) (Nat.le_of_ble_eq_true rfl) ax_heat_s al_heat_s ax_heat_c al_heat_c ax_heat_v al_heat_v (bc_in1 (mn_w (hX _)) bc_in0) (List.forall_mem_cons.mpr ⟨hX _, (fun _ h => nomatch h)⟩) (by omega) (by omega) ?_
  intro u1 la1 K1 R1 M1 hu1 hb1 hM1
  obtain ⟨y1, rfl⟩ : ∃ y, u1 = some (gm_vi y) := hu1
  show gm_Wp X LX 280 _ _ 370 398 L [gm_vi y1] (245 + 4 * g) K1 R1 M1 Q
  refine gm_sz (gm_p_stor (pc := 398) (i := .istore 5) (sr := 0) (j := 5) (by decide +kernel) rfl (by show 5 + 0 < L.length; have := hL.1; omega) rfl) ?_
  have hL5 := mn_L_s (y := y1) hL (j := 5) (Or.inl rfl)
  have l55 := mn_l5 (y := y1) hL
  generalize gm_lst L 5 (gm_vi y1) = L5 at hL5 l55 ⊢
  refine gm_sz (gm_p_load (pc := 400) (i := .aload_n 2) (sr := 2) (j := 2) (by decide +kernel) rfl hL5.2.2.2.1 rfl) ?_
  refine mn_arg (pc := 401) (j := 1) (by decide +kernel) (by decide +kernel) (by decide +kernel) (by decide +kernel) (by decide +kernel) hL5 hi (by decide) hLX ?_
  refine rq_m (pc := 407) (ix := 165) (mj := 284) (xs := [X (i + 1)]) (st := []) (ds := [(-2147483648, 2147483647)]) (r := true) hb1 (by omega) hM1 (by decide +kernel) (by decide +kernel) (by decide +kernel) (by decide +kernel) (show 1 = gm_na 284 by decide +kernel) (show 2 ≤ gm_ml 284 by decide +kernel) (Nat.le_of_ble_eq_true rfl) am_heat_s am_heat_c am_heat_v (bc_in1 (mn_w (hX _)) bc_in0) (List.forall_mem_cons.mpr ⟨hX _, (fun _ h => nomatch h)⟩) (by omega) (by omega) ?_
  intro u2 la2 K2 R2 M2 hu2 hb2 hM2
  obtain ⟨y2, rfl⟩ : ∃ y, u2 = some (gm_vi y) := hu2
  show gm_Wp X LX 280 _ _ 370 410 L5 [gm_vi y2] (245 + 4 * g) K2 R2 M2 Q
  refine gm_sz (gm_p_stor (pc := 410) (i := .istore 6) (sr := 0) (j := 6) (by decide +kernel) rfl (by show 6 + 0 < L5.length; have := hL5.1; omega) rfl) ?_
  have hL6 := mn_L_s (y := y2) hL5 (j := 6) (Or.inr rfl)
  have l66 := mn_l6 (y := y2) hL5
  have l65 := mn_l65 (y := y2) l55
  generalize gm_lst L5 6 (gm_vi y2) = L6 at hL6 l66 l65 ⊢
  refine gm_sz (gm_p_goto (pc := 412) (off := 1581) (by decide +kernel) (by decide)) ?_
  exact gm_Wp_wk (Nat.le_refl _) (by omega) (by omega) (rest g _ _ _ _ L6 hb2 (by omega) ⟨_, _, _, _, _, _, _, hM2⟩ hL6)
theorem mc_6 (hb : bg g la K R M) (hg : g < 9990) (hM : RELW la K M) (hL : mn_L i L) (hi : 0 ≤ i ∧ i + 6 ≤ (LX : Int)) (hLX : LX ≤ 3072) (hX : ∀ j, gm_ir (X j)) (hbc : 12 ≤ bc) (hbs : 1200 ≤ bs) (rest : mn_R X LX bc bs i g Q) : gm_Wp X LX 280 bc bs 370 415 L [] (245 + 4 * g) K R M Q := by
  obtain ⟨N, lw, A, im, t, w, f, hM⟩ := hM
  refine gm_sz (gm_p_load (pc := 415) (i := .aload_n 1) (sr := 2) (j := 1) (by decide +kernel) rfl hL.2.2.1 rfl) ?_
  refine mn_arg (pc := 416) (j := 1) (by decide +kernel) (by decide +kernel) (by decide +kernel) (by decide +kernel) (by decide +kernel) hL hi (by decide) hLX ?_
  refine mn_arg (pc := 422) (j := 2) (by decide +kernel) (by decide +kernel) (by decide +kernel) (by decide +kernel) (by decide +kernel) hL hi (by decide) hLX ?_
  refine gm_sz (gm_p_load (pc := 428) (i := .aload_n 3) (sr := 2) (j := 3) (by decide +kernel) rfl hL.2.2.2.2.1 rfl) ?_
  refine rq_x (pc := 429) (ix := 166) (mj := 130) (xs := [X (i + 1), X (i + 2)]) (st := []) (ds := [(-2147483648, 2147483647), (-2147483648, 2147483647)]) (r := true) hb (by omega) hM (by decide +kernel) (by decide +kernel) (by decide +kernel) (by decide +kernel) (show 4 = gm_na 130 by decide +kernel) (show 4 ≤ gm_ml 130 by decide +kernel) (Nat.le_of_ble_eq_true rfl) ax_speed_s al_speed_s ax_speed_c al_speed_c ax_speed_v al_speed_v (bc_in1 (mn_w (hX _)) (bc_in1 (mn_w (hX _)) bc_in0)) (List.forall_mem_cons.mpr ⟨hX _, (List.forall_mem_cons.mpr ⟨hX _, (fun _ h => nomatch h)⟩)⟩) (by omega) (by omega) ?_
  intro u1 la1 K1 R1 M1 hu1 hb1 hM1
  obtain ⟨y1, rfl⟩ : ∃ y, u1 = some (gm_vi y) := hu1
  show gm_Wp X LX 280 _ _ 370 432 L [gm_vi y1] (245 + 4 * g) K1 R1 M1 Q
  refine gm_sz (gm_p_stor (pc := 432) (i := .istore 5) (sr := 0) (j := 5) (by decide +kernel) rfl (by show 5 + 0 < L.length; have := hL.1; omega) rfl) ?_
  have hL5 := mn_L_s (y := y1) hL (j := 5) (Or.inl rfl)
  have l55 := mn_l5 (y := y1) hL
  generalize gm_lst L 5 (gm_vi y1) = L5 at hL5 l55 ⊢
  refine gm_sz (gm_p_load (pc := 434) (i := .aload_n 2) (sr := 2) (j := 2) (by decide +kernel) rfl hL5.2.2.2.1 rfl) ?_
  refine mn_arg (pc := 435) (j := 1) (by decide +kernel) (by decide +kernel) (by decide +kernel) (by decide +kernel) (by decide +kernel) hL5 hi (by decide) hLX ?_
  refine mn_arg (pc := 441) (j := 2) (by decide +kernel) (by decide +kernel) (by decide +kernel) (by decide +kernel) (by decide +kernel) hL5 hi (by decide) hLX ?_
  refine rq_m (pc := 447) (ix := 169) (mj := 287) (xs := [X (i + 1), X (i + 2)]) (st := []) (ds := [(-2147483648, 2147483647), (-2147483648, 2147483647)]) (r := true) hb1 (by omega) hM1 (by decide +kernel) (by decide +kernel) (by decide +kernel) (by decide +kernel) (show 2 = gm_na 287 by decide +kernel) (show 3 ≤ gm_ml 287 by decide +kernel) (Nat.le_of_ble_eq_true rfl) am_speed_s am_speed_c am_speed_v (bc_in1 (mn_w (hX _)) (bc_in1 (mn_w (hX _)) bc_in0)) (List.forall_mem_cons.mpr ⟨hX _, (List.forall_mem_cons.mpr ⟨hX _, (fun _ h => nomatch h)⟩)⟩) (by omega) (by omega) ?_
  intro u2 la2 K2 R2 M2 hu2 hb2 hM2
  obtain ⟨y2, rfl⟩ : ∃ y, u2 = some (gm_vi y) := hu2
  show gm_Wp X LX 280 _ _ 370 450 L5 [gm_vi y2] (245 + 4 * g) K2 R2 M2 Q
  refine gm_sz (gm_p_stor (pc := 450) (i := .istore 6) (sr := 0) (j := 6) (by decide +kernel) rfl (by show 6 + 0 < L5.length; have := hL5.1; omega) rfl) ?_
  have hL6 := mn_L_s (y := y2) hL5 (j := 6) (Or.inr rfl)
  have l66 := mn_l6 (y := y2) hL5
  have l65 := mn_l65 (y := y2) l55
  generalize gm_lst L5 6 (gm_vi y2) = L6 at hL6 l66 l65 ⊢
  refine gm_sz (gm_p_goto (pc := 452) (off := 1541) (by decide +kernel) (by decide)) ?_
  exact gm_Wp_wk (Nat.le_refl _) (by omega) (by omega) (rest g _ _ _ _ L6 hb2 (by omega) ⟨_, _, _, _, _, _, _, hM2⟩ hL6)
theorem mc_7 (hb : bg g la K R M) (hg : g < 9990) (hM : RELW la K M) (hL : mn_L i L) (hi : 0 ≤ i ∧ i + 6 ≤ (LX : Int)) (hLX : LX ≤ 3072) (hX : ∀ j, gm_ir (X j)) (hbc : 12 ≤ bc) (hbs : 1200 ≤ bs) (rest : mn_R X LX bc bs i g Q) : gm_Wp X LX 280 bc bs 370 455 L [] (245 + 4 * g) K R M Q := by
  obtain ⟨N, lw, A, im, t, w, f, hM⟩ := hM
  refine gm_sz (gm_p_load (pc := 455) (i := .aload_n 1) (sr := 2) (j := 1) (by decide +kernel) rfl hL.2.2.1 rfl) ?_
  refine mn_arg (pc := 456) (j := 1) (by decide +kernel) (by decide +kernel) (by decide +kernel) (by decide +kernel) (by decide +kernel) hL hi (by decide) hLX ?_
  refine mn_arg (pc := 462) (j := 2) (by decide +kernel) (by decide +kernel) (by decide +kernel) (by decide +kernel) (by decide +kernel) hL hi (by decide) hLX ?_
  refine mn_arg (pc := 468) (j := 3) (by decide +kernel) (by decide +kernel) (by decide +kernel) (by decide +kernel) (by decide +kernel) hL hi (by decide) hLX ?_
  refine gm_sz (gm_p_load (pc := 474) (i := .aload_n 3) (sr := 2) (j := 3) (by decide +kernel) rfl hL.2.2.2.2.1 rfl) ?_
  refine rq_x (pc := 475) (ix := 170) (mj := 135) (xs := [X (i + 1), X (i + 2), X (i + 3)]) (st := []) (ds := [(-2147483648, 2147483647), (-2147483648, 2147483647), (-2147483648, 2147483647)]) (r := true) hb (by omega) hM (by decide +kernel) (by decide +kernel) (by decide +kernel) (by decide +kernel) (show 5 = gm_na 135 by decide +kernel) (show 5 ≤ gm_ml 135 by decide +kernel) (Nat.le_of_ble_eq_true rfl) ax_flow_s al_flow_s ax_flow_c al_flow_c ax_flow_v al_flow_v (bc_in1 (mn_w (hX _)) (bc_in1 (mn_w (hX _)) (bc_in1 (mn_w (hX _)) bc_in0))) (List.forall_mem_cons.mpr ⟨hX _, (List.forall_mem_cons.mpr ⟨hX _, (List.forall_mem_cons.mpr ⟨hX _, (fun _ h => nomatch h)⟩)⟩)⟩) (by omega) (by omega) ?_
  intro u1 la1 K1 R1 M1 hu1 hb1 hM1
  obtain ⟨y1, rfl⟩ : ∃ y, u1 = some (gm_vi y) := hu1
  show gm_Wp X LX 280 _ _ 370 478 L [gm_vi y1] (245 + 4 * g) K1 R1 M1 Q
  refine gm_sz (gm_p_stor (pc := 478) (i := .istore 5) (sr := 0) (j := 5) (by decide +kernel) rfl (by show 5 + 0 < L.length; have := hL.1; omega) rfl) ?_
  have hL5 := mn_L_s (y := y1) hL (j := 5) (Or.inl rfl)
  have l55 := mn_l5 (y := y1) hL
  generalize gm_lst L 5 (gm_vi y1) = L5 at hL5 l55 ⊢
  refine gm_sz (gm_p_load (pc := 480) (i := .aload_n 2) (sr := 2) (j := 2) (by decide +kernel) rfl hL5.2.2.2.1 rfl) ?_
  refine mn_arg (pc := 481) (j := 1) (by decide +kernel) (by decide +kernel) (by decide +kernel) (by decide +kernel) (by decide +kernel) hL5 hi (by decide) hLX ?_
  refine mn_arg (pc := 487) (j := 2) (by decide +kernel) (by decide +kernel) (by decide +kernel) (by decide +kernel) (by decide +kernel) hL5 hi (by decide) hLX ?_
  refine mn_arg (pc := 493) (j := 3) (by decide +kernel) (by decide +kernel) (by decide +kernel) (by decide +kernel) (by decide +kernel) hL5 hi (by decide) hLX ?_
  refine rq_m (pc := 499) (ix := 173) (mj := 291) (xs := [X (i + 1), X (i + 2), X (i + 3)]) (st := []) (ds := [(-2147483648, 2147483647), (-2147483648, 2147483647), (-2147483648, 2147483647)]) (r := true) hb1 (by omega) hM1 (by decide +kernel) (by decide +kernel) (by decide +kernel) (by decide +kernel) (show 3 = gm_na 291 by decide +kernel) (show 4 ≤ gm_ml 291 by decide +kernel) (Nat.le_of_ble_eq_true rfl) am_flow_s am_flow_c am_flow_v (bc_in1 (mn_w (hX _)) (bc_in1 (mn_w (hX _)) (bc_in1 (mn_w (hX _)) bc_in0))) (List.forall_mem_cons.mpr ⟨hX _, (List.forall_mem_cons.mpr ⟨hX _, (List.forall_mem_cons.mpr ⟨hX _, (fun _ h => nomatch h)⟩)⟩)⟩) (by omega) (by omega) ?_
  intro u2 la2 K2 R2 M2 hu2 hb2 hM2
  obtain ⟨y2, rfl⟩ : ∃ y, u2 = some (gm_vi y) := hu2
  show gm_Wp X LX 280 _ _ 370 502 L5 [gm_vi y2] (245 + 4 * g) K2 R2 M2 Q
  refine gm_sz (gm_p_stor (pc := 502) (i := .istore 6) (sr := 0) (j := 6) (by decide +kernel) rfl (by show 6 + 0 < L5.length; have := hL5.1; omega) rfl) ?_
  have hL6 := mn_L_s (y := y2) hL5 (j := 6) (Or.inr rfl)
  have l66 := mn_l6 (y := y2) hL5
  have l65 := mn_l65 (y := y2) l55
  generalize gm_lst L5 6 (gm_vi y2) = L6 at hL6 l66 l65 ⊢
  refine gm_sz (gm_p_goto (pc := 504) (off := 1489) (by decide +kernel) (by decide)) ?_
  exact gm_Wp_wk (Nat.le_refl _) (by omega) (by omega) (rest g _ _ _ _ L6 hb2 (by omega) ⟨_, _, _, _, _, _, _, hM2⟩ hL6)
theorem mc_8 (hb : bg g la K R M) (hg : g < 9990) (hM : RELW la K M) (hL : mn_L i L) (hi : 0 ≤ i ∧ i + 6 ≤ (LX : Int)) (hLX : LX ≤ 3072) (hX : ∀ j, gm_ir (X j)) (hbc : 12 ≤ bc) (hbs : 1200 ≤ bs) (rest : mn_R X LX bc bs i g Q) : gm_Wp X LX 280 bc bs 370 507 L [] (245 + 4 * g) K R M Q := by
  obtain ⟨N, lw, A, im, t, w, f, hM⟩ := hM
  refine gm_sz (gm_p_load (pc := 507) (i := .aload_n 1) (sr := 2) (j := 1) (by decide +kernel) rfl hL.2.2.1 rfl) ?_
  refine mn_arg (pc := 508) (j := 1) (by decide +kernel) (by decide +kernel) (by decide +kernel) (by decide +kernel) (by decide +kernel) hL hi (by decide) hLX ?_
  refine mn_arg (pc := 514) (j := 2) (by decide +kernel) (by decide +kernel) (by decide +kernel) (by decide +kernel) (by decide +kernel) hL hi (by decide) hLX ?_
  refine gm_sz (gm_p_load (pc := 520) (i := .aload_n 3) (sr := 2) (j := 3) (by decide +kernel) rfl hL.2.2.2.2.1 rfl) ?_
  refine rq_x (pc := 521) (ix := 174) (mj := 137) (xs := [X (i + 1), X (i + 2)]) (st := []) (ds := [(-2147483648, 2147483647), (-2147483648, 2147483647)]) (r := true) hb (by omega) hM (by decide +kernel) (by decide +kernel) (by decide +kernel) (by decide +kernel) (show 4 = gm_na 137 by decide +kernel) (show 4 ≤ gm_ml 137 by decide +kernel) (Nat.le_of_ble_eq_true rfl) ax_person_s al_person_s ax_person_c al_person_c ax_person_v al_person_v (bc_in1 (mn_w (hX _)) (bc_in1 (mn_w (hX _)) bc_in0)) (List.forall_mem_cons.mpr ⟨hX _, (List.forall_mem_cons.mpr ⟨hX _, (fun _ h => nomatch h)⟩)⟩) (by omega) (by omega) ?_
  intro u1 la1 K1 R1 M1 hu1 hb1 hM1
  obtain ⟨y1, rfl⟩ : ∃ y, u1 = some (gm_vi y) := hu1
  show gm_Wp X LX 280 _ _ 370 524 L [gm_vi y1] (245 + 4 * g) K1 R1 M1 Q
  refine gm_sz (gm_p_stor (pc := 524) (i := .istore 5) (sr := 0) (j := 5) (by decide +kernel) rfl (by show 5 + 0 < L.length; have := hL.1; omega) rfl) ?_
  have hL5 := mn_L_s (y := y1) hL (j := 5) (Or.inl rfl)
  have l55 := mn_l5 (y := y1) hL
  generalize gm_lst L 5 (gm_vi y1) = L5 at hL5 l55 ⊢
  refine gm_sz (gm_p_load (pc := 526) (i := .aload_n 2) (sr := 2) (j := 2) (by decide +kernel) rfl hL5.2.2.2.1 rfl) ?_
  refine mn_arg (pc := 527) (j := 1) (by decide +kernel) (by decide +kernel) (by decide +kernel) (by decide +kernel) (by decide +kernel) hL5 hi (by decide) hLX ?_
  refine mn_arg (pc := 533) (j := 2) (by decide +kernel) (by decide +kernel) (by decide +kernel) (by decide +kernel) (by decide +kernel) hL5 hi (by decide) hLX ?_
  refine rq_m (pc := 539) (ix := 176) (mj := 297) (xs := [X (i + 1), X (i + 2)]) (st := []) (ds := [(-2147483648, 2147483647), (-2147483648, 2147483647)]) (r := true) hb1 (by omega) hM1 (by decide +kernel) (by decide +kernel) (by decide +kernel) (by decide +kernel) (show 2 = gm_na 297 by decide +kernel) (show 3 ≤ gm_ml 297 by decide +kernel) (Nat.le_of_ble_eq_true rfl) am_person_s am_person_c am_person_v (bc_in1 (mn_w (hX _)) (bc_in1 (mn_w (hX _)) bc_in0)) (List.forall_mem_cons.mpr ⟨hX _, (List.forall_mem_cons.mpr ⟨hX _, (fun _ h => nomatch h)⟩)⟩) (by omega) (by omega) ?_
  intro u2 la2 K2 R2 M2 hu2 hb2 hM2
  obtain ⟨y2, rfl⟩ : ∃ y, u2 = some (gm_vi y) := hu2
  show gm_Wp X LX 280 _ _ 370 542 L5 [gm_vi y2] (245 + 4 * g) K2 R2 M2 Q
  refine gm_sz (gm_p_stor (pc := 542) (i := .istore 6) (sr := 0) (j := 6) (by decide +kernel) rfl (by show 6 + 0 < L5.length; have := hL5.1; omega) rfl) ?_
  have hL6 := mn_L_s (y := y2) hL5 (j := 6) (Or.inr rfl)
  have l66 := mn_l6 (y := y2) hL5
  have l65 := mn_l65 (y := y2) l55
  generalize gm_lst L5 6 (gm_vi y2) = L6 at hL6 l66 l65 ⊢
  refine gm_sz (gm_p_goto (pc := 544) (off := 1449) (by decide +kernel) (by decide)) ?_
  exact gm_Wp_wk (Nat.le_refl _) (by omega) (by omega) (rest g _ _ _ _ L6 hb2 (by omega) ⟨_, _, _, _, _, _, _, hM2⟩ hL6)
theorem mc_9 (hb : bg g la K R M) (hg : g < 9990) (hM : RELW la K M) (hL : mn_L i L) (hi : 0 ≤ i ∧ i + 6 ≤ (LX : Int)) (hLX : LX ≤ 3072) (hX : ∀ j, gm_ir (X j)) (hbc : 12 ≤ bc) (hbs : 1200 ≤ bs) (rest : mn_R X LX bc bs i g Q) : gm_Wp X LX 280 bc bs 370 547 L [] (245 + 4 * g) K R M Q := by
  obtain ⟨N, lw, A, im, t, w, f, hM⟩ := hM
  refine gm_sz (gm_p_load (pc := 547) (i := .aload_n 1) (sr := 2) (j := 1) (by decide +kernel) rfl hL.2.2.1 rfl) ?_
  refine mn_arg (pc := 548) (j := 1) (by decide +kernel) (by decide +kernel) (by decide +kernel) (by decide +kernel) (by decide +kernel) hL hi (by decide) hLX ?_
  refine mn_arg (pc := 554) (j := 2) (by decide +kernel) (by decide +kernel) (by decide +kernel) (by decide +kernel) (by decide +kernel) hL hi (by decide) hLX ?_
  refine gm_sz (gm_p_load (pc := 560) (i := .aload_n 3) (sr := 2) (j := 3) (by decide +kernel) rfl hL.2.2.2.2.1 rfl) ?_
  refine rq_x (pc := 561) (ix := 177) (mj := 141) (xs := [X (i + 1), X (i + 2)]) (st := []) (ds := [(-2147483648, 2147483647), (-2147483648, 2147483647)]) (r := true) hb (by omega) hM (by decide +kernel) (by decide +kernel) (by decide +kernel) (by decide +kernel) (show 4 = gm_na 141 by decide +kernel) (show 4 ≤ gm_ml 141 by decide +kernel) (Nat.le_of_ble_eq_true rfl) ax_letter_s al_letter_s ax_letter_c al_letter_c ax_letter_v al_letter_v (bc_in1 (mn_w (hX _)) (bc_in1 (mn_w (hX _)) bc_in0)) (List.forall_mem_cons.mpr ⟨hX _, (List.forall_mem_cons.mpr ⟨hX _, (fun _ h => nomatch h)⟩)⟩) (by omega) (by omega) ?_
  intro u1 la1 K1 R1 M1 hu1 hb1 hM1
  obtain ⟨y1, rfl⟩ : ∃ y, u1 = some (gm_vi y) := hu1
  show gm_Wp X LX 280 _ _ 370 564 L [gm_vi y1] (245 + 4 * g) K1 R1 M1 Q
  refine gm_sz (gm_p_stor (pc := 564) (i := .istore 5) (sr := 0) (j := 5) (by decide +kernel) rfl (by show 5 + 0 < L.length; have := hL.1; omega) rfl) ?_
  have hL5 := mn_L_s (y := y1) hL (j := 5) (Or.inl rfl)
  have l55 := mn_l5 (y := y1) hL
  generalize gm_lst L 5 (gm_vi y1) = L5 at hL5 l55 ⊢
  refine gm_sz (gm_p_load (pc := 566) (i := .aload_n 2) (sr := 2) (j := 2) (by decide +kernel) rfl hL5.2.2.2.1 rfl) ?_
  refine mn_arg (pc := 567) (j := 1) (by decide +kernel) (by decide +kernel) (by decide +kernel) (by decide +kernel) (by decide +kernel) hL5 hi (by decide) hLX ?_
  refine mn_arg (pc := 573) (j := 2) (by decide +kernel) (by decide +kernel) (by decide +kernel) (by decide +kernel) (by decide +kernel) hL5 hi (by decide) hLX ?_
  refine rq_m (pc := 579) (ix := 179) (mj := 308) (xs := [X (i + 1), X (i + 2)]) (st := []) (ds := [(-2147483648, 2147483647), (-2147483648, 2147483647)]) (r := true) hb1 (by omega) hM1 (by decide +kernel) (by decide +kernel) (by decide +kernel) (by decide +kernel) (show 2 = gm_na 308 by decide +kernel) (show 3 ≤ gm_ml 308 by decide +kernel) (Nat.le_of_ble_eq_true rfl) am_letter_s am_letter_c am_letter_v (bc_in1 (mn_w (hX _)) (bc_in1 (mn_w (hX _)) bc_in0)) (List.forall_mem_cons.mpr ⟨hX _, (List.forall_mem_cons.mpr ⟨hX _, (fun _ h => nomatch h)⟩)⟩) (by omega) (by omega) ?_
  intro u2 la2 K2 R2 M2 hu2 hb2 hM2
  obtain ⟨y2, rfl⟩ : ∃ y, u2 = some (gm_vi y) := hu2
  show gm_Wp X LX 280 _ _ 370 582 L5 [gm_vi y2] (245 + 4 * g) K2 R2 M2 Q
  refine gm_sz (gm_p_stor (pc := 582) (i := .istore 6) (sr := 0) (j := 6) (by decide +kernel) rfl (by show 6 + 0 < L5.length; have := hL5.1; omega) rfl) ?_
  have hL6 := mn_L_s (y := y2) hL5 (j := 6) (Or.inr rfl)
  have l66 := mn_l6 (y := y2) hL5
  have l65 := mn_l65 (y := y2) l55
  generalize gm_lst L5 6 (gm_vi y2) = L6 at hL6 l66 l65 ⊢
  refine gm_sz (gm_p_goto (pc := 584) (off := 1409) (by decide +kernel) (by decide)) ?_
  exact gm_Wp_wk (Nat.le_refl _) (by omega) (by omega) (rest g _ _ _ _ L6 hb2 (by omega) ⟨_, _, _, _, _, _, _, hM2⟩ hL6)
theorem mc_10 (hb : bg g la K R M) (hg : g < 9990) (hM : RELW la K M) (hL : mn_L i L) (hi : 0 ≤ i ∧ i + 6 ≤ (LX : Int)) (hLX : LX ≤ 3072) (hX : ∀ j, gm_ir (X j)) (hbc : 12 ≤ bc) (hbs : 1200 ≤ bs) (rest : mn_R X LX bc bs i g Q) : gm_Wp X LX 280 bc bs 370 587 L [] (245 + 4 * g) K R M Q := by
  obtain ⟨N, lw, A, im, t, w, f, hM⟩ := hM
  refine gm_sz (gm_p_load (pc := 587) (i := .aload_n 1) (sr := 2) (j := 1) (by decide +kernel) rfl hL.2.2.1 rfl) ?_
  refine mn_arg (pc := 588) (j := 1) (by decide +kernel) (by decide +kernel) (by decide +kernel) (by decide +kernel) (by decide +kernel) hL hi (by decide) hLX ?_
  refine mn_arg (pc := 594) (j := 2) (by decide +kernel) (by decide +kernel) (by decide +kernel) (by decide +kernel) (by decide +kernel) hL hi (by decide) hLX ?_
  refine gm_sz (gm_p_load (pc := 600) (i := .aload_n 3) (sr := 2) (j := 3) (by decide +kernel) rfl hL.2.2.2.2.1 rfl) ?_
  refine rf_x (pc := 601) (ix := 180) (mj := 146) (xs := [X (i + 1), X (i + 2)]) (st := []) (ds := [(-2147483648, 2147483647), (-2147483648, 2147483647)]) (c := (q_where lw N (X (i + 1)) (X (i + 2))).1) (ov := oV (q_where lw N (X (i + 1)) (X (i + 2))).1 (q_where lw N (X (i + 1)) (X (i + 2))).2) hb (by omega) hM (by decide +kernel) (by decide +kernel) (by decide +kernel) (by decide +kernel) (show 4 = gm_na 146 by decide +kernel) (show 4 ≤ gm_ml 146 by decide +kernel) (Nat.le_of_ble_eq_true rfl) ax_where_s al_where_s ax_where_c al_where_c ax_where_v al_where_v (bc_in1 (mn_w (hX _)) (bc_in1 (mn_w (hX _)) bc_in0)) (List.forall_mem_cons.mpr ⟨hX _, (List.forall_mem_cons.mpr ⟨hX _, (fun _ h => nomatch h)⟩)⟩) (by omega) (by omega) (fw_where hb hM (hX _) (hX _)) ?_
  intro u1 la1 K1 R1 M1 hu1 hb1 hM1
  obtain ⟨y1, rfl, hy1, hv1⟩ := hu1
  show gm_Wp X LX 280 _ _ 370 604 L [gm_vi y1] (245 + 4 * g) K1 R1 M1 Q
  refine gm_sz (gm_p_stor (pc := 604) (i := .istore 5) (sr := 0) (j := 5) (by decide +kernel) rfl (by show 5 + 0 < L.length; have := hL.1; omega) rfl) ?_
  have hL5 := mn_L_s (y := y1) hL (j := 5) (Or.inl rfl)
  have l55 := mn_l5 (y := y1) hL
  generalize gm_lst L 5 (gm_vi y1) = L5 at hL5 l55 ⊢
  refine gm_sz (gm_p_load (pc := 606) (i := .aload_n 2) (sr := 2) (j := 2) (by decide +kernel) rfl hL5.2.2.2.1 rfl) ?_
  refine mn_arg (pc := 607) (j := 1) (by decide +kernel) (by decide +kernel) (by decide +kernel) (by decide +kernel) (by decide +kernel) hL5 hi (by decide) hLX ?_
  refine mn_arg (pc := 613) (j := 2) (by decide +kernel) (by decide +kernel) (by decide +kernel) (by decide +kernel) (by decide +kernel) hL5 hi (by decide) hLX ?_
  refine rf_m (pc := 619) (ix := 182) (mj := 313) (xs := [X (i + 1), X (i + 2)]) (st := []) (ds := [(-2147483648, 2147483647), (-2147483648, 2147483647)]) (c := (q_where lw N (X (i + 1)) (X (i + 2))).1) (v := (q_where lw N (X (i + 1)) (X (i + 2))).2) hb1 (by omega) hM1 (by decide +kernel) (by decide +kernel) (by decide +kernel) (by decide +kernel) (show 2 = gm_na 313 by decide +kernel) (show 3 ≤ gm_ml 313 by decide +kernel) (Nat.le_of_ble_eq_true rfl) am_where_s am_where_c2 am_where_v (bc_in1 (mn_w (hX _)) (bc_in1 (mn_w (hX _)) bc_in0)) (List.forall_mem_cons.mpr ⟨hX _, (List.forall_mem_cons.mpr ⟨hX _, (fun _ h => nomatch h)⟩)⟩) (by omega) (by omega) (fm_where hb1 hM1 (hX _) (hX _)) ?_
  intro u2 la2 K2 R2 M2 hu2 hb2 hM2
  obtain ⟨y2, rfl, hy2, hth2, h245⟩ := hu2
  show gm_Wp X LX 280 _ _ 370 622 L5 [gm_vi y2] (245 + 4 * g) K2 R2 M2 Q
  refine gm_sz (gm_p_stor (pc := 622) (i := .istore 6) (sr := 0) (j := 6) (by decide +kernel) rfl (by show 6 + 0 < L5.length; have := hL5.1; omega) rfl) ?_
  have hL6 := mn_L_s (y := y2) hL5 (j := 6) (Or.inr rfl)
  have l66 := mn_l6 (y := y2) hL5
  have l65 := mn_l65 (y := y2) l55
  generalize gm_lst L5 6 (gm_vi y2) = L6 at hL6 l66 l65 ⊢
  refine mn_cmpA (p := 624) (mj := 369) (ixt := 183) (jt := 3) hb2 hL6 l65 l66 (by decide +kernel) (by decide +kernel) (by decide +kernel) (by decide +kernel) (by decide +kernel) (by decide +kernel) (by decide +kernel) (by decide +kernel) (by decide +kernel) (by decide +kernel) (by decide +kernel) (by decide +kernel) (by decide +kernel) (by decide +kernel) (by decide +kernel) (by decide +kernel) (by decide +kernel) (by decide +kernel) (by decide +kernel) (by decide +kernel) (by decide +kernel) (by decide +kernel) (by decide +kernel) (by decide +kernel) (by decide +kernel) ?_ ?_ ?_
  · exact hth2.trans hy1.symm
  · exact qf_cmp iq_where hy1 (fun v e => by rw [h245]; exact hv1 v e) hy2
  · refine gm_sz (gm_p_goto (pc := 652) (off := 1341) (by decide +kernel) (by decide)) ?_
    exact gm_Wp_wk (Nat.le_refl _) (by omega) (by omega) (rest g _ _ _ _ L6 hb2 (by omega) ⟨_, _, _, _, _, _, _, hM2⟩ hL6)
theorem mc_11 (hb : bg g la K R M) (hg : g < 9990) (hM : RELW la K M) (hL : mn_L i L) (hi : 0 ≤ i ∧ i + 6 ≤ (LX : Int)) (hLX : LX ≤ 3072) (hX : ∀ j, gm_ir (X j)) (hbc : 12 ≤ bc) (hbs : 1200 ≤ bs) (rest : mn_R X LX bc bs i g Q) : gm_Wp X LX 280 bc bs 370 655 L [] (245 + 4 * g) K R M Q := by
  obtain ⟨N, lw, A, im, t, w, f, hM⟩ := hM
  refine gm_sz (gm_p_load (pc := 655) (i := .aload_n 1) (sr := 2) (j := 1) (by decide +kernel) rfl hL.2.2.1 rfl) ?_
  refine mn_arg (pc := 656) (j := 1) (by decide +kernel) (by decide +kernel) (by decide +kernel) (by decide +kernel) (by decide +kernel) hL hi (by decide) hLX ?_
  refine mn_arg (pc := 662) (j := 2) (by decide +kernel) (by decide +kernel) (by decide +kernel) (by decide +kernel) (by decide +kernel) hL hi (by decide) hLX ?_
  refine gm_sz (gm_p_load (pc := 668) (i := .aload_n 3) (sr := 2) (j := 3) (by decide +kernel) rfl hL.2.2.2.2.1 rfl) ?_
  refine rq_x (pc := 669) (ix := 186) (mj := 149) (xs := [X (i + 1), X (i + 2)]) (st := []) (ds := [(-2147483648, 2147483647), (-2147483648, 2147483647)]) (r := true) hb (by omega) hM (by decide +kernel) (by decide +kernel) (by decide +kernel) (by decide +kernel) (show 4 = gm_na 149 by decide +kernel) (show 4 ≤ gm_ml 149 by decide +kernel) (Nat.le_of_ble_eq_true rfl) ax_deep_s al_deep_s ax_deep_c al_deep_c ax_deep_v al_deep_v (bc_in1 (mn_w (hX _)) (bc_in1 (mn_w (hX _)) bc_in0)) (List.forall_mem_cons.mpr ⟨hX _, (List.forall_mem_cons.mpr ⟨hX _, (fun _ h => nomatch h)⟩)⟩) (by omega) (by omega) ?_
  intro u1 la1 K1 R1 M1 hu1 hb1 hM1
  obtain ⟨y1, rfl⟩ : ∃ y, u1 = some (gm_vi y) := hu1
  show gm_Wp X LX 280 _ _ 370 672 L [gm_vi y1] (245 + 4 * g) K1 R1 M1 Q
  refine gm_sz (gm_p_stor (pc := 672) (i := .istore 5) (sr := 0) (j := 5) (by decide +kernel) rfl (by show 5 + 0 < L.length; have := hL.1; omega) rfl) ?_
  have hL5 := mn_L_s (y := y1) hL (j := 5) (Or.inl rfl)
  have l55 := mn_l5 (y := y1) hL
  generalize gm_lst L 5 (gm_vi y1) = L5 at hL5 l55 ⊢
  refine gm_sz (gm_p_load (pc := 674) (i := .aload_n 2) (sr := 2) (j := 2) (by decide +kernel) rfl hL5.2.2.2.1 rfl) ?_
  refine mn_arg (pc := 675) (j := 1) (by decide +kernel) (by decide +kernel) (by decide +kernel) (by decide +kernel) (by decide +kernel) hL5 hi (by decide) hLX ?_
  refine mn_arg (pc := 681) (j := 2) (by decide +kernel) (by decide +kernel) (by decide +kernel) (by decide +kernel) (by decide +kernel) hL5 hi (by decide) hLX ?_
  refine rq_m (pc := 687) (ix := 188) (mj := 314) (xs := [X (i + 1), X (i + 2)]) (st := []) (ds := [(-2147483648, 2147483647), (-2147483648, 2147483647)]) (r := true) hb1 (by omega) hM1 (by decide +kernel) (by decide +kernel) (by decide +kernel) (by decide +kernel) (show 2 = gm_na 314 by decide +kernel) (show 3 ≤ gm_ml 314 by decide +kernel) (Nat.le_of_ble_eq_true rfl) am_deep_s am_deep_c am_deep_v (bc_in1 (mn_w (hX _)) (bc_in1 (mn_w (hX _)) bc_in0)) (List.forall_mem_cons.mpr ⟨hX _, (List.forall_mem_cons.mpr ⟨hX _, (fun _ h => nomatch h)⟩)⟩) (by omega) (by omega) ?_
  intro u2 la2 K2 R2 M2 hu2 hb2 hM2
  obtain ⟨y2, rfl⟩ : ∃ y, u2 = some (gm_vi y) := hu2
  show gm_Wp X LX 280 _ _ 370 690 L5 [gm_vi y2] (245 + 4 * g) K2 R2 M2 Q
  refine gm_sz (gm_p_stor (pc := 690) (i := .istore 6) (sr := 0) (j := 6) (by decide +kernel) rfl (by show 6 + 0 < L5.length; have := hL5.1; omega) rfl) ?_
  have hL6 := mn_L_s (y := y2) hL5 (j := 6) (Or.inr rfl)
  have l66 := mn_l6 (y := y2) hL5
  have l65 := mn_l65 (y := y2) l55
  generalize gm_lst L5 6 (gm_vi y2) = L6 at hL6 l66 l65 ⊢
  refine gm_sz (gm_p_goto (pc := 692) (off := 1301) (by decide +kernel) (by decide)) ?_
  exact gm_Wp_wk (Nat.le_refl _) (by omega) (by omega) (rest g _ _ _ _ L6 hb2 (by omega) ⟨_, _, _, _, _, _, _, hM2⟩ hL6)
theorem mc_12 (hb : bg g la K R M) (hg : g < 9990) (hM : RELW la K M) (hL : mn_L i L) (hi : 0 ≤ i ∧ i + 6 ≤ (LX : Int)) (hLX : LX ≤ 3072) (hX : ∀ j, gm_ir (X j)) (hbc : 12 ≤ bc) (hbs : 1200 ≤ bs) (rest : mn_R X LX bc bs i g Q) : gm_Wp X LX 280 bc bs 370 695 L [] (245 + 4 * g) K R M Q := by
  obtain ⟨N, lw, A, im, t, w, f, hM⟩ := hM
  refine gm_sz (gm_p_load (pc := 695) (i := .aload_n 1) (sr := 2) (j := 1) (by decide +kernel) rfl hL.2.2.1 rfl) ?_
  refine mn_arg (pc := 696) (j := 1) (by decide +kernel) (by decide +kernel) (by decide +kernel) (by decide +kernel) (by decide +kernel) hL hi (by decide) hLX ?_
  refine mn_arg (pc := 702) (j := 2) (by decide +kernel) (by decide +kernel) (by decide +kernel) (by decide +kernel) (by decide +kernel) hL hi (by decide) hLX ?_
  refine gm_sz (gm_p_load (pc := 708) (i := .aload_n 3) (sr := 2) (j := 3) (by decide +kernel) rfl hL.2.2.2.2.1 rfl) ?_
  refine ow_post (pc := 709) (ix := 189) (st := []) hb (by omega) hM (by decide +kernel) (by decide +kernel) (Nat.le_of_ble_eq_true rfl) ax_post_s al_post_s ax_post_c al_post_c ax_post_v al_post_v (bc_in1 (mn_w (hX _)) (bc_in1 (mn_w (hX _)) bc_in0)) (hX _) (hX _) (by omega) (by omega) ?_
  intro la1 K1 R1 M1 hb1 hM1 hv1
  show gm_Wp X LX 280 _ _ 370 712 L [gm_vi ((ap_post N A (X (i + 1)) (X (i + 2))).1)] (245 + 4 * g) K1 R1 M1 Q
  refine gm_sz (gm_p_stor (pc := 712) (i := .istore 5) (sr := 0) (j := 5) (by decide +kernel) rfl (by show 5 + 0 < L.length; have := hL.1; omega) rfl) ?_
  have hL5 := mn_L_s (y := (ap_post N A (X (i + 1)) (X (i + 2))).1) hL (j := 5) (Or.inl rfl)
  have l55 := mn_l5 (y := (ap_post N A (X (i + 1)) (X (i + 2))).1) hL
  generalize gm_lst L 5 (gm_vi (ap_post N A (X (i + 1)) (X (i + 2))).1) = L5 at hL5 l55 ⊢
  refine gm_sz (gm_p_load (pc := 714) (i := .aload_n 2) (sr := 2) (j := 2) (by decide +kernel) rfl hL5.2.2.2.1 rfl) ?_
  refine mn_arg (pc := 715) (j := 1) (by decide +kernel) (by decide +kernel) (by decide +kernel) (by decide +kernel) (by decide +kernel) hL5 hi (by decide) hLX ?_
  refine mn_arg (pc := 721) (j := 2) (by decide +kernel) (by decide +kernel) (by decide +kernel) (by decide +kernel) (by decide +kernel) hL5 hi (by decide) hLX ?_
  refine om_post (pc := 727) (ix := 191) (st := []) hb1 (by omega) hM1 (by decide +kernel) (by decide +kernel) (Nat.le_of_ble_eq_true rfl) am_post_s am_post_c am_post_v (bc_in1 (mn_w (hX _)) (bc_in1 (mn_w (hX _)) bc_in0)) (hX _) (hX _) (by omega) (by omega) ?_
  intro u2 la2 K2 R2 M2 hu2 hb2 hM2 h245 hth2
  obtain ⟨y2, rfl, hy2⟩ := hu2
  show gm_Wp X LX 280 _ _ 370 730 L5 [gm_vi y2] (245 + 4 * g) K2 R2 M2 Q
  refine gm_sz (gm_p_stor (pc := 730) (i := .istore 6) (sr := 0) (j := 6) (by decide +kernel) rfl (by show 6 + 0 < L5.length; have := hL5.1; omega) rfl) ?_
  have hL6 := mn_L_s (y := y2) hL5 (j := 6) (Or.inr rfl)
  have l66 := mn_l6 (y := y2) hL5
  have l65 := mn_l65 (y := y2) l55
  generalize gm_lst L5 6 (gm_vi y2) = L6 at hL6 l66 l65 ⊢
  refine gm_sz (gm_p_goto (pc := 732) (off := 1261) (by decide +kernel) (by decide)) ?_
  exact gm_Wp_wk (Nat.le_refl _) (by omega) (by omega) (rest g _ _ _ _ L6 hb2 (by omega) ⟨_, _, _, _, _, _, _, hM2⟩ hL6)
theorem mc_13 (hb : bg g la K R M) (hg : g < 9990) (hM : RELW la K M) (hL : mn_L i L) (hi : 0 ≤ i ∧ i + 6 ≤ (LX : Int)) (hLX : LX ≤ 3072) (hX : ∀ j, gm_ir (X j)) (hbc : 12 ≤ bc) (hbs : 1200 ≤ bs) (rest : mn_R X LX bc bs i g Q) : gm_Wp X LX 280 bc bs 370 735 L [] (245 + 4 * g) K R M Q := by
  obtain ⟨N, lw, A, im, t, w, f, hM⟩ := hM
  refine gm_sz (gm_p_load (pc := 735) (i := .aload_n 1) (sr := 2) (j := 1) (by decide +kernel) rfl hL.2.2.1 rfl) ?_
  refine mn_arg (pc := 736) (j := 1) (by decide +kernel) (by decide +kernel) (by decide +kernel) (by decide +kernel) (by decide +kernel) hL hi (by decide) hLX ?_
  refine mn_arg (pc := 742) (j := 2) (by decide +kernel) (by decide +kernel) (by decide +kernel) (by decide +kernel) (by decide +kernel) hL hi (by decide) hLX ?_
  refine gm_sz (gm_p_load (pc := 748) (i := .aload_n 3) (sr := 2) (j := 3) (by decide +kernel) rfl hL.2.2.2.2.1 rfl) ?_
  refine ow_watch (pc := 749) (ix := 192) (st := []) hb (by omega) hM (by decide +kernel) (by decide +kernel) (Nat.le_of_ble_eq_true rfl) ax_watch_s al_watch_s ax_watch_c al_watch_c ax_watch_v al_watch_v (bc_in1 (mn_w (hX _)) (bc_in1 (mn_w (hX _)) bc_in0)) (hX _) (hX _) (by omega) (by omega) ?_
  intro la1 K1 R1 M1 hb1 hM1 hv1
  show gm_Wp X LX 280 _ _ 370 752 L [gm_vi ((ap_watch N A (X (i + 1)) (X (i + 2))).1)] (245 + 4 * g) K1 R1 M1 Q
  refine gm_sz (gm_p_stor (pc := 752) (i := .istore 5) (sr := 0) (j := 5) (by decide +kernel) rfl (by show 5 + 0 < L.length; have := hL.1; omega) rfl) ?_
  have hL5 := mn_L_s (y := (ap_watch N A (X (i + 1)) (X (i + 2))).1) hL (j := 5) (Or.inl rfl)
  have l55 := mn_l5 (y := (ap_watch N A (X (i + 1)) (X (i + 2))).1) hL
  generalize gm_lst L 5 (gm_vi (ap_watch N A (X (i + 1)) (X (i + 2))).1) = L5 at hL5 l55 ⊢
  refine gm_sz (gm_p_load (pc := 754) (i := .aload_n 2) (sr := 2) (j := 2) (by decide +kernel) rfl hL5.2.2.2.1 rfl) ?_
  refine mn_arg (pc := 755) (j := 1) (by decide +kernel) (by decide +kernel) (by decide +kernel) (by decide +kernel) (by decide +kernel) hL5 hi (by decide) hLX ?_
  refine mn_arg (pc := 761) (j := 2) (by decide +kernel) (by decide +kernel) (by decide +kernel) (by decide +kernel) (by decide +kernel) hL5 hi (by decide) hLX ?_
  refine om_watch (pc := 767) (ix := 194) (st := []) hb1 (by omega) hM1 (by decide +kernel) (by decide +kernel) (Nat.le_of_ble_eq_true rfl) am_watch_s am_watch_c am_watch_v (bc_in1 (mn_w (hX _)) (bc_in1 (mn_w (hX _)) bc_in0)) (hX _) (hX _) (by omega) (by omega) ?_
  intro u2 la2 K2 R2 M2 hu2 hb2 hM2 h245 hth2
  obtain ⟨y2, rfl, hy2⟩ := hu2
  show gm_Wp X LX 280 _ _ 370 770 L5 [gm_vi y2] (245 + 4 * g) K2 R2 M2 Q
  refine gm_sz (gm_p_stor (pc := 770) (i := .istore 6) (sr := 0) (j := 6) (by decide +kernel) rfl (by show 6 + 0 < L5.length; have := hL5.1; omega) rfl) ?_
  have hL6 := mn_L_s (y := y2) hL5 (j := 6) (Or.inr rfl)
  have l66 := mn_l6 (y := y2) hL5
  have l65 := mn_l65 (y := y2) l55
  generalize gm_lst L5 6 (gm_vi y2) = L6 at hL6 l66 l65 ⊢
  refine gm_sz (gm_p_goto (pc := 772) (off := 1221) (by decide +kernel) (by decide)) ?_
  exact gm_Wp_wk (Nat.le_refl _) (by omega) (by omega) (rest g _ _ _ _ L6 hb2 (by omega) ⟨_, _, _, _, _, _, _, hM2⟩ hL6)
theorem mc_14 (hb : bg g la K R M) (hg : g < 9990) (hM : RELW la K M) (hL : mn_L i L) (hi : 0 ≤ i ∧ i + 6 ≤ (LX : Int)) (hLX : LX ≤ 3072) (hX : ∀ j, gm_ir (X j)) (hbc : 12 ≤ bc) (hbs : 1200 ≤ bs) (rest : mn_R X LX bc bs i g Q) : gm_Wp X LX 280 bc bs 370 775 L [] (245 + 4 * g) K R M Q := by
  obtain ⟨N, lw, A, im, t, w, f, hM⟩ := hM
  refine gm_sz (gm_p_load (pc := 775) (i := .aload_n 1) (sr := 2) (j := 1) (by decide +kernel) rfl hL.2.2.1 rfl) ?_
  refine mn_arg (pc := 776) (j := 1) (by decide +kernel) (by decide +kernel) (by decide +kernel) (by decide +kernel) (by decide +kernel) hL hi (by decide) hLX ?_
  refine gm_sz (gm_p_load (pc := 782) (i := .aload_n 3) (sr := 2) (j := 3) (by decide +kernel) rfl hL.2.2.2.2.1 rfl) ?_
  refine ow_open (pc := 783) (ix := 195) (st := []) hb (by omega) hM (by decide +kernel) (by decide +kernel) (Nat.le_of_ble_eq_true rfl) ax_open_s al_open_s ax_open_c al_open_c ax_open_v al_open_v (bc_in1 (mn_w (hX _)) bc_in0) (hX _) (by omega) (by omega) ?_
  intro la1 K1 R1 M1 hb1 hM1 hv1
  show gm_Wp X LX 280 _ _ 370 786 L [gm_vi ((ap_open lw N A (X (i + 1))).1)] (245 + 4 * g) K1 R1 M1 Q
  refine gm_sz (gm_p_stor (pc := 786) (i := .istore 5) (sr := 0) (j := 5) (by decide +kernel) rfl (by show 5 + 0 < L.length; have := hL.1; omega) rfl) ?_
  have hL5 := mn_L_s (y := (ap_open lw N A (X (i + 1))).1) hL (j := 5) (Or.inl rfl)
  have l55 := mn_l5 (y := (ap_open lw N A (X (i + 1))).1) hL
  generalize gm_lst L 5 (gm_vi (ap_open lw N A (X (i + 1))).1) = L5 at hL5 l55 ⊢
  refine gm_sz (gm_p_load (pc := 788) (i := .aload_n 2) (sr := 2) (j := 2) (by decide +kernel) rfl hL5.2.2.2.1 rfl) ?_
  refine mn_arg (pc := 789) (j := 1) (by decide +kernel) (by decide +kernel) (by decide +kernel) (by decide +kernel) (by decide +kernel) hL5 hi (by decide) hLX ?_
  refine om_open (pc := 795) (ix := 197) (st := []) hb1 (by omega) hM1 (by decide +kernel) (by decide +kernel) (Nat.le_of_ble_eq_true rfl) am_open_s am_open_c am_open_v (bc_in1 (mn_w (hX _)) bc_in0) (hX _) (by omega) (by omega) ?_
  intro u2 la2 K2 R2 M2 hu2 hb2 hM2 h245 hth2
  obtain ⟨y2, rfl, hy2⟩ := hu2
  show gm_Wp X LX 280 _ _ 370 798 L5 [gm_vi y2] (245 + 4 * g) K2 R2 M2 Q
  refine gm_sz (gm_p_stor (pc := 798) (i := .istore 6) (sr := 0) (j := 6) (by decide +kernel) rfl (by show 6 + 0 < L5.length; have := hL5.1; omega) rfl) ?_
  have hL6 := mn_L_s (y := y2) hL5 (j := 6) (Or.inr rfl)
  have l66 := mn_l6 (y := y2) hL5
  have l65 := mn_l65 (y := y2) l55
  generalize gm_lst L5 6 (gm_vi y2) = L6 at hL6 l66 l65 ⊢
  refine gm_sz (gm_p_goto (pc := 800) (off := 1193) (by decide +kernel) (by decide)) ?_
  exact gm_Wp_wk (Nat.le_refl _) (by omega) (by omega) (rest g _ _ _ _ L6 hb2 (by omega) ⟨_, _, _, _, _, _, _, hM2⟩ hL6)
theorem mc_15 (hb : bg g la K R M) (hg : g < 9990) (hM : RELW la K M) (hL : mn_L i L) (hi : 0 ≤ i ∧ i + 6 ≤ (LX : Int)) (hLX : LX ≤ 3072) (hX : ∀ j, gm_ir (X j)) (hbc : 12 ≤ bc) (hbs : 1200 ≤ bs) (rest : mn_R X LX bc bs i g Q) : gm_Wp X LX 280 bc bs 370 803 L [] (245 + 4 * g) K R M Q := by
  obtain ⟨N, lw, A, im, t, w, f, hM⟩ := hM
  refine gm_sz (gm_p_load (pc := 803) (i := .aload_n 1) (sr := 2) (j := 1) (by decide +kernel) rfl hL.2.2.1 rfl) ?_
  refine mn_arg (pc := 804) (j := 1) (by decide +kernel) (by decide +kernel) (by decide +kernel) (by decide +kernel) (by decide +kernel) hL hi (by decide) hLX ?_
  refine gm_sz (gm_p_load (pc := 810) (i := .aload_n 3) (sr := 2) (j := 3) (by decide +kernel) rfl hL.2.2.2.2.1 rfl) ?_
  refine ow_years (pc := 811) (ix := 198) (st := []) hb (by omega) hM (by decide +kernel) (by decide +kernel) (Nat.le_of_ble_eq_true rfl) ax_years_s al_years_s ax_years_c al_years_c ax_years_v al_years_v (bc_in1 (mn_w (hX _)) bc_in0) (hX _) (by omega) (by omega) ?_
  intro la1 K1 R1 M1 hb1 hM1 hv1
  show gm_Wp X LX 280 _ _ 370 814 L [gm_vi ((ap_years lw N A (X (i + 1))).1)] (245 + 4 * g) K1 R1 M1 Q
  refine gm_sz (gm_p_stor (pc := 814) (i := .istore 5) (sr := 0) (j := 5) (by decide +kernel) rfl (by show 5 + 0 < L.length; have := hL.1; omega) rfl) ?_
  have hL5 := mn_L_s (y := (ap_years lw N A (X (i + 1))).1) hL (j := 5) (Or.inl rfl)
  have l55 := mn_l5 (y := (ap_years lw N A (X (i + 1))).1) hL
  generalize gm_lst L 5 (gm_vi (ap_years lw N A (X (i + 1))).1) = L5 at hL5 l55 ⊢
  refine gm_sz (gm_p_load (pc := 816) (i := .aload_n 2) (sr := 2) (j := 2) (by decide +kernel) rfl hL5.2.2.2.1 rfl) ?_
  refine mn_arg (pc := 817) (j := 1) (by decide +kernel) (by decide +kernel) (by decide +kernel) (by decide +kernel) (by decide +kernel) hL5 hi (by decide) hLX ?_
  refine om_years (pc := 823) (ix := 200) (st := []) hb1 (by omega) hM1 (by decide +kernel) (by decide +kernel) (Nat.le_of_ble_eq_true rfl) am_years_s am_years_c am_years_v (bc_in1 (mn_w (hX _)) bc_in0) (hX _) (by omega) (by omega) ?_
  intro u2 la2 K2 R2 M2 hu2 hb2 hM2 h245 hth2
  obtain ⟨y2, rfl, hy2⟩ := hu2
  show gm_Wp X LX 280 _ _ 370 826 L5 [gm_vi y2] (245 + 4 * g) K2 R2 M2 Q
  refine gm_sz (gm_p_stor (pc := 826) (i := .istore 6) (sr := 0) (j := 6) (by decide +kernel) rfl (by show 6 + 0 < L5.length; have := hL5.1; omega) rfl) ?_
  have hL6 := mn_L_s (y := y2) hL5 (j := 6) (Or.inr rfl)
  have l66 := mn_l6 (y := y2) hL5
  have l65 := mn_l65 (y := y2) l55
  generalize gm_lst L5 6 (gm_vi y2) = L6 at hL6 l66 l65 ⊢
  refine gm_sz (gm_p_goto (pc := 828) (off := 1165) (by decide +kernel) (by decide)) ?_
  exact gm_Wp_wk (Nat.le_refl _) (by omega) (by omega) (rest g _ _ _ _ L6 hb2 (by omega) ⟨_, _, _, _, _, _, _, hM2⟩ hL6)
end MCC
end
