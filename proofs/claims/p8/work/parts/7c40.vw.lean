/-! THE LAW'S CALLS, told of class and reference by one state. -/
theorem gm_lc_ne {L : gm_L} {j i : Nat} (h : ¬ i + 1 = j) : (gm_lc L j)[i]? = L[i]? := by
  cases j with
  | zero => rfl
  | succ j =>
    show (match L[j]? with
      | some (some (.inr (.inl _))) => L.set j none
      | _ => L)[i]? = _
    split
    · rw [List.getElem?_set, if_neg (by omega)]
    · rfl
/-- the law's variables: script, class, reference, out, i -/
noncomputable def mn_L (i : Int) (L : gm_L) : Prop := L.length = 7 ∧ L[0]? = some (some (gm_vo 2000)) ∧ L[1]? = some (some (gm_vr 1)) ∧ L[2]? = some (some (gm_vr 226)) ∧ L[3]? = some (some (gm_vr 245)) ∧ L[4]? = some (some (gm_vi i))
theorem mn_L_s {i y : Int} {L : gm_L} {j : Nat} (h : mn_L i L) (hj : j = 5 ∨ j = 6) : mn_L i (gm_lst L j (gm_vi y)) := by
  obtain ⟨h0, h1, h2, h3, h4, h5⟩ := h
  show mn_L i ((gm_lc L j).set j (some (gm_vi y)))
  have e : ∀ k, k < 4 → ((gm_lc L j).set j (some (gm_vi y)))[k]? = L[k]? := fun k hk => by
    rw [List.getElem?_set, if_neg (by omega), gm_lc_ne (by omega)]
  refine ⟨by rw [List.length_set, gm_lc_len]; exact h0, (e 0 (by decide)).trans h1, (e 1 (by decide)).trans h2, (e 2 (by decide)).trans h3, (e 3 (by decide)).trans h4, ?_⟩
  rw [List.getElem?_set, if_neg (by omega)]
  rcases hj with rfl | rfl
  · show (match L[4]? with
      | some (some (.inr (.inl _))) => L.set 4 none
      | _ => L)[4]? = _
    rw [h5]
    exact h5
  · rw [gm_lc_ne (by decide)]
    exact h5
section MN
variable {X : Int → Int} {LX d bc bs pc n : Nat} {L : gm_L} {st : List gm_V} {K : gm_K} {R : gm_R} {M : gm_M} {Q : gm_Q}
theorem mn_arg {j i : Int} (a0 : gm_at 370 pc = some (.aload_n 0)) (a1 : gm_at 370 (pc + 1) = some (.iload 4)) (a2 : gm_at 370 (pc + 3) = some (.iconst j)) (a3 : gm_at 370 (pc + 4) = some .iadd) (a4 : gm_at 370 (pc + 5) = some .iaload) (hL : mn_L i L) (hi : 0 ≤ i ∧ i + 6 ≤ (LX : Int)) (hj : 1 ≤ j ∧ j ≤ 5) (hX : LX ≤ 3072) (k : gm_Wp X LX d bc bs 370 (pc + 6) L (gm_vi (X (i + j)) :: st) n K R M Q) : gm_Wp X LX d bc bs 370 pc L st n K R M Q := by
  obtain ⟨h0, h1, h2, h3, h4, h5⟩ := hL
  have w : gm_w (i + j) = i + j := gm_w_id (by omega) (by omega)
  refine gm_sz (gm_p_load a0 (sr := 2) (j := 0) rfl h1 rfl) ?_
  refine gm_sz (gm_p_load a1 (sr := 0) (j := 4) rfl h5 rfl) ?_
  refine gm_sz (gm_p_const a2 (v := gm_vi j) rfl) ?_
  refine gm_sz (gm_p_bin a3 (f := fun x y => x + y) rfl) ?_
  refine gm_sz (gm_p_sald a4 (by rw [w]; omega)) ?_
  rw [w]
  exact k
/-- a truth, as javac lays it down -/
noncomputable def bz (x : Int) : Int := if gm_w x = gm_w 0 then 0 else 1
theorem bz_0 {x : Int} : 0 ≤ bz x := by unfold bz; split <;> decide
theorem bz_1 {x : Int} : bz x ≤ 1 := by unfold bz; split <;> decide
theorem mn_bool {x : Int} (a0 : gm_at 370 pc = some (.ifCond .eq 7)) (a1 : gm_at 370 (pc + 3) = some (.iconst 1)) (a2 : gm_at 370 (pc + 4) = some (.goto 4)) (a3 : gm_at 370 (pc + 7) = some (.iconst 0)) (k : gm_Wp X LX d bc bs 370 (pc + 8) L (gm_vi (bz x) :: st) n K R M Q) : gm_Wp X LX d bc bs 370 pc L (gm_vi x :: st) n K R M Q := by
  have t7 : gm_tgt pc 7 = pc + 7 := by unfold gm_tgt; omega
  have t4 : gm_tgt (pc + 4) 4 = pc + 8 := by unfold gm_tgt; omega
  refine gm_b_if a0 (by omega) (fun hp => ?_) (fun hp => ?_)
  · have hp : gm_w x = gm_w 0 := hp
    rw [t7]
    refine gm_sz (gm_p_const a3 (v := gm_vi 0) rfl) ?_
    rw [show bz x = 0 from if_pos hp] at k
    exact k
  · have hp : ¬ gm_w x = gm_w 0 := hp
    refine gm_sz (gm_p_const a1 (v := gm_vi 1) rfl) ?_
    refine gm_sz (gm_p_goto (pc := pc + 4) a2 (by omega)) ?_
    rw [show bz x = 1 from if_neg hp] at k
    rw [t4]
    exact k
end MN
theorem bc_in0 : bc_in [] [] := trivial
theorem bc_in1 {b : Int × Int} {bs : List (Int × Int)} {x : Int} {xs : List Int} (h : b.1 ≤ x ∧ x ≤ b.2) (h2 : bc_in bs xs) : bc_in (b :: bs) (x :: xs) := ⟨h, h2⟩
theorem mn_w {x : Int} (h : gm_ir x) : -2147483648 ≤ x ∧ x ≤ 2147483647 := ⟨h.1, by have := h.2; omega⟩
noncomputable def mn_u (r : Bool) (u : Option gm_V) : Prop := if r = true then ∃ y, u = some (gm_vi y) else u = none
noncomputable def w_r (r : Bool) (S : ck_Sum) : Bool := S.2.2.2.2.2.all fun oc => match oc.1 with
  | .inr none => !r
  | .inr (some _) => r
  | _ => false
/-- class and reference are told the same, of whatever state -/
noncomputable def RELW (la : Nat → Nat) (K : gm_K) (M : gm_M) : Prop := ∃ (N : Int → Int) (lw : Option (List lln)) (A : List (Int → Int)) (im : Option ((Int → Int) × Option (List lln))) (t w : Int) (f : Int → Int), REL la K M N lw A im t w f
section VW
variable {X : Int → Int} {LX : Nat} {O : gm_Or} {g z g1 bc bs ix mj pc : Nat} {la : Nat → Nat} {K : gm_K} {R : gm_R} {M : gm_M} {L : gm_L} {st : List gm_V} {Q : gm_Q} {N : Int → Int} {lw : Option (List lln)} {A : List (Int → Int)} {im : Option ((Int → Int) × Option (List lln))} {t w : Int} {f : Int → Int} {S : ck_Sum} {l l0 l1 : List ck_Sum} {ds : List (Int × Int)} {xs : List Int} {r : Bool} {u : Option gm_V} {P : (Nat → Nat) → gm_K → gm_M → Prop}
theorem hck_int {oc : ck_Oc} (h : bc_ok O z g1 S = true) (hoc : oc ∈ S.2.2.2.2.2) : (match oc.1 with
  | .inr none => true
  | .inr (some (.inl _)) => true
  | _ => false) = true := by
  simp only [bc_ok, Bool.and_eq_true, decide_eq_true_eq] at h
  obtain ⟨-, -, -, -, h5⟩ := h
  have h6 := List.all_eq_true.mp h5 oc hoc
  simp only [Bool.and_eq_true, decide_eq_true_eq] at h6
  exact h6.1
theorem vr_s (h : w_r r S = true) (hok : bc_ok O z g1 S = true) (hv : mq_V S u) : mn_u r u := by
  obtain ⟨oc, hoc, σ, ho⟩ := hv
  have h9 := List.all_eq_true.mp h oc hoc
  unfold mn_u
  rcases hoc1 : oc.1 with x | a
  · rw [hoc1] at h9; cases h9
  · rw [hoc1] at ho
    rcases a with _ | a
    · rw [hoc1] at h9
      have h9 : (!r) = true := h9
      rw [if_neg (by cases r <;> simp_all)]
      cases u with
      | none => rfl
      | some v => exact absurd ho id
    · rw [hoc1] at h9
      have h9 : r = true := h9
      rw [if_pos h9]
      have h10 := hck_int (S := S) hok hoc
      rw [hoc1] at h10
      cases u with
      | none => exact absurd ho id
      | some v =>
        rcases a with a | a
        · obtain ⟨y, rfl, -⟩ := ho
          exact ⟨y, rfl⟩
        · cases h10
/-- behind a call -/
noncomputable def rq_K (X : Int → Int) (LX bc bs pc : Nat) (L : gm_L) (st : List gm_V) (Q : gm_Q) (g : Nat) (r : Bool) (P : (Nat → Nat) → gm_K → gm_M → Prop) : Prop := ∀ (u : Option gm_V) (la2 : Nat → Nat) (K2 : gm_K) (R2 : gm_R) (M2 : gm_M), mn_u r u → bg g la2 K2 R2 M2 → P la2 K2 M2 → gm_Wp X LX 280 (bc - 6) (bs - 600) 370 pc L (u.toList ++ st) (245 + 4 * g) K2 R2 M2 Q
theorem rq_go (hw : w_r r S = true) (hok : bc_ok O z g1 S = true) (k : rq_K X LX bc bs pc L st Q g r P) : mq_K X LX bc bs pc L st Q g P (fun u _ => mq_V S u) := fun u la2 K2 R2 M2 hv hb2 hp => k u la2 K2 R2 M2 (vr_s hw hok hv) hb2 hp
theorem lw_0 (hR : REL la K M N lw A im t w f) (h3 : la 3 = 0) : lw = none := by
  cases lw with
  | none => rfl
  | some ls => exact absurd h3 (hR.2.1.1.2 ls rfl).1
theorem lw_1 (hR : REL la K M N lw A im t w f) (h3 : ¬ la 3 = 0) : ∃ ls, lw = some ls := by
  cases lw with
  | none => exact absurd (hR.2.1.1.1 rfl) h3
  | some ls => exact ⟨ls, rfl⟩
theorem rq_as {k1 : Nat} (ha : bc_args S k1 false = true) (hin : bc_in (bc_box S) xs) (hi : ∀ x ∈ xs, gm_ir x) : ∀ σ, ck_gas σ S.2.2.1 (gm_vr k1 :: xs.map gm_vi) := fun σ => by
  have := bc_gas2 (σ := σ) ha hin hi
  rwa [mw_as] at this
/-- a call that only asks: the class, by one of the law's own methods -/
theorem rq_x (hb : bg g la K R M) (hg : g < 10000) (hR : REL la K M N lw A im t w f) (h : gm_at 370 pc = some (.invokestatic ix)) (hc : gm_cal (gm_ow 370) ix = some (5, mj)) (hmx : gm_ow mj ≠ gm_mxi) (hhj : ¬ gm_hh mj = []) (hna : xs.length + 2 = gm_na mj) (hlen : xs.length + 2 ≤ gm_ml mj) (hst : (st.map gm_cat).sum ≤ 8) (s0 : ∀ S ∈ l0, ck_Ok q0_O X LX mj S) (s1 : ∀ S ∈ l1, ck_Ok qL_O X LX mj S) (c0 : l0.all (fun S => w_k q0_O 0 0 1 true S && w_r r S) = true) (c1 : l1.all (fun S => w_k qL_O 246 1 1 true S && w_r r S) = true) (v0 : bc_cov 60 ds (l0.map bc_box) = true) (v1 : bc_cov 60 ds (l1.map bc_box) = true) (hx : bc_in ds xs) (hi : ∀ x ∈ xs, gm_ir x) (hbc : 6 ≤ bc) (hbs : 600 ≤ bs) (k : rq_K X LX bc bs (pc + 3) L st Q g r (fun la2 K2 M2 => REL la2 K2 M2 N lw A im t w f)) : gm_Wp X LX 280 bc bs 370 pc L (gm_vr 245 :: ((xs.map gm_vi).reverse ++ gm_vr 1 :: st)) (245 + 4 * g) K R M Q := by
  by_cases h3 : la 3 = 0
  · have hz : bs_ok la 0 0 := Or.inl ⟨rfl, rfl, h3⟩
    have el := lw_0 hR h3
    subst el
    obtain ⟨S, hS, hin⟩ := mw_in v0 hx
    have hck := List.all_eq_true.mp c0 S hS
    simp only [Bool.and_eq_true] at hck
    obtain ⟨hck, hw⟩ := hck
    have hck2 := hck
    simp only [w_k, Bool.and_eq_true, decide_eq_true_eq] at hck2
    exact bc_statX (O := q0_O) (z := 0) (g1 := 0) hb hz hg q0_nmu (fun _ _ _ _ h => q0_p h) (bs_q0 hb hR) h hc hmx hhj hna hlen hst (s0 S hS) hck2.1 (by omega) (by omega) (by omega) (fun σ => bc_gas2 hck2.2.1 hin hi) (wk0_s hb h3 hck hR hbc hbs (rq_go hw hck2.1 k))
  · have hz : bs_ok la 246 1 := Or.inr (Or.inr ⟨rfl, rfl, h3⟩)
    obtain ⟨ls, rfl⟩ := lw_1 hR h3
    obtain ⟨S, hS, hin⟩ := mw_in v1 hx
    have hck := List.all_eq_true.mp c1 S hS
    simp only [Bool.and_eq_true] at hck
    obtain ⟨hck, hw⟩ := hck
    have hck2 := hck
    simp only [w_k, Bool.and_eq_true, decide_eq_true_eq] at hck2
    exact bc_statX (O := qL_O) (z := 246) (g1 := 1) hb hz hg qL_nmu (fun _ _ _ _ h => pl_o (qL_p h)) (bs_qL hb h3 hR) h hc hmx hhj hna hlen hst (s1 S hS) hck2.1 (by omega) (by omega) (by omega) (fun σ => bc_gas2 hck2.2.1 hin hi) (wkL_s hb h3 hck hR hbc hbs (rq_go hw hck2.1 k))
/-- the class itself -/
theorem rq_d (hb : bg g la K R M) (hg : g < 10000) (hR : REL la K M N lw A im t w f) (h : gm_at 370 pc = some (.invokevirtual ix)) (hc : gm_cal (gm_ow 370) ix = some (0, mj)) (hmx : gm_ow mj ≠ gm_mxi) (hcn : gm_cn 0 = (gm_mn mj).cls) (hna : xs.length = gm_na mj) (hlen : xs.length + 1 ≤ gm_ml mj) (hst : (st.map gm_cat).sum ≤ 8) (s0 : ∀ S ∈ l0, ck_Ok q0_O X LX mj S) (s1 : ∀ S ∈ l1, ck_Ok qL_O X LX mj S) (c0 : l0.all (fun S => w_k q0_O 0 0 1 false S && w_r r S) = true) (c1 : l1.all (fun S => w_k qL_O 246 1 1 false S && w_r r S) = true) (v0 : bc_cov 60 ds (l0.map bc_box) = true) (v1 : bc_cov 60 ds (l1.map bc_box) = true) (hx : bc_in ds xs) (hi : ∀ x ∈ xs, gm_ir x) (hbc : 6 ≤ bc) (hbs : 600 ≤ bs) (k : rq_K X LX bc bs (pc + 3) L st Q g r (fun la2 K2 M2 => REL la2 K2 M2 N lw A im t w f)) : gm_Wp X LX 280 bc bs 370 pc L ((xs.map gm_vi).reverse ++ gm_vr 1 :: st) (245 + 4 * g) K R M Q := by
  by_cases h3 : la 3 = 0
  · have hz : bs_ok la 0 0 := Or.inl ⟨rfl, rfl, h3⟩
    have el := lw_0 hR h3
    subst el
    obtain ⟨S, hS, hin⟩ := mw_in v0 hx
    have hck := List.all_eq_true.mp c0 S hS
    simp only [Bool.and_eq_true] at hck
    obtain ⟨hck, hw⟩ := hck
    have hck2 := hck
    simp only [w_k, Bool.and_eq_true, decide_eq_true_eq] at hck2
    exact bc_virtX (O := q0_O) (z := 0) (g1 := 0) (k1 := 1) (ci := 0) hb hz hg q0_nmu (fun _ _ _ _ h => q0_p h) (bs_q0 hb hR) ⟨by decide, by decide⟩ (mw_k1 hb).1 h hc hmx (by decide) hcn hna hlen hst (s0 S hS) hck2.1 (by omega) (by omega) (by omega) (rq_as hck2.2.1 hin hi) (wk0_s hb h3 hck hR hbc hbs (rq_go hw hck2.1 k))
  · have hz : bs_ok la 246 1 := Or.inr (Or.inr ⟨rfl, rfl, h3⟩)
    obtain ⟨ls, rfl⟩ := lw_1 hR h3
    obtain ⟨S, hS, hin⟩ := mw_in v1 hx
    have hck := List.all_eq_true.mp c1 S hS
    simp only [Bool.and_eq_true] at hck
    obtain ⟨hck, hw⟩ := hck
    have hck2 := hck
    simp only [w_k, Bool.and_eq_true, decide_eq_true_eq] at hck2
    exact bc_virtX (O := qL_O) (z := 246) (g1 := 1) (k1 := 1) (ci := 0) hb hz hg qL_nmu (fun _ _ _ _ h => pl_o (qL_p h)) (bs_qL hb h3 hR) ⟨by decide, by decide⟩ (mw_k1 hb).1 h hc hmx (by decide) hcn hna hlen hst (s1 S hS) hck2.1 (by omega) (by omega) (by omega) (rq_as hck2.2.1 hin hi) (wkL_s hb h3 hck hR hbc hbs (rq_go hw hck2.1 k))
/-- the reference -/
theorem rq_m (hb : bg g la K R M) (hg : g < 10000) (hR : REL la K M N lw A im t w f) (h : gm_at 370 pc = some (.invokevirtual ix)) (hc : gm_cal (gm_ow 370) ix = some (0, mj)) (hmx : gm_ow mj ≠ gm_mxi) (hcn : gm_cn 11 = (gm_mn mj).cls) (hna : xs.length = gm_na mj) (hlen : xs.length + 1 ≤ gm_ml mj) (hst : (st.map gm_cat).sum ≤ 8) (s0 : ∀ S ∈ l, ck_Ok qR_O X LX mj S) (c0 : l.all (fun S => w_kR S && w_r r S) = true) (v0 : bc_cov 60 ds (l.map bc_box) = true) (hx : bc_in ds xs) (hi : ∀ x ∈ xs, gm_ir x) (hbc : 6 ≤ bc) (hbs : 600 ≤ bs) (k : rq_K X LX bc bs (pc + 3) L st Q g r (fun la2 K2 M2 => REL la2 K2 M2 N lw A im t w f)) : gm_Wp X LX 280 bc bs 370 pc L ((xs.map gm_vi).reverse ++ gm_vr 226 :: st) (245 + 4 * g) K R M Q := by
  obtain ⟨S, hS, hin⟩ := mw_in v0 hx
  have hck := List.all_eq_true.mp c0 S hS
  simp only [Bool.and_eq_true] at hck
  obtain ⟨hck, hw⟩ := hck
  have hck2 := hck
  simp only [w_kR, Bool.and_eq_true, decide_eq_true_eq] at hck2
  exact bc_virtX (O := qR_O) (z := 100003) (g1 := 0) (k1 := 226) (ci := 11) hb (Or.inr (Or.inl ⟨rfl, rfl⟩)) hg qR_nmu (fun _ _ _ _ h => qR_p h) (bs_qR hb hR) ⟨by decide, by decide⟩ (mw_k1 hb).2 h hc hmx (by decide) hcn hna hlen hst (s0 S hS) hck2.1 (by omega) (by omega) (by omega) (rq_as hck2.2.1 hin hi) (wkR_s hb hck hR hbc hbs (rq_go hw hck2.1 k))
/-- FIT: the class, the reference -/
theorem ft_x (hb : bg g la K R M) (hg : g < 10000) (hR : REL la K M N lw A im t w f) (h : gm_at 370 pc = some (.invokestatic ix)) (hc : gm_cal (gm_ow 370) ix = some (5, mj)) (hmx : gm_ow mj ≠ gm_mxi) (hhj : ¬ gm_hh mj = []) (hna : xs.length + 2 = gm_na mj) (hlen : xs.length + 2 ≤ gm_ml mj) (hst : (st.map gm_cat).sum ≤ 8) (s0 : ∀ S ∈ l0, ck_Ok p2_O X LX mj S) (s1 : ∀ S ∈ l1, ck_Ok p2_OL X LX mj S) (c0 : l0.all (fun S => w_ft p2_O 0 0 1 true 1 1 S && w_r r S) = true) (c1 : l1.all (fun S => w_ft p2_OL 246 1 1 true 1 1 S && w_r r S) = true) (v0 : bc_cov 60 ds (l0.map bc_box) = true) (v1 : bc_cov 60 ds (l1.map bc_box) = true) (hx : bc_in ds xs) (hi : ∀ x ∈ xs, gm_ir x) (hbc : 6 ≤ bc) (hbs : 600 ≤ bs) (k : rq_K X LX bc bs (pc + 3) L st Q g r (fun la2 K2 M2 => MID la2 K2 M2 N lw A im 0 w f N lw A im t w f)) : gm_Wp X LX 280 bc bs 370 pc L (gm_vr 245 :: ((xs.map gm_vi).reverse ++ gm_vr 1 :: st)) (245 + 4 * g) K R M Q := by
  by_cases h3 : la 3 = 0
  · have hz : bs_ok la 0 0 := Or.inl ⟨rfl, rfl, h3⟩
    obtain ⟨S, hS, hin⟩ := mw_in v0 hx
    have hck := List.all_eq_true.mp c0 S hS
    simp only [Bool.and_eq_true] at hck
    obtain ⟨hck, hw⟩ := hck
    have hck2 := hck
    simp only [w_ft, Bool.and_eq_true, decide_eq_true_eq] at hck2
    exact bc_statX (O := p2_O) (z := 0) (g1 := 0) hb hz hg p2_nmu (fun _ _ _ _ h => h) (bs_F0 hb) h hc hmx hhj hna hlen hst (s0 S hS) hck2.1 (by omega) (by omega) (by omega) (fun σ => bc_gas2 hck2.2.1 hin hi) (fx_K hb hz hck hR hbc hbs (rq_go hw hck2.1 k))
  · have hz : bs_ok la 246 1 := Or.inr (Or.inr ⟨rfl, rfl, h3⟩)
    obtain ⟨S, hS, hin⟩ := mw_in v1 hx
    have hck := List.all_eq_true.mp c1 S hS
    simp only [Bool.and_eq_true] at hck
    obtain ⟨hck, hw⟩ := hck
    have hck2 := hck
    simp only [w_ft, Bool.and_eq_true, decide_eq_true_eq] at hck2
    exact bc_statX (O := p2_OL) (z := 246) (g1 := 1) hb hz hg pl_nmu (fun _ _ _ _ h => pl_o h) (bs_F1 hb h3) h hc hmx hhj hna hlen hst (s1 S hS) hck2.1 (by omega) (by omega) (by omega) (fun σ => bc_gas2 hck2.2.1 hin hi) (fx_K hb hz hck hR hbc hbs (rq_go hw hck2.1 k))
theorem ft_m (hb : bg g la K R M) (hg : g < 10000) (hR : MID la K M N lw A im 0 w f N lw A im t w f) (h : gm_at 370 pc = some (.invokevirtual ix)) (hc : gm_cal (gm_ow 370) ix = some (0, mj)) (hmx : gm_ow mj ≠ gm_mxi) (hcn : gm_cn 11 = (gm_mn mj).cls) (hna : xs.length = gm_na mj) (hlen : xs.length + 1 ≤ gm_ml mj) (hst : (st.map gm_cat).sum ≤ 8) (s0 : ∀ S ∈ l, ck_Ok p2_O X LX mj S) (c0 : l.all (fun S => w_ft p2_O 100003 0 226 false 226 8 S && w_r r S) = true) (v0 : bc_cov 60 ds (l.map bc_box) = true) (hx : bc_in ds xs) (hi : ∀ x ∈ xs, gm_ir x) (hbc : 6 ≤ bc) (hbs : 600 ≤ bs) (k : rq_K X LX bc bs (pc + 3) L st Q g r (fun la2 K2 M2 => REL la2 K2 M2 N lw A im 0 w f)) : gm_Wp X LX 280 bc bs 370 pc L ((xs.map gm_vi).reverse ++ gm_vr 226 :: st) (245 + 4 * g) K R M Q := by
  obtain ⟨S, hS, hin⟩ := mw_in v0 hx
  have hck := List.all_eq_true.mp c0 S hS
  simp only [Bool.and_eq_true] at hck
  obtain ⟨hck, hw⟩ := hck
  have hck2 := hck
  simp only [w_ft, Bool.and_eq_true, decide_eq_true_eq] at hck2
  exact bc_virtX (O := p2_O) (z := 100003) (g1 := 0) (k1 := 226) (ci := 11) hb (Or.inr (Or.inl ⟨rfl, rfl⟩)) hg p2_nmu (fun _ _ _ _ h => h) (bs_F0 hb) ⟨by decide, by decide⟩ (mw_k1 hb).2 h hc hmx (by decide) hcn hna hlen hst (s0 S hS) hck2.1 (by omega) (by omega) (by omega) (rq_as hck2.2.1 hin hi) (fm_K hb hck hR hbc hbs (rq_go hw hck2.1 k))
/-- m.thrown() -/
theorem mn_th {j0 : Nat} (hb : bg g la K R M) (h : gm_at 370 pc = some (.invokevirtual ix)) (hc : gm_cal (gm_ow 370) ix = some (0, mj)) (hmx : gm_ow mj ≠ gm_mxi) (hh : gm_hh 370 = []) (hcn : gm_cn 11 = (gm_mn mj).cls) (hna : 0 = gm_na mj) (hlen : 1 ≤ gm_ml mj) (hst : (st.map gm_cat).sum ≤ 8) (a0 : gm_at mj 0 = some (.aload_n 0)) (a1 : gm_at mj 1 = some (.getfield j0)) (a2 : gm_at mj 4 = some .ireturn) (hf : gm_fld (gm_ow mj) j0 11 = some 0) (hs : ¬ gm_isr 11 0 = true) (hr : gm_rt mj = some .int) (k : gm_Wp X LX 280 bc bs 370 (pc + 3) L (gm_vi (M 226 0) :: st) (245 + 4 * g) K R M Q) : gm_Wp X LX 280 bc bs 370 pc L (gm_vr 226 :: st) (245 + 4 * g) K R M Q := by
  have k226 : (1 ≤ 226 ∧ 226 ≤ 245 + 4 * g) ∧ (K 226).1 = 11 + 4 := e0k (e0F hb.2.1) (k := 226) (c := 11) (by decide +kernel)
  refine gm_c_virt (k := 226) (ci := 11) (mj := mj) (ix := ix) (pc := pc) (as := []) (st := st) (d' := 1) (bc' := 0) (bs' := 0) h hc hmx hh k226.1 k226.2 (by decide) hcn hna fw_c0 hlen hst (by decide) (Nat.zero_le _) (Nat.zero_le _) ?_
  refine gm_sz (gm_p_load (pc := 0) (i := .aload_n 0) (sr := 2) (j := 0) a0 rfl rfl rfl) ?_
  refine gm_sz (fw_gi (pc := 1) (ix := j0) (ci := 11) (j := 0) (x := M 226 0) a1 k226 hf hs rfl) ?_
  refine gm_r_int (pc := 4) a2 (Or.inl hr) ?_
  show gm_Wp X LX 280 (bc - 0) (bs - 0) 370 (pc + 3) L (gm_vi (M 226 0) :: st) (245 + 4 * g) K R M Q
  exact k
theorem mn_l5 {i y : Int} (hL : mn_L i L) : (gm_lst L 5 (gm_vi y))[5]? = some (some (gm_vi y)) := by
  show ((gm_lc L 5).set 5 (some (gm_vi y)))[5]? = _
  rw [List.getElem?_set, if_pos rfl, if_pos (by rw [gm_lc_len]; have := hL.1; omega)]
theorem mn_l6 {i y : Int} (hL : mn_L i L) : (gm_lst L 6 (gm_vi y))[6]? = some (some (gm_vi y)) := by
  show ((gm_lc L 6).set 6 (some (gm_vi y)))[6]? = _
  rw [List.getElem?_set, if_pos rfl, if_pos (by rw [gm_lc_len]; have := hL.1; omega)]
theorem mn_l65 {x y : Int} (h : L[5]? = some (some (gm_vi x))) : (gm_lst L 6 (gm_vi y))[5]? = some (some (gm_vi x)) := by
  show ((gm_lc L 6).set 6 (some (gm_vi y)))[5]? = _
  rw [List.getElem?_set, if_neg (by decide)]
  show (match L[5]? with
    | some (some (.inr (.inl _))) => L.set 5 none
    | _ => L)[5]? = _
  rw [h]
  exact h
/-- thrown the same, and, where nothing is, the same number -/
theorem mn_cmpA {i c y : Int} {p ixt jt : Nat} (hb : bg g la K R M) (hL : mn_L i L) (l5 : L[5]? = some (some (gm_vi c))) (l6 : L[6]? = some (some (gm_vi y))) (a0 : gm_at 370 p = some (.aload_n 2)) (a1 : gm_at 370 (p + 1) = some (.invokevirtual ixt)) (hc : gm_cal (gm_ow 370) ixt = some (0, mj)) (hmx : gm_ow mj ≠ gm_mxi) (hh : gm_hh 370 = []) (hcn : gm_cn 11 = (gm_mn mj).cls) (hna : 0 = gm_na mj) (hlen : 1 ≤ gm_ml mj) (b0 : gm_at mj 0 = some (.aload_n 0)) (b1 : gm_at mj 1 = some (.getfield jt)) (b2 : gm_at mj 4 = some .ireturn) (hf : gm_fld (gm_ow mj) jt 11 = some 0) (hs : ¬ gm_isr 11 0 = true) (hr : gm_rt mj = some .int)
    (a4 : gm_at 370 (p + 4) = some (.iload 5)) (a6 : gm_at 370 (p + 6) = some (.if_icmp .eq 5)) (a11 : gm_at 370 (p + 11) = some (.iload 5)) (a13 : gm_at 370 (p + 13) = some (.ifCond .ne 15)) (a16 : gm_at 370 (p + 16) = some (.aload_n 3)) (a17 : gm_at 370 (p + 17) = some (.iconst 0)) (a18 : gm_at 370 (p + 18) = some .laload) (a19 : gm_at 370 (p + 19) = some (.iload 6)) (a21 : gm_at 370 (p + 21) = some .i2l) (a22 : gm_at 370 (p + 22) = some .lcmp) (a23 : gm_at 370 (p + 23) = some (.ifCond .eq 5))
    (hth : gm_w (M 226 0) = gm_w c) (hv : gm_w c = gm_w 0 → gm_w6 (M 245 0) = gm_w6 (gm_w y)) (k : gm_Wp X LX 280 bc bs 370 (p + 28) L [] (245 + 4 * g) K R M Q) : gm_Wp X LX 280 bc bs 370 p L [] (245 + 4 * g) K R M Q := by
  have t1 : gm_tgt (p + 6) 5 = p + 11 := by unfold gm_tgt; omega
  have t2 : gm_tgt (p + 13) 15 = p + 28 := by unfold gm_tgt; omega
  have t3 : gm_tgt (p + 23) 5 = p + 28 := by unfold gm_tgt; omega
  have k245 : K 245 = (2, 1) := (hb.2.1.1 245 (2, 1) (by decide +kernel)).2.2
  refine gm_sz (gm_p_load a0 (sr := 2) (j := 2) rfl hL.2.2.2.1 rfl) ?_
  refine mn_th hb a1 hc hmx hh hcn hna hlen (by decide) b0 b1 b2 hf hs hr ?_
  refine gm_sz (gm_p_load (pc := p + 4) a4 (sr := 0) (j := 5) rfl l5 rfl) ?_
  refine gm_b_ic (cc := .eq) (pc := p + 6) a6 (by omega) (fun _ => ?_) (fun hp => absurd hth hp)
  rw [t1]
  refine gm_sz (gm_p_load (pc := p + 11) a11 (sr := 0) (j := 5) rfl l5 rfl) ?_
  refine gm_b_if (cc := .ne) (pc := p + 13) a13 (by omega) (fun hp => ?_) (fun hp => ?_)
  · rw [t2]
    exact k
  · have h0 : gm_w c = gm_w 0 := Classical.not_not.mp hp
    refine gm_sz (gm_p_load (pc := p + 16) a16 (sr := 2) (j := 3) rfl hL.2.2.2.2.1 rfl) ?_
    refine gm_sz (gm_p_const (pc := p + 17) a17 (v := gm_vi 0) rfl) ?_
    refine gm_sz (gm_p_lald (pc := p + 18) (k := 245) a18 ⟨by decide, by omega⟩ (by rw [k245]) (by rw [k245]; decide)) ?_
    refine gm_sz (gm_p_load (pc := p + 19) a19 (sr := 0) (j := 6) rfl l6 rfl) ?_
    refine gm_sz (gm_p_i2l (pc := p + 21) a21) ?_
    refine gm_sz (gm_p_lcmp (pc := p + 22) a22) ?_
    have eq0 : gm_lcm (M 245 (gm_w 0)) (gm_w y) = 0 := by
      have a : gm_w6 (M 245 0) = gm_w6 (gm_w y) := hv h0
      show gm_lcm (M 245 0) (gm_w y) = 0
      unfold gm_lcm
      rw [if_neg (by omega), if_pos a]
    rw [eq0]
    refine gm_b_if (cc := .eq) (pc := p + 23) a23 (by omega) (fun _ => ?_) (fun hp3 => absurd rfl hp3)
    rw [t3]
    exact k
end VW
