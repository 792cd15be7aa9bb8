/-! THE LAW'S LOOP: arguments, calls. -/
theorem gm_lc_ne {L : gm_L} {j i : Nat} (h : ¬ i + 1 = j) : (gm_lc L j)[i]? = L[i]? := by
  cases j with
  | zero => rfl
  | succ j =>
    show (match L[j]? with
      | some (some (.inr (.inl _))) => L.set j none
      | _ => L)[i]? = _
    split
    · rw [List.getElem?_set, if_neg (by omega)]
    · rfl
/-- the law's variables: script, class, reference, out, i -/
def mn_L (i : Int) (L : gm_L) : Prop := L.length = 7 ∧ L[0]? = some (some (gm_vo 2000)) ∧ L[1]? = some (some (gm_vr 1)) ∧ L[2]? = some (some (gm_vr 226)) ∧ L[3]? = some (some (gm_vr 245)) ∧ L[4]? = some (some (gm_vi i))
theorem mn_L_s {i y : Int} {L : gm_L} {j : Nat} (h : mn_L i L) (hj : j = 5 ∨ j = 6) : mn_L i (gm_lst L j (gm_vi y)) := by
  obtain ⟨h0, h1, h2, h3, h4, h5⟩ := h
  show mn_L i ((gm_lc L j).set j (some (gm_vi y)))
  have e : ∀ k, k < 4 → ((gm_lc L j).set j (some (gm_vi y)))[k]? = L[k]? := fun k hk => by
    rw [List.getElem?_set, if_neg (by omega), gm_lc_ne (by omega)]
  refine ⟨by rw [List.length_set, gm_lc_len]; exact h0, (e 0 (by decide)).trans h1, (e 1 (by decide)).trans h2, (e 2 (by decide)).trans h3, (e 3 (by decide)).trans h4, ?_⟩
  rw [List.getElem?_set, if_neg (by omega)]
  rcases hj with rfl | rfl
  · show (match L[4]? with
      | some (some (.inr (.inl _))) => L.set 4 none
      | _ => L)[4]? = _
    rw [h5]
    exact h5
  · rw [gm_lc_ne (by decide)]
    exact h5
section MN
variable {X : Int → Int} {LX d bc bs pc n : Nat} {L : gm_L} {st : List gm_V} {K : gm_K} {R : gm_R} {M : gm_M} {Q : gm_Q}
theorem mn_arg {j i : Int} (a0 : gm_at 370 pc = some (.aload_n 0)) (a1 : gm_at 370 (pc + 1) = some (.iload 4)) (a2 : gm_at 370 (pc + 3) = some (.iconst j)) (a3 : gm_at 370 (pc + 4) = some .iadd) (a4 : gm_at 370 (pc + 5) = some .iaload) (hL : mn_L i L) (hi : 0 ≤ i ∧ i + 6 ≤ (LX : Int)) (hj : 1 ≤ j ∧ j ≤ 5) (hX : LX ≤ 3072) (k : gm_Wp X LX d bc bs 370 (pc + 6) L (gm_vi (X (i + j)) :: st) n K R M Q) : gm_Wp X LX d bc bs 370 pc L st n K R M Q := by
  obtain ⟨h0, h1, h2, h3, h4, h5⟩ := hL
  have w : gm_w (i + j) = i + j := gm_w_id (by omega) (by omega)
  refine gm_sz (gm_p_load a0 (sr := 2) (j := 0) rfl h1 rfl) ?_
  refine gm_sz (gm_p_load a1 (sr := 0) (j := 4) rfl h5 rfl) ?_
  refine gm_sz (gm_p_const a2 (v := gm_vi j) rfl) ?_
  refine gm_sz (gm_p_bin a3 (f := fun x y => x + y) rfl) ?_
  refine gm_sz (gm_p_sald a4 (by rw [w]; omega)) ?_
  rw [w]
  exact k
theorem mn_bool {x : Int} (a0 : gm_at 370 pc = some (.ifCond .eq 7)) (a1 : gm_at 370 (pc + 3) = some (.iconst 1)) (a2 : gm_at 370 (pc + 4) = some (.goto 4)) (a3 : gm_at 370 (pc + 7) = some (.iconst 0)) (k : ∀ b : Int, 0 ≤ b → b ≤ 1 → gm_Wp X LX d bc bs 370 (pc + 8) L (gm_vi b :: st) n K R M Q) : gm_Wp X LX d bc bs 370 pc L (gm_vi x :: st) n K R M Q := by
  have t7 : gm_tgt pc 7 = pc + 7 := by unfold gm_tgt; omega
  have t4 : gm_tgt (pc + 4) 4 = pc + 8 := by unfold gm_tgt; omega
  refine gm_b_if a0 (by omega) (fun _ => ?_) (fun _ => ?_)
  · rw [t7]
    refine gm_sz (gm_p_const a3 (v := gm_vi 0) rfl) ?_
    exact k 0 (by decide) (by decide)
  · refine gm_sz (gm_p_const a1 (v := gm_vi 1) rfl) ?_
    refine gm_sz (gm_p_goto (pc := pc + 4) a2 (by omega)) ?_
    rw [t4]
    exact k 1 (by decide) (by decide)
end MN
/-- it does not write k.j -/
def bc_keep (S : ck_Sum) (k : Nat) (j : Int) : Bool := S.2.2.2.2.1.1.all fun w => !decide (w.1 = k ∧ w.2.1 ≤ j ∧ j ≤ w.2.2)
def bc_zero (S : ck_Sum) (k : Nat) (j : Int) : Bool := S.2.2.2.2.2.all fun oc => oc.2.2.2.2.any fun q => decide (q.1 = k ∧ q.2.1 = j ∧ q.2.2.1 = j ∧ q.2.2.2.1 = 0 ∧ q.2.2.2.2.1 = 0)
/-- md = 0: k.j is not written; md = 1: k.j is 0 behind it -/
def mn_p (md k : Nat) (j : Int) (M M2 : gm_M) : Prop := if md = 0 then M2 k j = M k j else M2 k j = 0
def bc_kp (S : ck_Sum) : Bool := S.2.2.2.2.1.1.all fun w => decide (¬ w.1 = 2) && decide (¬ w.1 = 231)
def bc_chk (O : gm_Or) (z g1 k1 : Nat) (t r : Bool) (md kk : Nat) (jj : Int) (ok : Nat) (oj : Int) (S : ck_Sum) : Bool := bc_ok O z g1 S && (bc_args S k1 t && (decide (S.1.1 + 1 ≤ 280 ∧ S.1.2.1 ≤ 6 ∧ S.1.2.2 ≤ 600) && ((bc_kp S && bc_keep S ok oj) && ((if md = 0 then bc_keep S kk jj else bc_zero S kk jj) && S.2.2.2.2.2.all fun oc => match oc.1 with
  | .inr none => !r
  | .inr (some _) => r
  | _ => false))))
def mn_u (r : Bool) (u : Option gm_V) : Prop := if r = true then ∃ y, u = some (gm_vi y) else u = none
section MC
variable {X : Int → Int} {LX : Nat} {O : gm_Or} {g z g1 bc bs ix mj pc md kk ok : Nat} {jj oj : Int} {r : Bool} {la : Nat → Nat} {K : gm_K} {R : gm_R} {M : gm_M} {Q : gm_Q} {L : gm_L} {st : List gm_V} {S : ck_Sum} {l l0 l1 : List ck_Sum} {ds : List (Int × Int)} {xs : List Int}
theorem bc_keep_s {n0 n k : Nat} {j : Int} {K0 K' : gm_K} {R0 R' : gm_R} {M0 M' : gm_M} (h : bc_keep S k j = true) (hk : k ≤ n0) (hf : ck_fr S.2.2.2.2.1 n0 K0 R0 M0 n K' R' M') : M' k j = M0 k j := by
  refine hf.2.2.1 k j hk fun w hw hh => ?_
  have := List.all_eq_true.mp h w hw
  simp only [Bool.not_eq_true', decide_eq_false_iff_not] at this
  exact this hh
theorem bc_kp_s {n0 n k : Nat} {j : Int} {K0 K' : gm_K} {R0 R' : gm_R} {M0 M' : gm_M} (h : bc_kp S = true) (hk2 : k = 2 ∨ k = 231) (hk : k ≤ n0) (hf : ck_fr S.2.2.2.2.1 n0 K0 R0 M0 n K' R' M') : M' k j = M0 k j := by
  refine hf.2.2.1 k j hk fun w hw hh => ?_
  have := List.all_eq_true.mp h w hw
  simp only [Bool.and_eq_true, decide_eq_true_eq] at this
  omega
theorem bc_zero_s {σ : Nat → Int} {oc : ck_Oc} {n k : Nat} {j : Int} {K' : gm_K} {R' : gm_R} {M' : gm_M} (h : bc_zero S k j = true) (hoc : oc ∈ S.2.2.2.2.2) (hf : ck_gf σ oc.2.2 n K' R' M') : M' k j = 0 := by
  obtain ⟨q, hq, h2⟩ := List.any_eq_true.mp (List.all_eq_true.mp h oc hoc)
  obtain ⟨e1, e2, e3, e4, e5⟩ := of_decide_eq_true h2
  have := ((hf.2.2 q hq).2 j (by omega) (by omega)).2
  rw [e1] at this
  have h1 := this.1
  have h2 := this.2.1
  omega
theorem hck_int {oc : ck_Oc} (h : bc_ok O z g1 S = true) (hoc : oc ∈ S.2.2.2.2.2) : (match oc.1 with
  | .inr none => true
  | .inr (some (.inl _)) => true
  | _ => false) = true := by
  simp only [bc_ok, Bool.and_eq_true, decide_eq_true_eq] at h
  obtain ⟨-, -, -, -, h5⟩ := h
  have h6 := List.all_eq_true.mp h5 oc hoc
  simp only [Bool.and_eq_true, decide_eq_true_eq] at h6
  exact h6.1
/-- behind the call -/
def mn_K (X : Int → Int) (LX bc bs pc : Nat) (L : gm_L) (st : List gm_V) (Q : gm_Q) (g md kk : Nat) (jj : Int) (ok : Nat) (oj : Int) (r : Bool) (M : gm_M) : Prop := ∀ (g' : Nat) (la' : Nat → Nat) (K2 : gm_K) (R2 : gm_R) (M2 : gm_M) (u : Option gm_V), bg g' la' K2 R2 M2 → g' ≤ g + 1 → M2 ok oj = M ok oj → mn_p md kk jj M M2 → mn_u r u → (∀ j, 0 ≤ j → j < 400 → M2 2 j = M 2 j ∧ M2 231 j = M 231 j) → gm_Wp X LX 280 (bc - 6) (bs - 600) 370 pc L (u.toList ++ st) (245 + 4 * g') K2 R2 M2 Q
theorem mn_bcK {t : Bool} {k1 : Nat} (hck : bc_chk O z g1 k1 t r md kk jj ok oj S = true) (hkk : kk ≤ 245) (hok : ok ≤ 245) (hbc : 6 ≤ bc) (hbs : 600 ≤ bs) (k : mn_K X LX bc bs (pc + 3) L st Q g md kk jj ok oj r M) : bc_K X LX 280 (bc - S.1.2.1) (bs - S.1.2.2) 370 (pc + 3) L st Q O z g1 g la K M S := by
  simp only [bc_chk, Bool.and_eq_true, decide_eq_true_eq] at hck
  obtain ⟨h1, h2, ⟨h3, h4, h5⟩, ⟨h6a, h6⟩, h7, h8⟩ := hck
  intro oc hoc σ u n' K' R' M' hσ ho hf hF hfr g' la' K2 R2 M2 hb2 hg2 hM2
  have e1 : ∀ c j, c ≤ 245 → bs_M la M c j = M c j := fun c j hc => by unfold bs_M bg_rho; rw [if_pos (by omega)]
  refine gm_Wp_wk (Nat.le_refl _) (by omega) (by omega) (k g' la' K2 R2 M2 u hb2 hg2 ?_ ?_ ?_ ?_)
  · rw [hM2 ok oj hok, bc_keep_s h6 (by omega) hfr, e1 ok oj hok]
  · unfold mn_p
    by_cases hm : md = 0
    · rw [if_pos hm] at h7 ⊢
      rw [hM2 kk jj hkk, bc_keep_s h7 (by omega) hfr, e1 kk jj hkk]
    · rw [if_neg hm] at h7 ⊢
      rw [hM2 kk jj hkk]
      exact bc_zero_s h7 hoc hf
  · have h9 := List.all_eq_true.mp h8 oc hoc
    unfold mn_u
    rcases hoc1 : oc.1 with x | a
    · rw [hoc1] at h9; cases h9
    · rw [hoc1] at ho
      rcases a with _ | a
      · rw [hoc1] at h9
        have h9 : (!r) = true := h9
        rw [if_neg (by cases r <;> simp_all)]
        cases u with
        | none => rfl
        | some v => exact absurd ho id
      · rw [hoc1] at h9
        have h9 : r = true := h9
        rw [if_pos h9]
        have h10 := hck_int (S := S) h1 hoc
        rw [hoc1] at h10
        cases u with
        | none => exact absurd ho id
        | some v =>
          rcases a with a | a
          · obtain ⟨y, rfl, -⟩ := ho
            exact ⟨y, rfl⟩
          · cases h10
  · exact fun j _ _ => ⟨by rw [hM2 2 j (by decide), bc_kp_s h6a (Or.inl rfl) (by omega) hfr, e1 2 j (by decide)], by rw [hM2 231 j (by decide), bc_kp_s h6a (Or.inr rfl) (by omega) hfr, e1 231 j (by decide)]⟩
theorem mn_in (hv : bc_cov 60 ds (l.map bc_box) = true) (hx : bc_in ds xs) : ∃ S ∈ l, bc_in (bc_box S) xs := by
  obtain ⟨r, hr, h⟩ := bc_cov_s 60 ds _ xs hv hx
  obtain ⟨S, hS, rfl⟩ := List.mem_map.mp hr
  exact ⟨S, hS, h⟩
/-- a call on the class by one of the law's own methods -/
theorem mn_x (hb : bg g la K R M) (hg : g < 10000) (h : gm_at 370 pc = some (.invokestatic ix)) (hc : gm_cal (gm_ow 370) ix = some (5, mj)) (hmx : gm_ow mj ≠ gm_mxi) (hhj : ¬ gm_hh mj = []) (hna : xs.length + 2 = gm_na mj) (hlen : xs.length + 2 ≤ gm_ml mj) (hst : (st.map gm_cat).sum ≤ 8) (s0 : ∀ S ∈ l0, ck_Ok p2_O X LX mj S) (s1 : ∀ S ∈ l1, ck_Ok p2_OL X LX mj S) (c0 : l0.all (bc_chk p2_O 0 0 1 true true md 1 1 226 8) = true) (c1 : l1.all (bc_chk p2_OL 246 1 1 true true md 1 1 226 8) = true) (v0 : bc_cov 60 ds (l0.map bc_box) = true) (v1 : bc_cov 60 ds (l1.map bc_box) = true) (hx : bc_in ds xs) (hi : ∀ x ∈ xs, gm_ir x) (hbc : 6 ≤ bc) (hbs : 600 ≤ bs) (k : mn_K X LX bc bs (pc + 3) L st Q g md 1 1 226 8 true M) : gm_Wp X LX 280 bc bs 370 pc L (gm_vr 245 :: ((xs.map gm_vi).reverse ++ gm_vr 1 :: st)) (245 + 4 * g) K R M Q := by
  by_cases h3 : la 3 = 0
  · obtain ⟨S, hS, hin⟩ := mn_in v0 hx
    have hck := List.all_eq_true.mp c0 S hS
    have hk2 := mn_bcK (la := la) (K := K) hck (by decide) (by decide) hbc hbs k
    simp only [bc_chk, Bool.and_eq_true, decide_eq_true_eq] at hck
    exact bc_stat (O := p2_O) (z := 0) (g1 := 0) hb (Or.inl ⟨rfl, rfl, h3⟩) hg p2_nmu (fun _ _ _ _ h => h) (bs_F0 hb) h hc hmx hhj hna hlen hst (s0 S hS) hck.1 (by omega) (by omega) (by omega) (fun σ => bc_gas2 hck.2.1 hin hi) hk2
  · obtain ⟨S, hS, hin⟩ := mn_in v1 hx
    have hck := List.all_eq_true.mp c1 S hS
    have hk2 := mn_bcK (la := la) (K := K) hck (by decide) (by decide) hbc hbs k
    simp only [bc_chk, Bool.and_eq_true, decide_eq_true_eq] at hck
    exact bc_stat (O := p2_OL) (z := 246) (g1 := 1) hb (Or.inr (Or.inr ⟨rfl, rfl, h3⟩)) hg pl_nmu (fun _ _ _ _ h => pl_o h) (bs_F1 hb h3) h hc hmx hhj hna hlen hst (s1 S hS) hck.1 (by omega) (by omega) (by omega) (fun σ => bc_gas2 hck.2.1 hin hi) hk2
theorem mn_k1 (hb : bg g la K R M) : (K 1).1 = 0 + 4 ∧ (K 226).1 = 11 + 4 := ⟨(lq_kd (c := 0) hb.2.1 lq_or.1.1).2, (md_mo hb.2.1).2⟩
/-- a call on the class itself -/
theorem mn_d (hb : bg g la K R M) (hg : g < 10000) (h : gm_at 370 pc = some (.invokevirtual ix)) (hc : gm_cal (gm_ow 370) ix = some (0, mj)) (hmx : gm_ow mj ≠ gm_mxi) (hcn : gm_cn 0 = (gm_mn mj).cls) (hna : xs.length = gm_na mj) (hlen : xs.length + 1 ≤ gm_ml mj) (hst : (st.map gm_cat).sum ≤ 8) (s0 : ∀ S ∈ l0, ck_Ok p2_O X LX mj S) (s1 : ∀ S ∈ l1, ck_Ok p2_OL X LX mj S) (c0 : l0.all (bc_chk p2_O 0 0 1 false r md 1 1 226 8) = true) (c1 : l1.all (bc_chk p2_OL 246 1 1 false r md 1 1 226 8) = true) (v0 : bc_cov 60 ds (l0.map bc_box) = true) (v1 : bc_cov 60 ds (l1.map bc_box) = true) (hx : bc_in ds xs) (hi : ∀ x ∈ xs, gm_ir x) (hbc : 6 ≤ bc) (hbs : 600 ≤ bs) (k : mn_K X LX bc bs (pc + 3) L st Q g md 1 1 226 8 r M) : gm_Wp X LX 280 bc bs 370 pc L ((xs.map gm_vi).reverse ++ gm_vr 1 :: st) (245 + 4 * g) K R M Q := by
  have ea : ∀ {S : ck_Sum}, bc_args S 1 false = true → bc_in (bc_box S) xs → ∀ σ, ck_gas σ S.2.2.1 (gm_vr 1 :: xs.map gm_vi) := fun ha hin σ => by
    have := bc_gas2 (σ := σ) ha hin hi
    rwa [show bc_as xs false = xs.map gm_vi by simp [bc_as]] at this
  by_cases h3 : la 3 = 0
  · obtain ⟨S, hS, hin⟩ := mn_in v0 hx
    have hck := List.all_eq_true.mp c0 S hS
    have hk2 := mn_bcK (la := la) (K := K) hck (by decide) (by decide) hbc hbs k
    simp only [bc_chk, Bool.and_eq_true, decide_eq_true_eq] at hck
    exact bc_virt (O := p2_O) (z := 0) (g1 := 0) (k1 := 1) (ci := 0) hb (Or.inl ⟨rfl, rfl, h3⟩) hg p2_nmu (fun _ _ _ _ h => h) (bs_F0 hb) ⟨by decide, by decide⟩ (mn_k1 hb).1 h hc hmx (by decide) hcn hna hlen hst (s0 S hS) hck.1 (by omega) (by omega) (by omega) (ea hck.2.1 hin) hk2
  · obtain ⟨S, hS, hin⟩ := mn_in v1 hx
    have hck := List.all_eq_true.mp c1 S hS
    have hk2 := mn_bcK (la := la) (K := K) hck (by decide) (by decide) hbc hbs k
    simp only [bc_chk, Bool.and_eq_true, decide_eq_true_eq] at hck
    exact bc_virt (O := p2_OL) (z := 246) (g1 := 1) (k1 := 1) (ci := 0) hb (Or.inr (Or.inr ⟨rfl, rfl, h3⟩)) hg pl_nmu (fun _ _ _ _ h => pl_o h) (bs_F1 hb h3) ⟨by decide, by decide⟩ (mn_k1 hb).1 h hc hmx (by decide) hcn hna hlen hst (s1 S hS) hck.1 (by omega) (by omega) (by omega) (ea hck.2.1 hin) hk2
/-- a call on the reference -/
theorem mn_m (hb : bg g la K R M) (hg : g < 10000) (h : gm_at 370 pc = some (.invokevirtual ix)) (hc : gm_cal (gm_ow 370) ix = some (0, mj)) (hmx : gm_ow mj ≠ gm_mxi) (hcn : gm_cn 11 = (gm_mn mj).cls) (hna : xs.length = gm_na mj) (hlen : xs.length + 1 ≤ gm_ml mj) (hst : (st.map gm_cat).sum ≤ 8) (s0 : ∀ S ∈ l, ck_Ok p2_O X LX mj S) (c0 : l.all (bc_chk p2_O 100003 0 226 false r md 226 8 1 1) = true) (v0 : bc_cov 60 ds (l.map bc_box) = true) (hx : bc_in ds xs) (hi : ∀ x ∈ xs, gm_ir x) (hbc : 6 ≤ bc) (hbs : 600 ≤ bs) (k : mn_K X LX bc bs (pc + 3) L st Q g md 226 8 1 1 r M) : gm_Wp X LX 280 bc bs 370 pc L ((xs.map gm_vi).reverse ++ gm_vr 226 :: st) (245 + 4 * g) K R M Q := by
  obtain ⟨S, hS, hin⟩ := mn_in v0 hx
  have hck := List.all_eq_true.mp c0 S hS
  have hk2 := mn_bcK (la := la) (K := K) hck (by decide) (by decide) hbc hbs k
  simp only [bc_chk, Bool.and_eq_true, decide_eq_true_eq] at hck
  have ea : ∀ σ, ck_gas σ S.2.2.1 (gm_vr 226 :: xs.map gm_vi) := fun σ => by
    have := bc_gas2 (σ := σ) hck.2.1 hin hi
    rwa [show bc_as xs false = xs.map gm_vi by simp [bc_as]] at this
  exact bc_virt (O := p2_O) (z := 100003) (g1 := 0) (k1 := 226) (ci := 11) hb (Or.inr (Or.inl ⟨rfl, rfl⟩)) hg p2_nmu (fun _ _ _ _ h => h) (bs_F0 hb) ⟨by decide, by decide⟩ (mn_k1 hb).2 h hc hmx (by decide) hcn hna hlen hst (s0 S hS) hck.1 (by omega) (by omega) (by omega) ea hk2
end MC
theorem bc_in0 : bc_in [] [] := trivial
theorem bc_in1 {b : Int × Int} {bs : List (Int × Int)} {x : Int} {xs : List Int} (h : b.1 ≤ x ∧ x ≤ b.2) (h2 : bc_in bs xs) : bc_in (b :: bs) (x :: xs) := ⟨h, h2⟩
theorem mn_w {x : Int} (h : gm_ir x) : -2147483648 ≤ x ∧ x ≤ 2147483647 := ⟨h.1, by have := h.2; omega⟩
/-- both TAPES hold the same -/
def rl (M : gm_M) : Prop := M 1 1 = M 226 8 ∧ ∀ j, 0 ≤ j → j < 400 → M 2 j = M 231 j
/-- what comes behind a case -/
def mn_R (X : Int → Int) (LX bc bs : Nat) (i : Int) (g : Nat) (Q : gm_Q) : Prop := ∀ (g' : Nat) (la' : Nat → Nat) (K2 : gm_K) (R2 : gm_R) (M2 : gm_M) (L2 : gm_L), bg g' la' K2 R2 M2 → g' ≤ g + 2 → rl M2 → mn_L i L2 → gm_Wp X LX 280 (bc - 12) (bs - 1200) 370 1993 L2 [] (245 + 4 * g') K2 R2 M2 Q
