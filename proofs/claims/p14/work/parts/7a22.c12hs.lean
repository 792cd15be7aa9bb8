/-! THE CLASS: its History as a list, the newest first; what a call refuses (laid by wip/core/c12.py). -/
theorem pl_le {i : Int} (hi : 0 ≤ i ∧ i < 395 ∧ ¬ i = 8) : (pl i).1 ≤ 12 := by
  rcases pl_cases hi with rfl | rfl | rfl | rfl | rfl | rfl | rfl | rfl | rfl | rfl | rfl | rfl | rfl | rfl | h | h | h | h | h | h
  · decide
  · decide
  · decide
  · decide
  · decide
  · decide
  · decide
  · decide
  · decide
  · decide
  · decide
  · decide
  · decide
  · decide
  · rw [pl_2 h]; exact (by decide : (2 : Nat) ≤ 12)
  · rw [pl_4 h]; exact (by decide : (4 : Nat) ≤ 12)
  · rw [pl_6 h]; exact (by decide : (6 : Nat) ≤ 12)
  · rw [pl_8 h]; exact (by decide : (8 : Nat) ≤ 12)
  · rw [pl_10 h]; exact (by decide : (10 : Nat) ≤ 12)
  · rw [pl_12 h]; exact (by decide : (12 : Nat) ≤ 12)
theorem cs_same {M M2 : gm_M} {b : Nat} (h : ∀ (x : Nat) (j : Int), b ≤ x → x ≤ b + 12 → M2 x j = M x j) : cs M2 b = cs M b := cs_ext fun i hi => h _ _ (Nat.le_add_right _ _) (Nat.add_le_add_left (pl_le hi) _)
theorem cst_cpe : (List.range 12).all (fun p => cstL.all fun q => decide (q.1 < 44 + 13 * p ∨ 44 + 13 * p + 12 < q.1 ∨ ((q.1 = 44 + 13 * p + 1 ∨ q.1 = 44 + 13 * p + 3 ∨ q.1 = 44 + 13 * p + 5 ∨ q.1 = 44 + 13 * p + 7 ∨ q.1 = 44 + 13 * p + 9 ∨ q.1 = 44 + 13 * p + 11) ∧ 0 ≤ q.2.1 ∧ q.2.1 < 3))) = true := by decide +kernel
theorem cst_cpf : [3, 16, 29].all (fun p => cstL.all fun q => decide (q.1 < p ∨ p + 12 < q.1 ∨ ((q.1 = p + 1 ∨ q.1 = p + 3 ∨ q.1 = p + 5 ∨ q.1 = p + 7 ∨ q.1 = p + 9 ∨ q.1 = p + 11) ∧ 0 ≤ q.2.1 ∧ q.2.1 < 3))) = true := by decide +kernel
theorem cst_cpy0 {M M2 : gm_M} {b s : Nat} (h : cstL.all (fun q => decide (q.1 < b ∨ b + 12 < q.1 ∨ ((q.1 = b + 1 ∨ q.1 = b + 3 ∨ q.1 = b + 5 ∨ q.1 = b + 7 ∨ q.1 = b + 9 ∨ q.1 = b + 11) ∧ 0 ≤ q.2.1 ∧ q.2.1 < 3))) = true) (hC : CST M) (hc : CPY M M2 b s) : CST M2 := by
  intro q hq
  rw [← hC q hq]
  rcases of_decide_eq_true (List.all_eq_true.mp h q hq) with h1 | h1 | ⟨h1, h2, h3⟩
  · exact hc.1 _ _ (Or.inl h1)
  · exact hc.1 _ _ (Or.inr h1)
  · exact hc.2.1 _ _ h2 h3 (by omega)
theorem cst_cpy {M M2 : gm_M} {p s : Nat} (hp : p < 12) (hC : CST M) (hc : CPY M M2 (44 + 13 * p) s) : CST M2 := cst_cpy0 (List.all_eq_true.mp cst_cpe p (List.mem_range.mpr hp)) hC hc
/-- what is remembered, the newest first -/
def HIS (A : List (Int → Int)) (M : gm_M) : Prop := ∃ nx : Int, (0 ≤ nx ∧ nx < 12) ∧ M 42 1 = nx ∧ M 42 2 = (A.length : Int) ∧ A.length ≤ 12 ∧ ∀ (i : Nat) (N1 : Int → Int), A[i]? = some N1 → cs M (44 + 13 * ((nx + 11 - (i : Int)) % 12).toNat) = N1
theorem his_fr {A : List (Int → Int)} {M M2 : gm_M} (h : HIS A M) (e : ∀ (x : Nat) (j : Int), 42 ≤ x → x ≤ 199 → M2 x j = M x j) : HIS A M2 := by
  obtain ⟨nx, h0, h1, h2, h3, h4⟩ := h
  refine ⟨nx, h0, by rw [e 42 1 (by decide) (by decide)]; exact h1, by rw [e 42 2 (by decide) (by decide)]; exact h2, h3, fun i N1 hi => ?_⟩
  rw [← h4 i N1 hi]
  exact cs_same fun x j x1 x2 => e x j (by omega) (by omega)
theorem his_b {A : List (Int → Int)} {M : gm_M} (h : HIS A M) : A.length ≤ 12 ∧ M 42 2 = (A.length : Int) := by
  obtain ⟨nx, h0, h1, h2, h3, h4⟩ := h
  exact ⟨h3, h2⟩
section HS12
variable {X : Int → Int} {LX d bc bs n : Nat} {K : gm_K} {R : gm_R} {M : gm_M} {Q : gm_Q} {N h : Int → Int} {sp : Int → Int → Int} {A : List (Int → Int)} {i sz x y : Int}
theorem ti_far {M2 : gm_M} (hT : TI N h sp M) (hC : CST M2) (e : ∀ (x : Nat) (j : Int), x < 42 ∨ 199 < x → M2 x j = M x j) : TI N h sp M2 := by
  refine ⟨hC, ?_, fun y y1 y2 => ?_, fun l r l1 l2 r1 r2 => ?_⟩
  · rw [← hT.2.1]
    exact cs_same fun x j x1 x2 => e x j (by omega)
  · rw [e 201 y (by decide), e 203 y (by decide)]
    exact hT.2.2.1 y y1 y2
  · rw [e 202 _ (by decide)]
    exact hT.2.2.2 l r l1 l2 r1 r2
theorem rem_c154 (hd : 5 ≤ d) (hE : E0 n K R) (hT : TI N h sp M) (hN : NR N) (hH : HIS A M) (hq : ∀ (p : Nat) (M2 : gm_M), p < 12 → (M 42 1 = (p : Int) ∧ M2 42 1 = ((p : Int) + 1) % 12) → HIS ((N :: A).take 12) M2 → TI N h sp M2 → (∀ (x : Nat) (j : Int), x < 42 ∨ 199 < x → M2 x j = M x j) → Q (.inl none) n K (gm_uR R (44 + 13 * p) 8 (R 3 8)) M2) : gm_Wp X LX d bc bs 154 0 (gm_ent 154 [gm_vr 42, gm_vr 3]) [] n K R M Q := by
  obtain ⟨nx, h0, h1, h2, h3, h4⟩ := hH
  have hp : nx.toNat < 12 := by omega
  refine hi_rem hd hE hT.1 h0 h1 h2 ⟨by omega, by omega⟩ (sz_cs hN hT.2.1) (fun M9 hc => ?_)
  have far : ∀ (x : Nat) (j : Int), x < 42 ∨ 199 < x → gm_uM (gm_uM M9 42 1 ((nx + 1) % 12)) 42 2 (min ((A.length : Int) + 1) 12) x j = M x j := fun x j hx => (uM_ne (by omega)).trans ((uM_ne (by omega)).trans (hc.1 x j (by omega)))
  have c9 : CST M9 := cst_cpy hp hT.1 hc
  have cM : CST (gm_uM (gm_uM M9 42 1 ((nx + 1) % 12)) 42 2 (min ((A.length : Int) + 1) 12)) := cst_fr (W := [(42, some 1), (42, some 2)]) c9 (fr_p (fr_p fr_0 (Or.inr (by decide))) (Or.inr (by decide))) (by decide +kernel)
  refine hq nx.toNat _ hp ⟨by omega, (uM_ne (by decide)).trans (uM_at.trans (by omega))⟩ ⟨(nx + 1) % 12, ⟨by omega, by omega⟩, (uM_ne (by decide)).trans uM_at, uM_at.trans ?_, ?_, fun i N1 hi => ?_⟩ (ti_far hT cM far) far
  · rw [List.length_take, List.length_cons]
    omega
  · rw [List.length_take, List.length_cons]
    omega
  · have el : ∀ b : Nat, 43 ≤ b → cs (gm_uM (gm_uM M9 42 1 ((nx + 1) % 12)) 42 2 (min ((A.length : Int) + 1) 12)) b = cs M9 b := fun b hb => (cs_el (Or.inl (by omega))).trans (cs_el (Or.inl (by omega)))
    rw [el _ (by omega)]
    cases i with
    | zero =>
      have e : N = N1 := by simpa using hi
      subst e
      rw [show (((nx + 1) % 12 + 11 - ((0 : Nat) : Int)) % 12).toNat = nx.toNat by omega]
      exact hc.2.2.trans hT.2.1
    | succ i =>
      rw [List.getElem?_take] at hi
      split at hi
      · rename_i hi2
        have hi : A[i]? = some N1 := by simpa using hi
        rw [show (((nx + 1) % 12 + 11 - ((i + 1 : Nat) : Int)) % 12).toNat = ((nx + 11 - (i : Int)) % 12).toNat by omega]
        rw [← h4 i N1 hi]
        have hne : ¬ ((nx + 11 - (i : Int)) % 12).toNat = nx.toNat := by omega
        exact cs_same fun x j x1 x2 => hc.1 x j (by omega)
      · cases hi
theorem tb_c55 (hd : 5 ≤ d) (hE : E0 n K R) (hT : TI N h sp M) (hH : HIS A M) (hA : ∀ N1 ∈ A, NR N1) (hq0 : A = [] → Q (.inl (some (gm_vi 0))) n K R M) (hq1 : ∀ (N0 : Int → Int) (A1 : List (Int → Int)) (p : Nat) (M2 : gm_M), A = N0 :: A1 → p < 12 → (M2 42 1 = (p : Int) ∧ M 42 1 = ((p : Int) + 1) % 12) → HIS A1 M2 → CST M2 → cs M2 3 = N0 → (∀ (x : Nat) (j : Int), x < 3 ∨ (15 < x ∧ ¬ x = 42) → M2 x j = M x j) → Q (.inl (some (gm_vi 1))) n K (gm_uR R 3 8 (R (44 + 13 * p) 8)) M2) : gm_Wp X LX d bc bs 55 0 (gm_ent 55 [gm_vr 42, gm_vr 3]) [] n K R M Q := by
  obtain ⟨nx, h0, h1, h2, h3, h4⟩ := hH
  cases A with
  | nil => exact hi_tb0 hE h2 (hq0 rfl)
  | cons N0 A1 =>
    rw [List.length_cons] at h2 h3
    have e0 := h4 0 N0 rfl
    have hz : SZ M (44 + 13 * (((nx + 12) - 1) % 12).toNat) := sz_cs (hA N0 List.mem_cons_self) (by rw [← e0]; congr 3; omega)
    refine hi_tb hd hE hT.1 h0 h1 h2 ⟨by omega, by omega⟩ (by omega) (mx_3 hT.1) hz (fun M9 hc => ?_)
    have hp : (((nx + 12) - 1) % 12).toNat < 12 := by omega
    have cM : CST (gm_uM (gm_uM M 42 1 (((nx + 12) - 1) % 12)) 42 2 (((A1.length + 1 : Nat) : Int) - 1)) := cst_fr (W := [(42, some 1), (42, some 2)]) hT.1 (fr_p (fr_p fr_0 (Or.inr (by decide))) (Or.inr (by decide))) (by decide +kernel)
    have ho : ∀ (x : Nat) (j : Int), x < 3 ∨ 15 < x → M9 x j = gm_uM (gm_uM M 42 1 (((nx + 12) - 1) % 12)) 42 2 (((A1.length + 1 : Nat) : Int) - 1) x j := fun x j hx => hc.1 x j (by omega)
    refine hq1 N0 A1 _ M9 rfl hp ⟨(ho 42 1 (by decide)).trans ((uM_ne (by decide)).trans (uM_at.trans (by omega))), h1.trans (by omega)⟩ ⟨((nx + 12) - 1) % 12, ⟨by omega, by omega⟩, (ho 42 1 (by decide)).trans ((uM_ne (by decide)).trans uM_at), (ho 42 2 (by decide)).trans (uM_at.trans (by omega)), by omega, fun i N1 hi => ?_⟩ (cst_cpy0 (List.all_eq_true.mp cst_cpf 3 (by decide)) cM hc) ?_ (fun x j hx => ?_)
    · have := h4 (i + 1) N1 (by simpa using hi)
      rw [← this]
      rw [show ((((nx + 12) - 1) % 12 + 11 - (i : Int)) % 12).toNat = ((nx + 11 - ((i + 1 : Nat) : Int)) % 12).toNat by omega]
      refine cs_same fun x j x1 x2 => (ho x j (by omega)).trans ((uM_ne (by omega)).trans (uM_ne (by omega)))
    · rw [hc.2.2, ← e0]
      rw [show ((nx + 11 - ((0 : Nat) : Int)) % 12).toNat = (((nx + 12) - 1) % 12).toNat by omega]
      exact (cs_el (Or.inl (by omega))).trans (cs_el (Or.inl (by omega)))
    · exact (ho x j (by omega)).trans ((uM_ne (by omega)).trans (uM_ne (by omega)))
theorem im_t59 (hd : 5 ≤ d) (hE : E0 n K R) (hT : TI N h sp M) (hN : NR N) (hq : ∀ M2 : gm_M, TI N h sp M2 → cs M2 29 = N → M2 1 6 = 1 → (∀ (x : Nat) (j : Int), ¬ (x = 1 ∧ j = 6) → x < 29 ∨ 41 < x → M2 x j = M x j) → Q (.inl none) n K (gm_uR R 29 8 (R 3 8)) M2) : gm_Wp X LX d bc bs 59 0 (gm_ent 59 [gm_vr 1]) [] n K R M Q := by
  refine im_c59 hd hE hT.1 (sz_cs hN hT.2.1) (fun M9 hc => ?_)
  have c9 : CST M9 := cst_cpy0 (List.all_eq_true.mp cst_cpf 29 (by decide)) hT.1 hc
  have cM : CST (gm_uM M9 1 6 1) := cst_fr (W := [(1, some 6)]) c9 (fr_p fr_0 (Or.inr (by decide))) (by decide +kernel)
  have far : ∀ (x : Nat) (j : Int), ¬ (x = 1 ∧ j = 6) → x < 29 ∨ 41 < x → gm_uM M9 1 6 1 x j = M x j := fun x j h1 hx => (uM_ne (by omega)).trans (hc.1 x j (by omega))
  refine hq _ ⟨cM, ?_, fun y y1 y2 => ?_, fun l r l1 l2 r1 r2 => ?_⟩ ((cs_el (Or.inl (by decide))).trans (hc.2.2.trans hT.2.1)) uM_at far
  · rw [← hT.2.1]
    exact cs_same fun x j x1 x2 => far x j (by omega) (by omega)
  · rw [far 201 y (by omega) (by decide), far 203 y (by omega) (by decide)]
    exact hT.2.2.1 y y1 y2
  · rw [far 202 _ (by omega) (by decide)]
    exact hT.2.2.2 l r l1 l2 r1 r2
theorem nd_133 (hd : 6 ≤ d) (hb1 : 1 ≤ bc) (hb2 : 6 ≤ bs) (hi : gm_ir i) (hs : gm_ir sz) (k1 : 0 ≤ i ∧ i < sz → Q (.inl none) n K R M) (k0 : ¬ (0 ≤ i ∧ i < sz) → Q (.inr 3) n K R M) : gm_Wp X LX d bc bs 133 0 (gm_ent 133 [gm_vr 1, gm_vi i, gm_vi sz]) [] n K R M Q := by
  refine gm_sz (gm_p_load (pc := 0) (i := .iload_n 1) (sr := 0) (j := 1) (by decide +kernel) rfl rfl rfl) ?_
  refine fw_if (cc := .lt) (pc := 1) (off := 8) (by decide +kernel) (by decide) hi (fun h1 => ?_) (fun h1 => ?_)
  · have h1 : i < 0 := h1
    exact gm_throw (ik := 453) (is := 455) (ic := 457) (x := 3) (id := 33) (lw := true) (by decide +kernel) (by decide +kernel) (by decide +kernel) (by decide +kernel) (by decide +kernel) (by decide +kernel) (by decide +kernel) (by decide +kernel) (Nat.le_of_ble_eq_true rfl) (by omega) (by omega) (by omega) (k0 (by first | assumption | omega))
  · have h1 : ¬ i < 0 := h1
    refine gm_sz (gm_p_load (pc := 4) (i := .iload_n 1) (sr := 0) (j := 1) (by decide +kernel) rfl rfl rfl) ?_
    refine gm_sz (gm_p_load (pc := 5) (i := .iload_n 2) (sr := 0) (j := 2) (by decide +kernel) rfl rfl rfl) ?_
    refine fw_ic (cc := .lt) (pc := 6) (off := 14) (by decide +kernel) (by decide) hi hs (fun h6 => ?_) (fun h6 => ?_)
    · have h6 : i < sz := h6
      exact gm_r_void (pc := 20) (by decide +kernel) (by decide +kernel) (k1 (by first | assumption | omega))
    · have h6 : ¬ i < sz := h6
      exact gm_throw (ik := 453) (is := 455) (ic := 457) (x := 3) (id := 33) (lw := true) (by decide +kernel) (by decide +kernel) (by decide +kernel) (by decide +kernel) (by decide +kernel) (by decide +kernel) (by decide +kernel) (by decide +kernel) (Nat.le_of_ble_eq_true rfl) (by omega) (by omega) (by omega) (k0 (by first | assumption | omega))
theorem nd_132 (hd : 8 ≤ d) (hb1 : 1 ≤ bc) (hb2 : 6 ≤ bs) (hE : E0 n K R) (hT : TI N h sp M) (hN : NR N) (hi : gm_ir i) (k1 : 0 ≤ i ∧ i < N 0 → Q (.inl none) n K R M) (k0 : ¬ (0 ≤ i ∧ i < N 0) → Q (.inr 3) n K R M) : gm_Wp X LX d bc bs 132 0 (gm_ent 132 [gm_vr 1, gm_vi i]) [] n K R M Q := by
  obtain ⟨⟨⟨a0, b0⟩, ⟨a1, b1⟩, ⟨a10, b10⟩, ⟨a11, b11⟩, ⟨a12, b12⟩, a9, b9⟩, ⟨⟨a2, b2⟩, ⟨a5, b5⟩, ⟨a3, b3⟩, ⟨a4, b4⟩, ⟨a6, b6⟩, ⟨a14, b14⟩, ⟨a7, b7⟩, a13, b13⟩, rF, rP, rL⟩ := id hN
  refine gm_sz (gm_p_load (pc := 0) (i := .aload_n 0) (sr := 2) (j := 0) (by decide +kernel) rfl rfl rfl) ?_
  refine gm_sz (gm_p_load (pc := 1) (i := .iload_n 1) (sr := 0) (j := 1) (by decide +kernel) rfl rfl rfl) ?_
  refine gm_sz (gm_p_load (pc := 2) (i := .aload_n 0) (sr := 2) (j := 0) (by decide +kernel) rfl rfl rfl) ?_
  refine gm_sz (fw_gr (pc := 3) (ix := 23) (ci := 0) (j := 3) (r := 3) (by decide +kernel) (e0k hE (k := 1) (c := 0) (by decide +kernel)) (by decide +kernel) (by decide +kernel) (e0r hE (k := 1) (j := 3) (r := 3) (by decide +kernel))) ?_
  refine gm_sz (fw_gi (pc := 6) (ix := 351) (ci := 1) (j := 0) (x := N 0) (by decide +kernel) (e0k hE (k := 3) (c := 1) (by decide +kernel)) (by decide +kernel) (by decide +kernel) (ti_lan hT)) ?_
  refine gm_c_virt (k := 1) (ci := 0) (mj := 133) (ix := 306) (pc := 9) (as := [gm_vi i, gm_vi (N 0)]) (st := []) (d' := d - 1) (bc' := 1) (bs' := 6) (by decide +kernel) (by decide +kernel) (by decide +kernel) (by decide +kernel) (e0k hE (k := 1) (c := 0) (by decide +kernel)).1 (e0k hE (k := 1) (c := 0) (by decide +kernel)).2 (by decide) (by decide +kernel) (show 2 = gm_na 133 by decide +kernel) (fw_c2 fw_si fw_si) (show 3 ≤ gm_ml 133 by decide +kernel) (Nat.le_of_ble_eq_true rfl) (by omega) (by omega) (by omega) ?_
  refine nd_133 (i := i) (sz := (N 0)) (by omega) (by decide) (by decide) hi ⟨by omega, by omega⟩ (fun c9 => ?_) (fun c9 => ?_)
  · show gm_Wp X LX d _ _ 132 12 _ [] n K _ _ Q
    exact gm_r_void (pc := 12) (by decide +kernel) (by decide +kernel) (k1 (by first | assumption | omega))
  · show Q (.inr 3) n K _ _
    exact (k0 (by first | assumption | omega))
theorem nd_134 (hd : 8 ≤ d) (hb1 : 1 ≤ bc) (hb2 : 6 ≤ bs) (hE : E0 n K R) (hT : TI N h sp M) (hN : NR N) (hi : gm_ir i) (k1 : 0 ≤ i ∧ i < N 1 → Q (.inl none) n K R M) (k0 : ¬ (0 ≤ i ∧ i < N 1) → Q (.inr 3) n K R M) : gm_Wp X LX d bc bs 134 0 (gm_ent 134 [gm_vr 1, gm_vi i]) [] n K R M Q := by
  obtain ⟨⟨⟨a0, b0⟩, ⟨a1, b1⟩, ⟨a10, b10⟩, ⟨a11, b11⟩, ⟨a12, b12⟩, a9, b9⟩, ⟨⟨a2, b2⟩, ⟨a5, b5⟩, ⟨a3, b3⟩, ⟨a4, b4⟩, ⟨a6, b6⟩, ⟨a14, b14⟩, ⟨a7, b7⟩, a13, b13⟩, rF, rP, rL⟩ := id hN
  refine gm_sz (gm_p_load (pc := 0) (i := .aload_n 0) (sr := 2) (j := 0) (by decide +kernel) rfl rfl rfl) ?_
  refine gm_sz (gm_p_load (pc := 1) (i := .iload_n 1) (sr := 0) (j := 1) (by decide +kernel) rfl rfl rfl) ?_
  refine gm_sz (gm_p_load (pc := 2) (i := .aload_n 0) (sr := 2) (j := 0) (by decide +kernel) rfl rfl rfl) ?_
  refine gm_sz (fw_gr (pc := 3) (ix := 23) (ci := 0) (j := 3) (r := 3) (by decide +kernel) (e0k hE (k := 1) (c := 0) (by decide +kernel)) (by decide +kernel) (by decide +kernel) (e0r hE (k := 1) (j := 3) (r := 3) (by decide +kernel))) ?_
  refine gm_sz (fw_gi (pc := 6) (ix := 226) (ci := 1) (j := 1) (x := N 1) (by decide +kernel) (e0k hE (k := 3) (c := 1) (by decide +kernel)) (by decide +kernel) (by decide +kernel) (ti_las hT)) ?_
  refine gm_c_virt (k := 1) (ci := 0) (mj := 133) (ix := 306) (pc := 9) (as := [gm_vi i, gm_vi (N 1)]) (st := []) (d' := d - 1) (bc' := 1) (bs' := 6) (by decide +kernel) (by decide +kernel) (by decide +kernel) (by decide +kernel) (e0k hE (k := 1) (c := 0) (by decide +kernel)).1 (e0k hE (k := 1) (c := 0) (by decide +kernel)).2 (by decide) (by decide +kernel) (show 2 = gm_na 133 by decide +kernel) (fw_c2 fw_si fw_si) (show 3 ≤ gm_ml 133 by decide +kernel) (Nat.le_of_ble_eq_true rfl) (by omega) (by omega) (by omega) ?_
  refine nd_133 (i := i) (sz := (N 1)) (by omega) (by decide) (by decide) hi ⟨by omega, by omega⟩ (fun c9 => ?_) (fun c9 => ?_)
  · show gm_Wp X LX d _ _ 134 12 _ [] n K _ _ Q
    exact gm_r_void (pc := 12) (by decide +kernel) (by decide +kernel) (k1 (by first | assumption | omega))
  · show Q (.inr 3) n K _ _
    exact (k0 (by first | assumption | omega))
theorem nd_139 (hd : 8 ≤ d) (hb1 : 1 ≤ bc) (hb2 : 6 ≤ bs) (hE : E0 n K R) (hT : TI N h sp M) (hN : NR N) (hi : gm_ir i) (k1 : 0 ≤ i ∧ i < N 3 → Q (.inl none) n K R M) (k0 : ¬ (0 ≤ i ∧ i < N 3) → Q (.inr 3) n K R M) : gm_Wp X LX d bc bs 139 0 (gm_ent 139 [gm_vr 1, gm_vi i]) [] n K R M Q := by
  obtain ⟨⟨⟨a0, b0⟩, ⟨a1, b1⟩, ⟨a10, b10⟩, ⟨a11, b11⟩, ⟨a12, b12⟩, a9, b9⟩, ⟨⟨a2, b2⟩, ⟨a5, b5⟩, ⟨a3, b3⟩, ⟨a4, b4⟩, ⟨a6, b6⟩, ⟨a14, b14⟩, ⟨a7, b7⟩, a13, b13⟩, rF, rP, rL⟩ := id hN
  refine gm_sz (gm_p_load (pc := 0) (i := .aload_n 0) (sr := 2) (j := 0) (by decide +kernel) rfl rfl rfl) ?_
  refine gm_sz (gm_p_load (pc := 1) (i := .iload_n 1) (sr := 0) (j := 1) (by decide +kernel) rfl rfl rfl) ?_
  refine gm_sz (gm_p_load (pc := 2) (i := .aload_n 0) (sr := 2) (j := 0) (by decide +kernel) rfl rfl rfl) ?_
  refine gm_sz (fw_gr (pc := 3) (ix := 23) (ci := 0) (j := 3) (r := 3) (by decide +kernel) (e0k hE (k := 1) (c := 0) (by decide +kernel)) (by decide +kernel) (by decide +kernel) (e0r hE (k := 1) (j := 3) (r := 3) (by decide +kernel))) ?_
  refine gm_sz (fw_gr (pc := 6) (ix := 183) (ci := 1) (j := 11) (r := 8) (by decide +kernel) (e0k hE (k := 3) (c := 1) (by decide +kernel)) (by decide +kernel) (by decide +kernel) (e0r hE (k := 3) (j := 11) (r := 8) (by decide +kernel))) ?_
  refine gm_c_virt (k := 8) (ci := 2) (mj := 9) (ix := 277) (pc := 9) (as := []) (st := [gm_vi i, gm_vr 1]) (d' := d - 1) (bc' := 0) (bs' := 0) (by decide +kernel) (by decide +kernel) (by decide +kernel) (by decide +kernel) (e0k hE (k := 8) (c := 2) (by decide +kernel)).1 (e0k hE (k := 8) (c := 2) (by decide +kernel)).2 (by decide) (by decide +kernel) (show 0 = gm_na 9 by decide +kernel) fw_c0 (show 1 ≤ gm_ml 9 by decide +kernel) (Nat.le_of_ble_eq_true rfl) (by omega) (Nat.zero_le _) (Nat.zero_le _) ?_
  refine rw_size (s := N 3) (e0k hE (k := 8) (c := 2) (by decide +kernel)) (ti_peo hT) ?_
  show gm_Wp X LX d _ _ 139 12 _ [gm_vi (N 3), gm_vi i, gm_vr 1] n K _ _ Q
  refine gm_c_virt (k := 1) (ci := 0) (mj := 133) (ix := 306) (pc := 12) (as := [gm_vi i, gm_vi (N 3)]) (st := []) (d' := d - 1) (bc' := 1) (bs' := 6) (by decide +kernel) (by decide +kernel) (by decide +kernel) (by decide +kernel) (e0k hE (k := 1) (c := 0) (by decide +kernel)).1 (e0k hE (k := 1) (c := 0) (by decide +kernel)).2 (by decide) (by decide +kernel) (show 2 = gm_na 133 by decide +kernel) (fw_c2 fw_si fw_si) (show 3 ≤ gm_ml 133 by decide +kernel) (Nat.le_of_ble_eq_true rfl) (by omega) (by omega) (by omega) ?_
  refine nd_133 (i := i) (sz := (N 3)) (by omega) (by decide) (by decide) hi ⟨by omega, by omega⟩ (fun c12 => ?_) (fun c12 => ?_)
  · show gm_Wp X LX d _ _ 139 15 _ [] n K _ _ Q
    exact gm_r_void (pc := 15) (by decide +kernel) (by decide +kernel) (k1 (by first | assumption | omega))
  · show Q (.inr 3) n K _ _
    exact (k0 (by first | assumption | omega))
theorem nd_143 (hd : 8 ≤ d) (hb1 : 1 ≤ bc) (hb2 : 6 ≤ bs) (hE : E0 n K R) (hT : TI N h sp M) (hN : NR N) (hi : gm_ir i) (k1 : 0 ≤ i ∧ i < N 4 → Q (.inl none) n K R M) (k0 : ¬ (0 ≤ i ∧ i < N 4) → Q (.inr 3) n K R M) : gm_Wp X LX d bc bs 143 0 (gm_ent 143 [gm_vr 1, gm_vi i]) [] n K R M Q := by
  obtain ⟨⟨⟨a0, b0⟩, ⟨a1, b1⟩, ⟨a10, b10⟩, ⟨a11, b11⟩, ⟨a12, b12⟩, a9, b9⟩, ⟨⟨a2, b2⟩, ⟨a5, b5⟩, ⟨a3, b3⟩, ⟨a4, b4⟩, ⟨a6, b6⟩, ⟨a14, b14⟩, ⟨a7, b7⟩, a13, b13⟩, rF, rP, rL⟩ := id hN
  refine gm_sz (gm_p_load (pc := 0) (i := .aload_n 0) (sr := 2) (j := 0) (by decide +kernel) rfl rfl rfl) ?_
  refine gm_sz (gm_p_load (pc := 1) (i := .iload_n 1) (sr := 0) (j := 1) (by decide +kernel) rfl rfl rfl) ?_
  refine gm_sz (gm_p_load (pc := 2) (i := .aload_n 0) (sr := 2) (j := 0) (by decide +kernel) rfl rfl rfl) ?_
  refine gm_sz (fw_gr (pc := 3) (ix := 23) (ci := 0) (j := 3) (r := 3) (by decide +kernel) (e0k hE (k := 1) (c := 0) (by decide +kernel)) (by decide +kernel) (by decide +kernel) (e0r hE (k := 1) (j := 3) (r := 3) (by decide +kernel))) ?_
  refine gm_sz (fw_gr (pc := 6) (ix := 203) (ci := 1) (j := 12) (r := 10) (by decide +kernel) (e0k hE (k := 3) (c := 1) (by decide +kernel)) (by decide +kernel) (by decide +kernel) (e0r hE (k := 3) (j := 12) (r := 10) (by decide +kernel))) ?_
  refine gm_c_virt (k := 10) (ci := 2) (mj := 9) (ix := 277) (pc := 9) (as := []) (st := [gm_vi i, gm_vr 1]) (d' := d - 1) (bc' := 0) (bs' := 0) (by decide +kernel) (by decide +kernel) (by decide +kernel) (by decide +kernel) (e0k hE (k := 10) (c := 2) (by decide +kernel)).1 (e0k hE (k := 10) (c := 2) (by decide +kernel)).2 (by decide) (by decide +kernel) (show 0 = gm_na 9 by decide +kernel) fw_c0 (show 1 ≤ gm_ml 9 by decide +kernel) (Nat.le_of_ble_eq_true rfl) (by omega) (Nat.zero_le _) (Nat.zero_le _) ?_
  refine rw_size (s := N 4) (e0k hE (k := 10) (c := 2) (by decide +kernel)) (ti_let hT) ?_
  show gm_Wp X LX d _ _ 143 12 _ [gm_vi (N 4), gm_vi i, gm_vr 1] n K _ _ Q
  refine gm_c_virt (k := 1) (ci := 0) (mj := 133) (ix := 306) (pc := 12) (as := [gm_vi i, gm_vi (N 4)]) (st := []) (d' := d - 1) (bc' := 1) (bs' := 6) (by decide +kernel) (by decide +kernel) (by decide +kernel) (by decide +kernel) (e0k hE (k := 1) (c := 0) (by decide +kernel)).1 (e0k hE (k := 1) (c := 0) (by decide +kernel)).2 (by decide) (by decide +kernel) (show 2 = gm_na 133 by decide +kernel) (fw_c2 fw_si fw_si) (show 3 ≤ gm_ml 133 by decide +kernel) (Nat.le_of_ble_eq_true rfl) (by omega) (by omega) (by omega) ?_
  refine nd_133 (i := i) (sz := (N 4)) (by omega) (by decide) (by decide) hi ⟨by omega, by omega⟩ (fun c12 => ?_) (fun c12 => ?_)
  · show gm_Wp X LX d _ _ 143 15 _ [] n K _ _ Q
    exact gm_r_void (pc := 15) (by decide +kernel) (by decide +kernel) (k1 (by first | assumption | omega))
  · show Q (.inr 3) n K _ _
    exact (k0 (by first | assumption | omega))
theorem nd_193 (hd : 8 ≤ d) (hb1 : 1 ≤ bc) (hb2 : 6 ≤ bs) (hE : E0 n K R) (hT : TI N h sp M) (hN : NR N) (hi : gm_ir i) (k1 : 0 ≤ i ∧ i < N 6 → Q (.inl none) n K R M) (k0 : ¬ (0 ≤ i ∧ i < N 6) → Q (.inr 3) n K R M) : gm_Wp X LX d bc bs 193 0 (gm_ent 193 [gm_vr 1, gm_vi i]) [] n K R M Q := by
  obtain ⟨⟨⟨a0, b0⟩, ⟨a1, b1⟩, ⟨a10, b10⟩, ⟨a11, b11⟩, ⟨a12, b12⟩, a9, b9⟩, ⟨⟨a2, b2⟩, ⟨a5, b5⟩, ⟨a3, b3⟩, ⟨a4, b4⟩, ⟨a6, b6⟩, ⟨a14, b14⟩, ⟨a7, b7⟩, a13, b13⟩, rF, rP, rL⟩ := id hN
  refine gm_sz (gm_p_load (pc := 0) (i := .aload_n 0) (sr := 2) (j := 0) (by decide +kernel) rfl rfl rfl) ?_
  refine gm_sz (gm_p_load (pc := 1) (i := .iload_n 1) (sr := 0) (j := 1) (by decide +kernel) rfl rfl rfl) ?_
  refine gm_sz (gm_p_load (pc := 2) (i := .aload_n 0) (sr := 2) (j := 0) (by decide +kernel) rfl rfl rfl) ?_
  refine gm_sz (fw_gr (pc := 3) (ix := 23) (ci := 0) (j := 3) (r := 3) (by decide +kernel) (e0k hE (k := 1) (c := 0) (by decide +kernel)) (by decide +kernel) (by decide +kernel) (e0r hE (k := 1) (j := 3) (r := 3) (by decide +kernel))) ?_
  refine gm_sz (fw_gr (pc := 6) (ix := 344) (ci := 1) (j := 13) (r := 12) (by decide +kernel) (e0k hE (k := 3) (c := 1) (by decide +kernel)) (by decide +kernel) (by decide +kernel) (e0r hE (k := 3) (j := 13) (r := 12) (by decide +kernel))) ?_
  refine gm_c_virt (k := 12) (ci := 2) (mj := 9) (ix := 277) (pc := 9) (as := []) (st := [gm_vi i, gm_vr 1]) (d' := d - 1) (bc' := 0) (bs' := 0) (by decide +kernel) (by decide +kernel) (by decide +kernel) (by decide +kernel) (e0k hE (k := 12) (c := 2) (by decide +kernel)).1 (e0k hE (k := 12) (c := 2) (by decide +kernel)).2 (by decide) (by decide +kernel) (show 0 = gm_na 9 by decide +kernel) fw_c0 (show 1 ≤ gm_ml 9 by decide +kernel) (Nat.le_of_ble_eq_true rfl) (by omega) (Nat.zero_le _) (Nat.zero_le _) ?_
  refine rw_size (s := N 6) (e0k hE (k := 12) (c := 2) (by decide +kernel)) (ti_tab hT) ?_
  show gm_Wp X LX d _ _ 193 12 _ [gm_vi (N 6), gm_vi i, gm_vr 1] n K _ _ Q
  refine gm_c_virt (k := 1) (ci := 0) (mj := 133) (ix := 306) (pc := 12) (as := [gm_vi i, gm_vi (N 6)]) (st := []) (d' := d - 1) (bc' := 1) (bs' := 6) (by decide +kernel) (by decide +kernel) (by decide +kernel) (by decide +kernel) (e0k hE (k := 1) (c := 0) (by decide +kernel)).1 (e0k hE (k := 1) (c := 0) (by decide +kernel)).2 (by decide) (by decide +kernel) (show 2 = gm_na 133 by decide +kernel) (fw_c2 fw_si fw_si) (show 3 ≤ gm_ml 133 by decide +kernel) (Nat.le_of_ble_eq_true rfl) (by omega) (by omega) (by omega) ?_
  refine nd_133 (i := i) (sz := (N 6)) (by omega) (by decide) (by decide) hi ⟨by omega, by omega⟩ (fun c12 => ?_) (fun c12 => ?_)
  · show gm_Wp X LX d _ _ 193 15 _ [] n K _ _ Q
    exact gm_r_void (pc := 15) (by decide +kernel) (by decide +kernel) (k1 (by first | assumption | omega))
  · show Q (.inr 3) n K _ _
    exact (k0 (by first | assumption | omega))
theorem nd_129 (hd : 8 ≤ d) (hb1 : 1 ≤ bc) (hb2 : 6 ≤ bs) (hi : gm_ir i) (k1 : 0 ≤ i ∧ i ≤ 299 → Q (.inl none) n K R M) (k0 : ¬ (0 ≤ i ∧ i ≤ 299) → Q (.inr 0) n K R M) : gm_Wp X LX d bc bs 129 0 (gm_ent 129 [gm_vr 1, gm_vi i]) [] n K R M Q := by
  refine gm_sz (gm_p_load (pc := 0) (i := .iload_n 1) (sr := 0) (j := 1) (by decide +kernel) rfl rfl rfl) ?_
  refine fw_if (cc := .lt) (pc := 1) (off := 10) (by decide +kernel) (by decide) hi (fun h1 => ?_) (fun h1 => ?_)
  · have h1 : i < 0 := h1
    exact gm_throw (ik := 121) (is := 458) (ic := 125) (x := 0) (id := 32) (lw := true) (by decide +kernel) (by decide +kernel) (by decide +kernel) (by decide +kernel) (by decide +kernel) (by decide +kernel) (by decide +kernel) (by decide +kernel) (Nat.le_of_ble_eq_true rfl) (by omega) (by omega) (by omega) (k0 (by first | assumption | omega))
  · have h1 : ¬ i < 0 := h1
    refine gm_sz (gm_p_load (pc := 4) (i := .iload_n 1) (sr := 0) (j := 1) (by decide +kernel) rfl rfl rfl) ?_
    refine gm_sz (gm_p_const (pc := 5) (i := .sipush 299) (v := gm_vi 299) (by decide +kernel) (by decide +kernel)) ?_
    refine fw_ic (cc := .le) (pc := 8) (off := 14) (by decide +kernel) (by decide) hi ⟨by decide, by decide⟩ (fun h8 => ?_) (fun h8 => ?_)
    · have h8 : i ≤ 299 := h8
      exact gm_r_void (pc := 22) (by decide +kernel) (by decide +kernel) (k1 (by first | assumption | omega))
    · have h8 : ¬ i ≤ 299 := h8
      exact gm_throw (ik := 121) (is := 458) (ic := 125) (x := 0) (id := 32) (lw := true) (by decide +kernel) (by decide +kernel) (by decide +kernel) (by decide +kernel) (by decide +kernel) (by decide +kernel) (by decide +kernel) (by decide +kernel) (Nat.le_of_ble_eq_true rfl) (by omega) (by omega) (by omega) (k0 (by first | assumption | omega))
theorem nd_214 (hd : 8 ≤ d) (hb1 : 1 ≤ bc) (hb2 : 6 ≤ bs) (hi : gm_ir i) (k1 : 1 ≤ i ∧ i ≤ 30 → Q (.inl none) n K R M) (k0 : ¬ (1 ≤ i ∧ i ≤ 30) → Q (.inr 0) n K R M) : gm_Wp X LX d bc bs 214 0 (gm_ent 214 [gm_vr 1, gm_vi i]) [] n K R M Q := by
  refine gm_sz (gm_p_load (pc := 0) (i := .iload_n 1) (sr := 0) (j := 1) (by decide +kernel) rfl rfl rfl) ?_
  refine gm_sz (gm_p_const (pc := 1) (i := .iconst 1) (v := gm_vi 1) (by decide +kernel) (by decide +kernel)) ?_
  refine fw_ic (cc := .lt) (pc := 2) (off := 9) (by decide +kernel) (by decide) hi ⟨by decide, by decide⟩ (fun h2 => ?_) (fun h2 => ?_)
  · have h2 : i < 1 := h2
    exact gm_throw (ik := 121) (is := 301) (ic := 125) (x := 0) (id := 42) (lw := true) (by decide +kernel) (by decide +kernel) (by decide +kernel) (by decide +kernel) (by decide +kernel) (by decide +kernel) (by decide +kernel) (by decide +kernel) (Nat.le_of_ble_eq_true rfl) (by omega) (by omega) (by omega) (k0 (by first | assumption | omega))
  · have h2 : ¬ i < 1 := h2
    refine gm_sz (gm_p_load (pc := 5) (i := .iload_n 1) (sr := 0) (j := 1) (by decide +kernel) rfl rfl rfl) ?_
    refine gm_sz (gm_p_const (pc := 6) (i := .bipush 30) (v := gm_vi 30) (by decide +kernel) (by decide +kernel)) ?_
    refine fw_ic (cc := .le) (pc := 8) (off := 14) (by decide +kernel) (by decide) hi ⟨by decide, by decide⟩ (fun h8 => ?_) (fun h8 => ?_)
    · have h8 : i ≤ 30 := h8
      exact gm_r_void (pc := 22) (by decide +kernel) (by decide +kernel) (k1 (by first | assumption | omega))
    · have h8 : ¬ i ≤ 30 := h8
      exact gm_throw (ik := 121) (is := 301) (ic := 125) (x := 0) (id := 42) (lw := true) (by decide +kernel) (by decide +kernel) (by decide +kernel) (by decide +kernel) (by decide +kernel) (by decide +kernel) (by decide +kernel) (by decide +kernel) (Nat.le_of_ble_eq_true rfl) (by omega) (by omega) (by omega) (k0 (by first | assumption | omega))
theorem nd_153 (hd : 8 ≤ d) (hb1 : 1 ≤ bc) (hb2 : 6 ≤ bs) (hi : gm_ir x) (hy2 : gm_ir y) (k1 : ¬ x = y → Q (.inl none) n K R M) (k0 : ¬ (¬ x = y) → Q (.inr 0) n K R M) : gm_Wp X LX d bc bs 153 0 (gm_ent 153 [gm_vr 1, gm_vi x, gm_vi y]) [] n K R M Q := by
  refine gm_sz (gm_p_load (pc := 0) (i := .iload_n 1) (sr := 0) (j := 1) (by decide +kernel) rfl rfl rfl) ?_
  refine gm_sz (gm_p_load (pc := 1) (i := .iload_n 2) (sr := 0) (j := 2) (by decide +kernel) rfl rfl rfl) ?_
  refine fw_ic (cc := .ne) (pc := 2) (off := 14) (by decide +kernel) (by decide) hi hy2 (fun h2 => ?_) (fun h2 => ?_)
  · have h2 : ¬ x = y := h2
    exact gm_r_void (pc := 16) (by decide +kernel) (by decide +kernel) (k1 (by first | assumption | omega))
  · have h2 : x = y := Classical.not_not.mp h2
    exact gm_throw (ik := 121) (is := 462) (ic := 125) (x := 0) (id := 36) (lw := true) (by decide +kernel) (by decide +kernel) (by decide +kernel) (by decide +kernel) (by decide +kernel) (by decide +kernel) (by decide +kernel) (by decide +kernel) (Nat.le_of_ble_eq_true rfl) (by omega) (by omega) (by omega) (k0 (by first | assumption | omega))
theorem nd_187 (hd : 9 ≤ d) (hb1 : 1 ≤ bc) (hb2 : 6 ≤ bs) (hb3 : 2 ≤ bc) (hb4 : 12 ≤ bs) (hE : E0 n K R) (hi : gm_ir x) (hy2 : gm_ir y) (k1 : (0 ≤ x ∧ x ≤ 299) ∧ (0 ≤ y ∧ y ≤ 99) → Q (.inl none) n K R M) (k0 : ¬ ((0 ≤ x ∧ x ≤ 299) ∧ (0 ≤ y ∧ y ≤ 99)) → Q (.inr 0) n K R M) : gm_Wp X LX d bc bs 187 0 (gm_ent 187 [gm_vr 1, gm_vi x, gm_vi y]) [] n K R M Q := by
  refine gm_sz (gm_p_load (pc := 0) (i := .aload_n 0) (sr := 2) (j := 0) (by decide +kernel) rfl rfl rfl) ?_
  refine gm_sz (gm_p_load (pc := 1) (i := .iload_n 1) (sr := 0) (j := 1) (by decide +kernel) rfl rfl rfl) ?_
  refine gm_c_virt (k := 1) (ci := 0) (mj := 129) (ix := 160) (pc := 2) (as := [gm_vi x]) (st := []) (d' := d - 1) (bc' := 1) (bs' := 6) (by decide +kernel) (by decide +kernel) (by decide +kernel) (by decide +kernel) (e0k hE (k := 1) (c := 0) (by decide +kernel)).1 (e0k hE (k := 1) (c := 0) (by decide +kernel)).2 (by decide) (by decide +kernel) (show 1 = gm_na 129 by decide +kernel) (fw_c1 fw_si) (show 2 ≤ gm_ml 129 by decide +kernel) (Nat.le_of_ble_eq_true rfl) (by omega) (by omega) (by omega) ?_
  refine nd_129 (i := x) (by omega) (by omega) (by omega) hi (fun c2 => ?_) (fun c2 => ?_)
  · show gm_Wp X LX d _ _ 187 5 _ [] n K _ _ Q
    have c2 : 0 ≤ x ∧ x ≤ 299 := c2
    refine gm_sz (gm_p_load (pc := 5) (i := .iload_n 2) (sr := 0) (j := 2) (by decide +kernel) rfl rfl rfl) ?_
    refine fw_if (cc := .lt) (pc := 6) (off := 9) (by decide +kernel) (by decide) hy2 (fun h6 => ?_) (fun h6 => ?_)
    · have h6 : y < 0 := h6
      exact gm_throw (ik := 121) (is := 460) (ic := 125) (x := 0) (id := 43) (lw := true) (by decide +kernel) (by decide +kernel) (by decide +kernel) (by decide +kernel) (by decide +kernel) (by decide +kernel) (by decide +kernel) (by decide +kernel) (Nat.le_of_ble_eq_true rfl) (by omega) (by omega) (by omega) (k0 (by first | assumption | omega))
    · have h6 : ¬ y < 0 := h6
      refine gm_sz (gm_p_load (pc := 9) (i := .iload_n 2) (sr := 0) (j := 2) (by decide +kernel) rfl rfl rfl) ?_
      refine gm_sz (gm_p_const (pc := 10) (i := .bipush 99) (v := gm_vi 99) (by decide +kernel) (by decide +kernel)) ?_
      refine fw_ic (cc := .le) (pc := 12) (off := 14) (by decide +kernel) (by decide) hy2 ⟨by decide, by decide⟩ (fun h12 => ?_) (fun h12 => ?_)
      · have h12 : y ≤ 99 := h12
        exact gm_r_void (pc := 26) (by decide +kernel) (by decide +kernel) (k1 (by first | assumption | omega))
      · have h12 : ¬ y ≤ 99 := h12
        exact gm_throw (ik := 121) (is := 460) (ic := 125) (x := 0) (id := 43) (lw := true) (by decide +kernel) (by decide +kernel) (by decide +kernel) (by decide +kernel) (by decide +kernel) (by decide +kernel) (by decide +kernel) (by decide +kernel) (Nat.le_of_ble_eq_true rfl) (by omega) (by omega) (by omega) (k0 (by first | assumption | omega))
  · show Q (.inr 0) n K _ _
    have c2 : ¬ (0 ≤ x ∧ x ≤ 299) := c2
    exact (k0 (by first | assumption | omega))
end HS12
