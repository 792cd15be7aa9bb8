/-! 7a22.c12hs -/
section
/-! THE CLASS: its History as a list, the newest first; what a call refuses (laid by wip/core/c12.py). -/
theorem pl_le {i : Int} (hi : 0 ≤ i ∧ i < 395 ∧ ¬ i = 8) : (pl i).1 ≤ 12 := by
  rcases pl_cases hi with rfl | rfl | rfl | rfl | rfl | rfl | rfl | rfl | rfl | rfl | rfl | rfl | rfl | rfl | h | h | h | h | h | h
  · decide
  · decide
  · decide
  · decide
  · decide
  · decide
  · decide
  · decide
  · decide
  · decide
  · decide
  · decide
  · decide
  · decide
  · rw [pl_2 h]; exact (by decide : (2 : Nat) ≤ 12)
  · rw [pl_4 h]; exact (by decide : (4 : Nat) ≤ 12)
  · rw [pl_6 h]; exact (by decide : (6 : Nat) ≤ 12)
  · rw [pl_8 h]; exact (by decide : (8 : Nat) ≤ 12)
  · rw [pl_10 h]; exact (by decide : (10 : Nat) ≤ 12)
  · rw [pl_12 h]; exact (by decide : (12 : Nat) ≤ 12)
theorem cs_same {M M2 : gm_M} {b : Nat} (h : ∀ (x : Nat) (j : Int), b ≤ x → x ≤ b + 12 → M2 x j = M x j) : cs M2 b = cs M b := cs_ext fun i hi => h _ _ (Nat.le_add_right _ _) (Nat.add_le_add_left (pl_le hi) _)
theorem cst_cpe : (List.range 12).all (fun p => cstL.all fun q => decide (q.1 < 44 + 13 * p ∨ 44 + 13 * p + 12 < q.1 ∨ ((q.1 = 44 + 13 * p + 1 ∨ q.1 = 44 + 13 * p + 3 ∨ q.1 = 44 + 13 * p + 5 ∨ q.1 = 44 + 13 * p + 7 ∨ q.1 = 44 + 13 * p + 9 ∨ q.1 = 44 + 13 * p + 11) ∧ 0 ≤ q.2.1 ∧ q.2.1 < 3))) = true := by decide +kernel
theorem cst_cpf : [3, 16, 29].all (fun p => cstL.all fun q => decide (q.1 < p ∨ p + 12 < q.1 ∨ ((q.1 = p + 1 ∨ q.1 = p + 3 ∨ q.1 = p + 5 ∨ q.1 = p + 7 ∨ q.1 = p + 9 ∨ q.1 = p + 11) ∧ 0 ≤ q.2.1 ∧ q.2.1 < 3))) = true := by decide +kernel
theorem cst_cpy0 {M M2 : gm_M} {b s : Nat} (h : cstL.all (fun q => decide (q.1 < b ∨ b + 12 < q.1 ∨ ((q.1 = b + 1 ∨ q.1 = b + 3 ∨ q.1 = b + 5 ∨ q.1 = b + 7 ∨ q.1 = b + 9 ∨ q.1 = b + 11) ∧ 0 ≤ q.2.1 ∧ q.2.1 < 3))) = true) (hC : CST M) (hc : CPY M M2 b s) : CST M2 := by
  intro q hq
  rw [← hC q hq]
  rcases of_decide_eq_true (List.all_eq_true.mp h q hq) with h1 | h1 | ⟨h1, h2, h3⟩
  · exact hc.1 _ _ (Or.inl h1)
  · exact hc.1 _ _ (Or.inr h1)
  · exact hc.2.1 _ _ h2 h3 (by omega)
theorem cst_cpy {M M2 : gm_M} {p s : Nat} (hp : p < 12) (hC : CST M) (hc : CPY M M2 (44 + 13 * p) s) : CST M2 := cst_cpy0 (List.all_eq_true.mp cst_cpe p (List.mem_range.mpr hp)) hC hc
/-- what is remembered, the newest first -/
def HIS (A : List (Int → Int)) (M : gm_M) : Prop := ∃ nx : Int, (0 ≤ nx ∧ nx < 12) ∧ M 42 1 = nx ∧ M 42 2 = (A.length : Int) ∧ A.length ≤ 12 ∧ ∀ (i : Nat) (N1 : Int → Int), A[i]? = some N1 → cs M (44 + 13 * ((nx + 11 - (i : Int)) % 12).toNat) = N1
theorem his_fr {A : List (Int → Int)} {M M2 : gm_M} (h : HIS A M) (e : ∀ (x : Nat) (j : Int), 42 ≤ x → x ≤ 199 → M2 x j = M x j) : HIS A M2 := by
  obtain ⟨nx, h0, h1, h2, h3, h4⟩ := h
  refine ⟨nx, h0, by rw [e 42 1 (by decide) (by decide)]; exact h1, by rw [e 42 2 (by decide) (by decide)]; exact h2, h3, fun i N1 hi => ?_⟩
  rw [← h4 i N1 hi]
  exact cs_same fun x j x1 x2 => e x j (by omega) (by omega)
theorem his_b {A : List (Int → Int)} {M : gm_M} (h : HIS A M) : A.length ≤ 12 ∧ M 42 2 = (A.length : Int) := by
  obtain ⟨nx, h0, h1, h2, h3, h4⟩ := h
  exact ⟨h3, h2⟩
section HS12
variable {X : Int → Int} {LX d bc bs n : Nat} {K : gm_K} {R : gm_R} {M : gm_M} {Q : gm_Q} {N h : Int → Int} {sp : Int → Int → Int} {A : List (Int → Int)} {i sz x y : Int}
theorem ti_far {M2 : gm_M} (hT : TI N h sp M) (hC : CST M2) (e : ∀ (x : Nat) (j : Int), x < 42 ∨ 199 < x → M2 x j = M x j) : TI N h sp M2 := by
  refine ⟨hC, ?_, fun y y1 y2 => ?_, fun l r l1 l2 r1 r2 => ?_⟩
  · rw [← hT.2.1]
    exact cs_same fun x j x1 x2 => e x j (by omega)
  · rw [e 201 y (by decide), e 203 y (by decide)]
    exact hT.2.2.1 y y1 y2
  · rw [e 202 _ (by decide)]
    exact hT.2.2.2 l r l1 l2 r1 r2
theorem rem_c154 (hd : 5 ≤ d) (hE : E0 n K R) (hT : TI N h sp M) (hN : NR N) (hH : HIS A M) (hq : ∀ (p : Nat) (M2 : gm_M), p < 12 → (M 42 1 = (p : Int) ∧ M2 42 1 = ((p : Int) + 1) % 12) → HIS ((N :: A).take 12) M2 → TI N h sp M2 → (∀ (x : Nat) (j : Int), x < 42 ∨ 199 < x → M2 x j = M x j) → Q (.inl none) n K (gm_uR R (44 + 13 * p) 8 (R 3 8)) M2) : gm_Wp X LX d bc bs 154 0 (gm_ent 154 [gm_vr 42, gm_vr 3]) [] n K R M Q := by
  obtain ⟨nx, h0, h1, h2, h3, h4⟩ := hH
  have hp : nx.toNat < 12 := by omega
  refine hi_rem hd hE hT.1 h0 h1 h2 ⟨by omega, by omega⟩ (sz_cs hN hT.2.1) (fun M9 hc => ?_)
  have far : ∀ (x : Nat) (j : Int), x < 42 ∨ 199 < x → gm_uM (gm_uM M9 42 1 ((nx + 1) % 12)) 42 2 (min ((A.length : Int) + 1) 12) x j = M x j := fun x j hx => (uM_ne (by omega)).trans ((uM_ne (by omega)).trans (hc.1 x j (by omega)))
  have c9 : CST M9 := cst_cpy hp hT.1 hc
  have cM : CST (gm_uM (gm_uM M9 42 1 ((nx + 1) % 12)) 42 2 (min ((A.length : Int) + 1) 12)) := cst_fr (W := [(42, some 1), (42, some 2)]) c9 (fr_p (fr_p fr_0 (Or.inr (by decide))) (Or.inr (by decide))) (by decide +kernel)
  refine hq nx.toNat _ hp ⟨by omega, (uM_ne (by decide)).trans (uM_at.trans (by omega))⟩ ⟨(nx + 1) % 12, ⟨by omega, by omega⟩, (uM_ne (by decide)).trans uM_at, uM_at.trans ?_, ?_, fun i N1 hi => ?_⟩ (ti_far hT cM far) far
  · rw [List.length_take, List.length_cons]
    omega
  · rw [List.length_take, List.length_cons]
    omega
  · have el : ∀ b : Nat, 43 ≤ b → cs (gm_uM (gm_uM M9 42 1 ((nx + 1) % 12)) 42 2 (min ((A.length : Int) + 1) 12)) b = cs M9 b := fun b hb => (cs_el (Or.inl (by omega))).trans (cs_el (Or.inl (by omega)))
    rw [el _ (by omega)]
    cases i with
    | zero =>
      have e : N = N1 := by simpa using hi
      subst e
      rw [show (((nx + 1) % 12 + 11 - ((0 : Nat) : Int)) % 12).toNat = nx.toNat by omega]
      exact hc.2.2.trans hT.2.1
    | succ i =>
      rw [List.getElem?_take] at hi
      split at hi
      · rename_i hi2
        have hi : A[i]? = some N1 := by simpa using hi
        rw [show (((nx + 1) % 12 + 11 - ((i + 1 : Nat) : Int)) % 12).toNat = ((nx + 11 - (i : Int)) % 12).toNat by omega]
        rw [← h4 i N1 hi]
        have hne : ¬ ((nx + 11 - (i : Int)) % 12).toNat = nx.toNat := by omega
        exact cs_same fun x j x1 x2 => hc.1 x j (by omega)
      · cases hi
theorem tb_c55 (hd : 5 ≤ d) (hE : E0 n K R) (hT : TI N h sp M) (hH : HIS A M) (hA : ∀ N1 ∈ A, NR N1) (hq0 : A = [] → Q (.inl (some (gm_vi 0))) n K R M) (hq1 : ∀ (N0 : Int → Int) (A1 : List (Int → Int)) (p : Nat) (M2 : gm_M), A = N0 :: A1 → p < 12 → (M2 42 1 = (p : Int) ∧ M 42 1 = ((p : Int) + 1) % 12) → HIS A1 M2 → CST M2 → cs M2 3 = N0 → (∀ (x : Nat) (j : Int), x < 3 ∨ (15 < x ∧ ¬ x = 42) → M2 x j = M x j) → Q (.inl (some (gm_vi 1))) n K (gm_uR R 3 8 (R (44 + 13 * p) 8)) M2) : gm_Wp X LX d bc bs 55 0 (gm_ent 55 [gm_vr 42, gm_vr 3]) [] n K R M Q := by
  obtain ⟨nx, h0, h1, h2, h3, h4⟩ := hH
  cases A with
  | nil => exact hi_tb0 hE h2 (hq0 rfl)
  | cons N0 A1 =>
    rw [List.length_cons] at h2 h3
    have e0 := h4 0 N0 rfl
    have hz : SZ M (44 + 13 * (((nx + 12) - 1) % 12).toNat) := sz_cs (hA N0 List.mem_cons_self) (by rw [← e0]; congr 3; omega)
    refine hi_tb hd hE hT.1 h0 h1 h2 ⟨by omega, by omega⟩ (by omega) (mx_3 hT.1) hz (fun M9 hc => ?_)
    have hp : (((nx + 12) - 1) % 12).toNat < 12 := by omega
    have cM : CST (gm_uM (gm_uM M 42 1 (((nx + 12) - 1) % 12)) 42 2 (((A1.length + 1 : Nat) : Int) - 1)) := cst_fr (W := [(42, some 1), (42, some 2)]) hT.1 (fr_p (fr_p fr_0 (Or.inr (by decide))) (Or.inr (by decide))) (by decide +kernel)
    have ho : ∀ (x : Nat) (j : Int), x < 3 ∨ 15 < x → M9 x j = gm_uM (gm_uM M 42 1 (((nx + 12) - 1) % 12)) 42 2 (((A1.length + 1 : Nat) : Int) - 1) x j := fun x j hx => hc.1 x j (by omega)
    refine hq1 N0 A1 _ M9 rfl hp ⟨(ho 42 1 (by decide)).trans ((uM_ne (by decide)).trans (uM_at.trans (by omega))), h1.trans (by omega)⟩ ⟨((nx + 12) - 1) % 12, ⟨by omega, by omega⟩, (ho 42 1 (by decide)).trans ((uM_ne (by decide)).trans uM_at), (ho 42 2 (by decide)).trans (uM_at.trans (by omega)), by omega, fun i N1 hi => ?_⟩ (cst_cpy0 (List.all_eq_true.mp cst_cpf 3 (by decide)) cM hc) ?_ (fun x j hx => ?_)
    · have := h4 (i + 1) N1 (by simpa using hi)
      rw [← this]
      rw [show ((((nx + 12) - 1) % 12 + 11 - (i : Int)) % 12).toNat = ((nx + 11 - ((i + 1 : Nat) : Int)) % 12).toNat by omega]
      refine cs_same fun x j x1 x2 => (ho x j (by omega)).trans ((uM_ne (by omega)).trans (uM_ne (by omega)))
    · rw [hc.2.2, ← e0]
      rw [show ((nx + 11 - ((0 : Nat) : Int)) % 12).toNat = (((nx + 12) - 1) % 12).toNat by omega]
      exact (cs_el (Or.inl (by omega))).trans (cs_el (Or.inl (by omega)))
    · exact (ho x j (by omega)).trans ((uM_ne (by omega)).trans (uM_ne (by omega)))
theorem im_t59 (hd : 5 ≤ d) (hE : E0 n K R) (hT : TI N h sp M) (hN : NR N) (hq : ∀ M2 : gm_M, TI N h sp M2 → cs M2 29 = N → M2 1 6 = 1 → (∀ (x : Nat) (j : Int), ¬ (x = 1 ∧ j = 6) → x < 29 ∨ 41 < x → M2 x j = M x j) → Q (.inl none) n K (gm_uR R 29 8 (R 3 8)) M2) : gm_Wp X LX d bc bs 59 0 (gm_ent 59 [gm_vr 1]) [] n K R M Q := by
  refine im_c59 hd hE hT.1 (sz_cs hN hT.2.1) (fun M9 hc => ?_)
  have c9 : CST M9 := cst_cpy0 (List.all_eq_true.mp cst_cpf 29 (by decide)) hT.1 hc
  have cM : CST (gm_uM M9 1 6 1) := cst_fr (W := [(1, some 6)]) c9 (fr_p fr_0 (Or.inr (by decide))) (by decide +kernel)
  have far : ∀ (x : Nat) (j : Int), ¬ (x = 1 ∧ j = 6) → x < 29 ∨ 41 < x → gm_uM M9 1 6 1 x j = M x j := fun x j h1 hx => (uM_ne (by omega)).trans (hc.1 x j (by omega))
  refine hq _ ⟨cM, ?_, fun y y1 y2 => ?_, fun l r l1 l2 r1 r2 => ?_⟩ ((cs_el (Or.inl (by decide))).trans (hc.2.2.trans hT.2.1)) uM_at far
  · rw [← hT.2.1]
    exact cs_same fun x j x1 x2 => far x j (by omega) (by omega)
  · rw [far 201 y (by omega) (by decide), far 203 y (by omega) (by decide)]
    exact hT.2.2.1 y y1 y2
  · rw [far 202 _ (by omega) (by decide)]
    exact hT.2.2.2 l r l1 l2 r1 r2
theorem nd_133 (hd : 6 ≤ d) (hb1 : 1 ≤ bc) (hb2 : 6 ≤ bs) (hi : gm_ir i) (hs : gm_ir sz) (k1 : 0 ≤ i ∧ i < sz → Q (.inl none) n K R M) (k0 : ¬ (0 ≤ i ∧ i < sz) → Q (.inr 3) n K R M) : gm_Wp X LX d bc bs 133 0 (gm_ent 133 [gm_vr 1, gm_vi i, gm_vi sz]) [] n K R M Q := by
  refine gm_sz (gm_p_load (pc := 0) (i := .iload_n 1) (sr := 0) (j := 1) (by decide +kernel) rfl rfl rfl) ?_
  refine fw_if (cc := .lt) (pc := 1) (off := 8) (by decide +kernel) (by decide) hi (fun h1 => ?_) (fun h1 => ?_)
  · have h1 : i < 0 := h1
    exact gm_throw (ik := 453) (is := 455) (ic := 457) (x := 3) (id := 33) (lw := true) (by decide +kernel) (by decide +kernel) (by decide +kernel) (by decide +kernel) (by decide +kernel) (by decide +kernel) (by decide +kernel) (by decide +kernel) (Nat.le_of_ble_eq_true rfl) (by omega) (by omega) (by omega) (k0 (by first | assumption | omega))
  · have h1 : ¬ i < 0 := h1
    refine gm_sz (gm_p_load (pc := 4) (i := .iload_n 1) (sr := 0) (j := 1) (by decide +kernel) rfl rfl rfl) ?_
    refine gm_sz (gm_p_load (pc := 5) (i := .iload_n 2) (sr := 0) (j := 2) (by decide +kernel) rfl rfl rfl) ?_
    refine fw_ic (cc := .lt) (pc := 6) (off := 14) (by decide +kernel) (by decide) hi hs (fun h6 => ?_) (fun h6 => ?_)
    · have h6 : i < sz := h6
      exact gm_r_void (pc := 20) (by decide +kernel) (by decide +kernel) (k1 (by first | assumption | omega))
    · have h6 : ¬ i < sz := h6
      exact gm_throw (ik := 453) (is := 455) (ic := 457) (x := 3) (id := 33) (lw := true) (by decide +kernel) (by decide +kernel) (by decide +kernel) (by decide +kernel) (by decide +kernel) (by decide +kernel) (by decide +kernel) (by decide +kernel) (Nat.le_of_ble_eq_true rfl) (by omega) (by omega) (by omega) (k0 (by first | assumption | omega))
theorem nd_132 (hd : 8 ≤ d) (hb1 : 1 ≤ bc) (hb2 : 6 ≤ bs) (hE : E0 n K R) (hT : TI N h sp M) (hN : NR N) (hi : gm_ir i) (k1 : 0 ≤ i ∧ i < N 0 → Q (.inl none) n K R M) (k0 : ¬ (0 ≤ i ∧ i < N 0) → Q (.inr 3) n K R M) : gm_Wp X LX d bc bs 132 0 (gm_ent 132 [gm_vr 1, gm_vi i]) [] n K R M Q := by
  obtain ⟨⟨⟨a0, b0⟩, ⟨a1, b1⟩, ⟨a10, b10⟩, ⟨a11, b11⟩, ⟨a12, b12⟩, a9, b9⟩, ⟨⟨a2, b2⟩, ⟨a5, b5⟩, ⟨a3, b3⟩, ⟨a4, b4⟩, ⟨a6, b6⟩, ⟨a14, b14⟩, ⟨a7, b7⟩, a13, b13⟩, rF, rP, rL⟩ := id hN
  refine gm_sz (gm_p_load (pc := 0) (i := .aload_n 0) (sr := 2) (j := 0) (by decide +kernel) rfl rfl rfl) ?_
  refine gm_sz (gm_p_load (pc := 1) (i := .iload_n 1) (sr := 0) (j := 1) (by decide +kernel) rfl rfl rfl) ?_
  refine gm_sz (gm_p_load (pc := 2) (i := .aload_n 0) (sr := 2) (j := 0) (by decide +kernel) rfl rfl rfl) ?_
  refine gm_sz (fw_gr (pc := 3) (ix := 23) (ci := 0) (j := 3) (r := 3) (by decide +kernel) (e0k hE (k := 1) (c := 0) (by decide +kernel)) (by decide +kernel) (by decide +kernel) (e0r hE (k := 1) (j := 3) (r := 3) (by decide +kernel))) ?_
  refine gm_sz (fw_gi (pc := 6) (ix := 351) (ci := 1) (j := 0) (x := N 0) (by decide +kernel) (e0k hE (k := 3) (c := 1) (by decide +kernel)) (by decide +kernel) (by decide +kernel) (ti_lan hT)) ?_
  refine gm_c_virt (k := 1) (ci := 0) (mj := 133) (ix := 306) (pc := 9) (as := [gm_vi i, gm_vi (N 0)]) (st := []) (d' := d - 1) (bc' := 1) (bs' := 6) (by decide +kernel) (by decide +kernel) (by decide +kernel) (by decide +kernel) (e0k hE (k := 1) (c := 0) (by decide +kernel)).1 (e0k hE (k := 1) (c := 0) (by decide +kernel)).2 (by decide) (by decide +kernel) (show 2 = gm_na 133 by decide +kernel) (fw_c2 fw_si fw_si) (show 3 ≤ gm_ml 133 by decide +kernel) (Nat.le_of_ble_eq_true rfl) (by omega) (by omega) (by omega) ?_
  refine nd_133 (i := i) (sz := (N 0)) (by omega) (by decide) (by decide) hi ⟨by omega, by omega⟩ (fun c9 => ?_) (fun c9 => ?_)
  · show gm_Wp X LX d _ _ 132 12 _ [] n K _ _ Q
    exact gm_r_void (pc := 12) (by decide +kernel) (by decide +kernel) (k1 (by first | assumption | omega))
  · show Q (.inr 3) n K _ _
    exact (k0 (by first | assumption | omega))
theorem nd_134 (hd : 8 ≤ d) (hb1 : 1 ≤ bc) (hb2 : 6 ≤ bs) (hE : E0 n K R) (hT : TI N h sp M) (hN : NR N) (hi : gm_ir i) (k1 : 0 ≤ i ∧ i < N 1 → Q (.inl none) n K R M) (k0 : ¬ (0 ≤ i ∧ i < N 1) → Q (.inr 3) n K R M) : gm_Wp X LX d bc bs 134 0 (gm_ent 134 [gm_vr 1, gm_vi i]) [] n K R M Q := by
  obtain ⟨⟨⟨a0, b0⟩, ⟨a1, b1⟩, ⟨a10, b10⟩, ⟨a11, b11⟩, ⟨a12, b12⟩, a9, b9⟩, ⟨⟨a2, b2⟩, ⟨a5, b5⟩, ⟨a3, b3⟩, ⟨a4, b4⟩, ⟨a6, b6⟩, ⟨a14, b14⟩, ⟨a7, b7⟩, a13, b13⟩, rF, rP, rL⟩ := id hN
  refine gm_sz (gm_p_load (pc := 0) (i := .aload_n 0) (sr := 2) (j := 0) (by decide +kernel) rfl rfl rfl) ?_
  refine gm_sz (gm_p_load (pc := 1) (i := .iload_n 1) (sr := 0) (j := 1) (by decide +kernel) rfl rfl rfl) ?_
  refine gm_sz (gm_p_load (pc := 2) (i := .aload_n 0) (sr := 2) (j := 0) (by decide +kernel) rfl rfl rfl) ?_
  refine gm_sz (fw_gr (pc := 3) (ix := 23) (ci := 0) (j := 3) (r := 3) (by decide +kernel) (e0k hE (k := 1) (c := 0) (by decide +kernel)) (by decide +kernel) (by decide +kernel) (e0r hE (k := 1) (j := 3) (r := 3) (by decide +kernel))) ?_
  refine gm_sz (fw_gi (pc := 6) (ix := 226) (ci := 1) (j := 1) (x := N 1) (by decide +kernel) (e0k hE (k := 3) (c := 1) (by decide +kernel)) (by decide +kernel) (by decide +kernel) (ti_las hT)) ?_
  refine gm_c_virt (k := 1) (ci := 0) (mj := 133) (ix := 306) (pc := 9) (as := [gm_vi i, gm_vi (N 1)]) (st := []) (d' := d - 1) (bc' := 1) (bs' := 6) (by decide +kernel) (by decide +kernel) (by decide +kernel) (by decide +kernel) (e0k hE (k := 1) (c := 0) (by decide +kernel)).1 (e0k hE (k := 1) (c := 0) (by decide +kernel)).2 (by decide) (by decide +kernel) (show 2 = gm_na 133 by decide +kernel) (fw_c2 fw_si fw_si) (show 3 ≤ gm_ml 133 by decide +kernel) (Nat.le_of_ble_eq_true rfl) (by omega) (by omega) (by omega) ?_
  refine nd_133 (i := i) (sz := (N 1)) (by omega) (by decide) (by decide) hi ⟨by omega, by omega⟩ (fun c9 => ?_) (fun c9 => ?_)
  · show gm_Wp X LX d _ _ 134 12 _ [] n K _ _ Q
    exact gm_r_void (pc := 12) (by decide +kernel) (by decide +kernel) (k1 (by first | assumption | omega))
  · show Q (.inr 3) n K _ _
    exact (k0 (by first | assumption | omega))
theorem nd_139 (hd : 8 ≤ d) (hb1 : 1 ≤ bc) (hb2 : 6 ≤ bs) (hE : E0 n K R) (hT : TI N h sp M) (hN : NR N) (hi : gm_ir i) (k1 : 0 ≤ i ∧ i < N 3 → Q (.inl none) n K R M) (k0 : ¬ (0 ≤ i ∧ i < N 3) → Q (.inr 3) n K R M) : gm_Wp X LX d bc bs 139 0 (gm_ent 139 [gm_vr 1, gm_vi i]) [] n K R M Q := by
  obtain ⟨⟨⟨a0, b0⟩, ⟨a1, b1⟩, ⟨a10, b10⟩, ⟨a11, b11⟩, ⟨a12, b12⟩, a9, b9⟩, ⟨⟨a2, b2⟩, ⟨a5, b5⟩, ⟨a3, b3⟩, ⟨a4, b4⟩, ⟨a6, b6⟩, ⟨a14, b14⟩, ⟨a7, b7⟩, a13, b13⟩, rF, rP, rL⟩ := id hN
  refine gm_sz (gm_p_load (pc := 0) (i := .aload_n 0) (sr := 2) (j := 0) (by decide +kernel) rfl rfl rfl) ?_
  refine gm_sz (gm_p_load (pc := 1) (i := .iload_n 1) (sr := 0) (j := 1) (by decide +kernel) rfl rfl rfl) ?_
  refine gm_sz (gm_p_load (pc := 2) (i := .aload_n 0) (sr := 2) (j := 0) (by decide +kernel) rfl rfl rfl) ?_
  refine gm_sz (fw_gr (pc := 3) (ix := 23) (ci := 0) (j := 3) (r := 3) (by decide +kernel) (e0k hE (k := 1) (c := 0) (by decide +kernel)) (by decide +kernel) (by decide +kernel) (e0r hE (k := 1) (j := 3) (r := 3) (by decide +kernel))) ?_
  refine gm_sz (fw_gr (pc := 6) (ix := 183) (ci := 1) (j := 11) (r := 8) (by decide +kernel) (e0k hE (k := 3) (c := 1) (by decide +kernel)) (by decide +kernel) (by decide +kernel) (e0r hE (k := 3) (j := 11) (r := 8) (by decide +kernel))) ?_
  refine gm_c_virt (k := 8) (ci := 2) (mj := 9) (ix := 277) (pc := 9) (as := []) (st := [gm_vi i, gm_vr 1]) (d' := d - 1) (bc' := 0) (bs' := 0) (by decide +kernel) (by decide +kernel) (by decide +kernel) (by decide +kernel) (e0k hE (k := 8) (c := 2) (by decide +kernel)).1 (e0k hE (k := 8) (c := 2) (by decide +kernel)).2 (by decide) (by decide +kernel) (show 0 = gm_na 9 by decide +kernel) fw_c0 (show 1 ≤ gm_ml 9 by decide +kernel) (Nat.le_of_ble_eq_true rfl) (by omega) (Nat.zero_le _) (Nat.zero_le _) ?_
  refine rw_size (s := N 3) (e0k hE (k := 8) (c := 2) (by decide +kernel)) (ti_peo hT) ?_
  show gm_Wp X LX d _ _ 139 12 _ [gm_vi (N 3), gm_vi i, gm_vr 1] n K _ _ Q
  refine gm_c_virt (k := 1) (ci := 0) (mj := 133) (ix := 306) (pc := 12) (as := [gm_vi i, gm_vi (N 3)]) (st := []) (d' := d - 1) (bc' := 1) (bs' := 6) (by decide +kernel) (by decide +kernel) (by decide +kernel) (by decide +kernel) (e0k hE (k := 1) (c := 0) (by decide +kernel)).1 (e0k hE (k := 1) (c := 0) (by decide +kernel)).2 (by decide) (by decide +kernel) (show 2 = gm_na 133 by decide +kernel) (fw_c2 fw_si fw_si) (show 3 ≤ gm_ml 133 by decide +kernel) (Nat.le_of_ble_eq_true rfl) (by omega) (by omega) (by omega) ?_
  refine nd_133 (i := i) (sz := (N 3)) (by omega) (by decide) (by decide) hi ⟨by omega, by omega⟩ (fun c12 => ?_) (fun c12 => ?_)
  · show gm_Wp X LX d _ _ 139 15 _ [] n K _ _ Q
    exact gm_r_void (pc := 15) (by decide +kernel) (by decide +kernel) (k1 (by first | assumption | omega))
  · show Q (.inr 3) n K _ _
    exact (k0 (by first | assumption | omega))
theorem nd_143 (hd : 8 ≤ d) (hb1 : 1 ≤ bc) (hb2 : 6 ≤ bs) (hE : E0 n K R) (hT : TI N h sp M) (hN : NR N) (hi : gm_ir i) (k1 : 0 ≤ i ∧ i < N 4 → Q (.inl none) n K R M) (k0 : ¬ (0 ≤ i ∧ i < N 4) → Q (.inr 3) n K R M) : gm_Wp X LX d bc bs 143 0 (gm_ent 143 [gm_vr 1, gm_vi i]) [] n K R M Q := by
  obtain ⟨⟨⟨a0, b0⟩, ⟨a1, b1⟩, ⟨a10, b10⟩, ⟨a11, b11⟩, ⟨a12, b12⟩, a9, b9⟩, ⟨⟨a2, b2⟩, ⟨a5, b5⟩, ⟨a3, b3⟩, ⟨a4, b4⟩, ⟨a6, b6⟩, ⟨a14, b14⟩, ⟨a7, b7⟩, a13, b13⟩, rF, rP, rL⟩ := id hN
  refine gm_sz (gm_p_load (pc := 0) (i := .aload_n 0) (sr := 2) (j := 0) (by decide +kernel) rfl rfl rfl) ?_
  refine gm_sz (gm_p_load (pc := 1) (i := .iload_n 1) (sr := 0) (j := 1) (by decide +kernel) rfl rfl rfl) ?_
  refine gm_sz (gm_p_load (pc := 2) (i := .aload_n 0) (sr := 2) (j := 0) (by decide +kernel) rfl rfl rfl) ?_
  refine gm_sz (fw_gr (pc := 3) (ix := 23) (ci := 0) (j := 3) (r := 3) (by decide +kernel) (e0k hE (k := 1) (c := 0) (by decide +kernel)) (by decide +kernel) (by decide +kernel) (e0r hE (k := 1) (j := 3) (r := 3) (by decide +kernel))) ?_
  refine gm_sz (fw_gr (pc := 6) (ix := 203) (ci := 1) (j := 12) (r := 10) (by decide +kernel) (e0k hE (k := 3) (c := 1) (by decide +kernel)) (by decide +kernel) (by decide +kernel) (e0r hE (k := 3) (j := 12) (r := 10) (by decide +kernel))) ?_
  refine gm_c_virt (k := 10) (ci := 2) (mj := 9) (ix := 277) (pc := 9) (as := []) (st := [gm_vi i, gm_vr 1]) (d' := d - 1) (bc' := 0) (bs' := 0) (by decide +kernel) (by decide +kernel) (by decide +kernel) (by decide +kernel) (e0k hE (k := 10) (c := 2) (by decide +kernel)).1 (e0k hE (k := 10) (c := 2) (by decide +kernel)).2 (by decide) (by decide +kernel) (show 0 = gm_na 9 by decide +kernel) fw_c0 (show 1 ≤ gm_ml 9 by decide +kernel) (Nat.le_of_ble_eq_true rfl) (by omega) (Nat.zero_le _) (Nat.zero_le _) ?_
  refine rw_size (s := N 4) (e0k hE (k := 10) (c := 2) (by decide +kernel)) (ti_let hT) ?_
  show gm_Wp X LX d _ _ 143 12 _ [gm_vi (N 4), gm_vi i, gm_vr 1] n K _ _ Q
  refine gm_c_virt (k := 1) (ci := 0) (mj := 133) (ix := 306) (pc := 12) (as := [gm_vi i, gm_vi (N 4)]) (st := []) (d' := d - 1) (bc' := 1) (bs' := 6) (by decide +kernel) (by decide +kernel) (by decide +kernel) (by decide +kernel) (e0k hE (k := 1) (c := 0) (by decide +kernel)).1 (e0k hE (k := 1) (c := 0) (by decide +kernel)).2 (by decide) (by decide +kernel) (show 2 = gm_na 133 by decide +kernel) (fw_c2 fw_si fw_si) (show 3 ≤ gm_ml 133 by decide +kernel) (Nat.le_of_ble_eq_true rfl) (by omega) (by omega) (by omega) ?_
  refine nd_133 (i := i) (sz := (N 4)) (by omega) (by decide) (by decide) hi ⟨by omega, by omega⟩ (fun c12 => ?_) (fun c12 => ?_)
  · show gm_Wp X LX d _ _ 143 15 _ [] n K _ _ Q
    exact gm_r_void (pc := 15) (by decide +kernel) (by decide +kernel) (k1 (by first | assumption | omega))
  · show Q (.inr 3) n K _ _
    exact (k0 (by first | assumption | omega))
theorem nd_193 (hd : 8 ≤ d) (hb1 : 1 ≤ bc) (hb2 : 6 ≤ bs) (hE : E0 n K R) (hT : TI N h sp M) (hN : NR N) (hi : gm_ir i) (k1 : 0 ≤ i ∧ i < N 6 → Q (.inl none) n K R M) (k0 : ¬ (0 ≤ i ∧ i < N 6) → Q (.inr 3) n K R M) : gm_Wp X LX d bc bs 193 0 (gm_ent 193 [gm_vr 1, gm_vi i]) [] n K R M Q := by
  obtain ⟨⟨⟨a0, b0⟩, ⟨a1, b1⟩, ⟨a10, b10⟩, ⟨a11, b11⟩, ⟨a12, b12⟩, a9, b9⟩, ⟨⟨a2, b2⟩, ⟨a5, b5⟩, ⟨a3, b3⟩, ⟨a4, b4⟩, ⟨a6, b6⟩, ⟨a14, b14⟩, ⟨a7, b7⟩, a13, b13⟩, rF, rP, rL⟩ := id hN
  refine gm_sz (gm_p_load (pc := 0) (i := .aload_n 0) (sr := 2) (j := 0) (by decide +kernel) rfl rfl rfl) ?_
  refine gm_sz (gm_p_load (pc := 1) (i := .iload_n 1) (sr := 0) (j := 1) (by decide +kernel) rfl rfl rfl) ?_
  refine gm_sz (gm_p_load (pc := 2) (i := .aload_n 0) (sr := 2) (j := 0) (by decide +kernel) rfl rfl rfl) ?_
  refine gm_sz (fw_gr (pc := 3) (ix := 23) (ci := 0) (j := 3) (r := 3) (by decide +kernel) (e0k hE (k := 1) (c := 0) (by decide +kernel)) (by decide +kernel) (by decide +kernel) (e0r hE (k := 1) (j := 3) (r := 3) (by decide +kernel))) ?_
  refine gm_sz (fw_gr (pc := 6) (ix := 344) (ci := 1) (j := 13) (r := 12) (by decide +kernel) (e0k hE (k := 3) (c := 1) (by decide +kernel)) (by decide +kernel) (by decide +kernel) (e0r hE (k := 3) (j := 13) (r := 12) (by decide +kernel))) ?_
  refine gm_c_virt (k := 12) (ci := 2) (mj := 9) (ix := 277) (pc := 9) (as := []) (st := [gm_vi i, gm_vr 1]) (d' := d - 1) (bc' := 0) (bs' := 0) (by decide +kernel) (by decide +kernel) (by decide +kernel) (by decide +kernel) (e0k hE (k := 12) (c := 2) (by decide +kernel)).1 (e0k hE (k := 12) (c := 2) (by decide +kernel)).2 (by decide) (by decide +kernel) (show 0 = gm_na 9 by decide +kernel) fw_c0 (show 1 ≤ gm_ml 9 by decide +kernel) (Nat.le_of_ble_eq_true rfl) (by omega) (Nat.zero_le _) (Nat.zero_le _) ?_
  refine rw_size (s := N 6) (e0k hE (k := 12) (c := 2) (by decide +kernel)) (ti_tab hT) ?_
  show gm_Wp X LX d _ _ 193 12 _ [gm_vi (N 6), gm_vi i, gm_vr 1] n K _ _ Q
  refine gm_c_virt (k := 1) (ci := 0) (mj := 133) (ix := 306) (pc := 12) (as := [gm_vi i, gm_vi (N 6)]) (st := []) (d' := d - 1) (bc' := 1) (bs' := 6) (by decide +kernel) (by decide +kernel) (by decide +kernel) (by decide +kernel) (e0k hE (k := 1) (c := 0) (by decide +kernel)).1 (e0k hE (k := 1) (c := 0) (by decide +kernel)).2 (by decide) (by decide +kernel) (show 2 = gm_na 133 by decide +kernel) (fw_c2 fw_si fw_si) (show 3 ≤ gm_ml 133 by decide +kernel) (Nat.le_of_ble_eq_true rfl) (by omega) (by omega) (by omega) ?_
  refine nd_133 (i := i) (sz := (N 6)) (by omega) (by decide) (by decide) hi ⟨by omega, by omega⟩ (fun c12 => ?_) (fun c12 => ?_)
  · show gm_Wp X LX d _ _ 193 15 _ [] n K _ _ Q
    exact gm_r_void (pc := 15) (by decide +kernel) (by decide +kernel) (k1 (by first | assumption | omega))
  · show Q (.inr 3) n K _ _
    exact (k0 (by first | assumption | omega))
theorem nd_129 (hd : 8 ≤ d) (hb1 : 1 ≤ bc) (hb2 : 6 ≤ bs) (hi : gm_ir i) (k1 : 0 ≤ i ∧ i ≤ 299 → Q (.inl none) n K R M) (k0 : ¬ (0 ≤ i ∧ i ≤ 299) → Q (.inr 0) n K R M) : gm_Wp X LX d bc bs 129 0 (gm_ent 129 [gm_vr 1, gm_vi i]) [] n K R M Q := by
  refine gm_sz (gm_p_load (pc := 0) (i := .iload_n 1) (sr := 0) (j := 1) (by decide +kernel) rfl rfl rfl) ?_
  refine fw_if (cc := .lt) (pc := 1) (off := 10) (by decide +kernel) (by decide) hi (fun h1 => ?_) (fun h1 => ?_)
  · have h1 : i < 0 := h1
    exact gm_throw (ik := 121) (is := 458) (ic := 125) (x := 0) (id := 32) (lw := true) (by decide +kernel) (by decide +kernel) (by decide +kernel) (by decide +kernel) (by decide +kernel) (by decide +kernel) (by decide +kernel) (by decide +kernel) (Nat.le_of_ble_eq_true rfl) (by omega) (by omega) (by omega) (k0 (by first | assumption | omega))
  · have h1 : ¬ i < 0 := h1
    refine gm_sz (gm_p_load (pc := 4) (i := .iload_n 1) (sr := 0) (j := 1) (by decide +kernel) rfl rfl rfl) ?_
    refine gm_sz (gm_p_const (pc := 5) (i := .sipush 299) (v := gm_vi 299) (by decide +kernel) (by decide +kernel)) ?_
    refine fw_ic (cc := .le) (pc := 8) (off := 14) (by decide +kernel) (by decide) hi ⟨by decide, by decide⟩ (fun h8 => ?_) (fun h8 => ?_)
    · have h8 : i ≤ 299 := h8
      exact gm_r_void (pc := 22) (by decide +kernel) (by decide +kernel) (k1 (by first | assumption | omega))
    · have h8 : ¬ i ≤ 299 := h8
      exact gm_throw (ik := 121) (is := 458) (ic := 125) (x := 0) (id := 32) (lw := true) (by decide +kernel) (by decide +kernel) (by decide +kernel) (by decide +kernel) (by decide +kernel) (by decide +kernel) (by decide +kernel) (by decide +kernel) (Nat.le_of_ble_eq_true rfl) (by omega) (by omega) (by omega) (k0 (by first | assumption | omega))
theorem nd_214 (hd : 8 ≤ d) (hb1 : 1 ≤ bc) (hb2 : 6 ≤ bs) (hi : gm_ir i) (k1 : 1 ≤ i ∧ i ≤ 30 → Q (.inl none) n K R M) (k0 : ¬ (1 ≤ i ∧ i ≤ 30) → Q (.inr 0) n K R M) : gm_Wp X LX d bc bs 214 0 (gm_ent 214 [gm_vr 1, gm_vi i]) [] n K R M Q := by
  refine gm_sz (gm_p_load (pc := 0) (i := .iload_n 1) (sr := 0) (j := 1) (by decide +kernel) rfl rfl rfl) ?_
  refine gm_sz (gm_p_const (pc := 1) (i := .iconst 1) (v := gm_vi 1) (by decide +kernel) (by decide +kernel)) ?_
  refine fw_ic (cc := .lt) (pc := 2) (off := 9) (by decide +kernel) (by decide) hi ⟨by decide, by decide⟩ (fun h2 => ?_) (fun h2 => ?_)
  · have h2 : i < 1 := h2
    exact gm_throw (ik := 121) (is := 301) (ic := 125) (x := 0) (id := 42) (lw := true) (by decide +kernel) (by decide +kernel) (by decide +kernel) (by decide +kernel) (by decide +kernel) (by decide +kernel) (by decide +kernel) (by decide +kernel) (Nat.le_of_ble_eq_true rfl) (by omega) (by omega) (by omega) (k0 (by first | assumption | omega))
  · have h2 : ¬ i < 1 := h2
    refine gm_sz (gm_p_load (pc := 5) (i := .iload_n 1) (sr := 0) (j := 1) (by decide +kernel) rfl rfl rfl) ?_
    refine gm_sz (gm_p_const (pc := 6) (i := .bipush 30) (v := gm_vi 30) (by decide +kernel) (by decide +kernel)) ?_
    refine fw_ic (cc := .le) (pc := 8) (off := 14) (by decide +kernel) (by decide) hi ⟨by decide, by decide⟩ (fun h8 => ?_) (fun h8 => ?_)
    · have h8 : i ≤ 30 := h8
      exact gm_r_void (pc := 22) (by decide +kernel) (by decide +kernel) (k1 (by first | assumption | omega))
    · have h8 : ¬ i ≤ 30 := h8
      exact gm_throw (ik := 121) (is := 301) (ic := 125) (x := 0) (id := 42) (lw := true) (by decide +kernel) (by decide +kernel) (by decide +kernel) (by decide +kernel) (by decide +kernel) (by decide +kernel) (by decide +kernel) (by decide +kernel) (Nat.le_of_ble_eq_true rfl) (by omega) (by omega) (by omega) (k0 (by first | assumption | omega))
theorem nd_153 (hd : 8 ≤ d) (hb1 : 1 ≤ bc) (hb2 : 6 ≤ bs) (hi : gm_ir x) (hy2 : gm_ir y) (k1 : ¬ x = y → Q (.inl none) n K R M) (k0 : ¬ (¬ x = y) → Q (.inr 0) n K R M) : gm_Wp X LX d bc bs 153 0 (gm_ent 153 [gm_vr 1, gm_vi x, gm_vi y]) [] n K R M Q := by
  refine gm_sz (gm_p_load (pc := 0) (i := .iload_n 1) (sr := 0) (j := 1) (by decide +kernel) rfl rfl rfl) ?_
  refine gm_sz (gm_p_load (pc := 1) (i := .iload_n 2) (sr := 0) (j := 2) (by decide +kernel) rfl rfl rfl) ?_
  refine fw_ic (cc := .ne) (pc := 2) (off := 14) (by decide +kernel) (by decide) hi hy2 (fun h2 => ?_) (fun h2 => ?_)
  · have h2 : ¬ x = y := h2
    exact gm_r_void (pc := 16) (by decide +kernel) (by decide +kernel) (k1 (by first | assumption | omega))
  · have h2 : x = y := Classical.not_not.mp h2
    exact gm_throw (ik := 121) (is := 462) (ic := 125) (x := 0) (id := 36) (lw := true) (by decide +kernel) (by decide +kernel) (by decide +kernel) (by decide +kernel) (by decide +kernel) (by decide +kernel) (by decide +kernel) (by decide +kernel) (Nat.le_of_ble_eq_true rfl) (by omega) (by omega) (by omega) (k0 (by first | assumption | omega))
theorem nd_187 (hd : 9 ≤ d) (hb1 : 1 ≤ bc) (hb2 : 6 ≤ bs) (hb3 : 2 ≤ bc) (hb4 : 12 ≤ bs) (hE : E0 n K R) (hi : gm_ir x) (hy2 : gm_ir y) (k1 : (0 ≤ x ∧ x ≤ 299) ∧ (0 ≤ y ∧ y ≤ 99) → Q (.inl none) n K R M) (k0 : ¬ ((0 ≤ x ∧ x ≤ 299) ∧ (0 ≤ y ∧ y ≤ 99)) → Q (.inr 0) n K R M) : gm_Wp X LX d bc bs 187 0 (gm_ent 187 [gm_vr 1, gm_vi x, gm_vi y]) [] n K R M Q := by
  refine gm_sz (gm_p_load (pc := 0) (i := .aload_n 0) (sr := 2) (j := 0) (by decide +kernel) rfl rfl rfl) ?_
  refine gm_sz (gm_p_load (pc := 1) (i := .iload_n 1) (sr := 0) (j := 1) (by decide +kernel) rfl rfl rfl) ?_
  refine gm_c_virt (k := 1) (ci := 0) (mj := 129) (ix := 160) (pc := 2) (as := [gm_vi x]) (st := []) (d' := d - 1) (bc' := 1) (bs' := 6) (by decide +kernel) (by decide +kernel) (by decide +kernel) (by decide +kernel) (e0k hE (k := 1) (c := 0) (by decide +kernel)).1 (e0k hE (k := 1) (c := 0) (by decide +kernel)).2 (by decide) (by decide +kernel) (show 1 = gm_na 129 by decide +kernel) (fw_c1 fw_si) (show 2 ≤ gm_ml 129 by decide +kernel) (Nat.le_of_ble_eq_true rfl) (by omega) (by omega) (by omega) ?_
  refine nd_129 (i := x) (by omega) (by omega) (by omega) hi (fun c2 => ?_) (fun c2 => ?_)
  · show gm_Wp X LX d _ _ 187 5 _ [] n K _ _ Q
    have c2 : 0 ≤ x ∧ x ≤ 299 := c2
    refine gm_sz (gm_p_load (pc := 5) (i := .iload_n 2) (sr := 0) (j := 2) (by decide +kernel) rfl rfl rfl) ?_
    refine fw_if (cc := .lt) (pc := 6) (off := 9) (by decide +kernel) (by decide) hy2 (fun h6 => ?_) (fun h6 => ?_)
    · have h6 : y < 0 := h6
      exact gm_throw (ik := 121) (is := 460) (ic := 125) (x := 0) (id := 43) (lw := true) (by decide +kernel) (by decide +kernel) (by decide +kernel) (by decide +kernel) (by decide +kernel) (by decide +kernel) (by decide +kernel) (by decide +kernel) (Nat.le_of_ble_eq_true rfl) (by omega) (by omega) (by omega) (k0 (by first | assumption | omega))
    · have h6 : ¬ y < 0 := h6
      refine gm_sz (gm_p_load (pc := 9) (i := .iload_n 2) (sr := 0) (j := 2) (by decide +kernel) rfl rfl rfl) ?_
      refine gm_sz (gm_p_const (pc := 10) (i := .bipush 99) (v := gm_vi 99) (by decide +kernel) (by decide +kernel)) ?_
      refine fw_ic (cc := .le) (pc := 12) (off := 14) (by decide +kernel) (by decide) hy2 ⟨by decide, by decide⟩ (fun h12 => ?_) (fun h12 => ?_)
      · have h12 : y ≤ 99 := h12
        exact gm_r_void (pc := 26) (by decide +kernel) (by decide +kernel) (k1 (by first | assumption | omega))
      · have h12 : ¬ y ≤ 99 := h12
        exact gm_throw (ik := 121) (is := 460) (ic := 125) (x := 0) (id := 43) (lw := true) (by decide +kernel) (by decide +kernel) (by decide +kernel) (by decide +kernel) (by decide +kernel) (by decide +kernel) (by decide +kernel) (by decide +kernel) (Nat.le_of_ble_eq_true rfl) (by omega) (by omega) (by omega) (k0 (by first | assumption | omega))
  · show Q (.inr 0) n K _ _
    have c2 : ¬ (0 ≤ x ∧ x ≤ 299) := c2
    exact (k0 (by first | assumption | omega))
end HS12
end
/-! 7a23.c13ac -/
section
/-! THE CLASS'S ACTS (laid by wip/core/c13.py). -/
theorem ks8_e : (List.range 12).all (fun p => (p2_O.2.1 (44 + 13 * p) 8).isNone) = true := by decide +kernel
theorem e0h {n : Nat} {K : gm_K} {R : gm_R} (hE : E0 n K R) {p v : Nat} (hp : p < 12) : E0 n K (gm_uR R (44 + 13 * p) 8 v) := e0u hE (Option.isNone_iff_eq_none.mp (List.all_eq_true.mp ks8_e p (List.mem_range.mpr hp)))
theorem e0h3 {n : Nat} {K : gm_K} {R : gm_R} (hE : E0 n K R) {v : Nat} : E0 n K (gm_uR R 3 8 v) := e0u hE (by decide +kernel)
theorem e0h29 {n : Nat} {K : gm_K} {R : gm_R} (hE : E0 n K R) {v : Nat} : E0 n K (gm_uR R 29 8 v) := e0u hE (by decide +kernel)
theorem his_w {A : List (Int → Int)} {M M2 : gm_M} {W : List (Nat × Option Int)} (h : HIS A M) (hf : fr W M M2) (hw : W.all (fun w => !(decide (42 ≤ w.1) && decide (w.1 ≤ 199))) = true) : HIS A M2 := his_fr h fun x j x1 x2 => hf x j (fun hm => by have := List.all_eq_true.mp hw _ hm; simp at this; omega) (fun hm => by have := List.all_eq_true.mp hw _ hm; simp at this; omega)
theorem cs_th_fr {M : gm_M} {f t l r : Int} : fr [(10, some 3), (11, none)] M (cs_th3 M f t l r) := by
  unfold cs_th3
  exact fr_p (fr_p (fr_p (fr_p (fr_p (fr_p (fr_p (fr_p fr_0 (Or.inr (by decide))) (Or.inl (by decide))) (Or.inl (by decide))) (Or.inl (by decide))) (Or.inl (by decide))) (Or.inl (by decide))) (Or.inl (by decide))) (Or.inl (by decide))
section AC13
variable {X : Int → Int} {LX d bc bs n : Nat} {K : gm_K} {R : gm_R} {M : gm_M} {Q : gm_Q} {l p f t v w : Int} {N h : Int → Int} {sp : Int → Int → Int} {FI : gm_M → Prop} {φ : Int → Int → Int → Int} {Ψ : (Int → Int) → Int → Int → Int → Int → Prop} {o dd : Int → Int} {A : List (Int → Int)}
theorem ac_152 (hd : 12 ≤ d) (hbc : 4 ≤ bc) (hbs : 24 ≤ bs) (hE : E0 n K R) (hT : TI N h sp M) (hN : NR N) (hH : HIS A M) (hf : gm_ir f) (ht : gm_ir t) (q3 : ¬ ((0 ≤ f ∧ f < N 3) ∧ (0 ≤ t ∧ t < N 3)) → Q (.inr 3) n K R M) (q0 : 0 ≤ f ∧ f < N 3 → 0 ≤ t ∧ t < N 3 → f = t → Q (.inr 0) n K R M) (q1 : 0 ≤ f ∧ f < N 3 → 0 ≤ t ∧ t < N 3 → ¬ f = t → N 4 = 24 → Q (.inr 1) n K R M) (hq : 0 ≤ f ∧ f < N 3 → 0 ≤ t ∧ t < N 3 → ¬ f = t → N 4 < 24 → ∀ (p : Nat) (M2 : gm_M), p < 12 → (M 42 1 = (p : Int) ∧ M2 42 1 = ((p : Int) + 1) % 12) → HIS ((N :: A).take 12) M2 → CST M2 → cs M2 3 = nthr N f t ((N (95 + (f * 3 + 0)))) ((N (95 + (f * 3 + 1)))) → M2 1 15 = 0 → (∀ (x : Nat) (j : Int), x < 42 ∨ 199 < x → ¬ x = 10 → ¬ x = 11 → ¬ (x = 1 ∧ j = 15) → M2 x j = M x j) → Q (.inl (some (gm_vi (N 4)))) n K (gm_uR R (44 + 13 * p) 8 (R 3 8)) M2) : gm_Wp X LX d bc bs 152 0 (gm_ent 152 [gm_vr 1, gm_vi f, gm_vi t]) [] n K R M Q := by
  obtain ⟨⟨⟨a0, b0⟩, ⟨a1, b1⟩, ⟨a10, b10⟩, ⟨a11, b11⟩, ⟨a12, b12⟩, a9, b9⟩, ⟨⟨a2, b2⟩, ⟨a5, b5⟩, ⟨a3, b3⟩, ⟨a4, b4⟩, ⟨a6, b6⟩, ⟨a14, b14⟩, ⟨a7, b7⟩, a13, b13⟩, rF, rP, rL⟩ := id hN
  refine gm_sz (gm_p_load (pc := 0) (i := .aload_n 0) (sr := 2) (j := 0) (by decide +kernel) rfl rfl rfl) ?_
  refine gm_sz (gm_p_load (pc := 1) (i := .iload_n 1) (sr := 0) (j := 1) (by decide +kernel) rfl rfl rfl) ?_
  refine gm_c_virt (k := 1) (ci := 0) (mj := 139) (ix := 180) (pc := 2) (as := [gm_vi f]) (st := []) (d' := d - 1) (bc' := 1) (bs' := 6) (by decide +kernel) (by decide +kernel) (by decide +kernel) (by decide +kernel) (e0k hE (k := 1) (c := 0) (by decide +kernel)).1 (e0k hE (k := 1) (c := 0) (by decide +kernel)).2 (by decide) (by decide +kernel) (show 1 = gm_na 139 by decide +kernel) (fw_c1 fw_si) (show 2 ≤ gm_ml 139 by decide +kernel) (Nat.le_of_ble_eq_true rfl) (by omega) (by omega) (by omega) ?_
  refine nd_139 (i := f) (by omega) (by omega) (by omega) hE hT hN hf (fun c2 => ?_) (fun c2 => ?_)
  · show gm_Wp X LX d _ _ 152 5 _ [] n K _ _ Q
    have c2 : 0 ≤ f ∧ f < N 3 := c2
    refine gm_sz (gm_p_load (pc := 5) (i := .aload_n 0) (sr := 2) (j := 0) (by decide +kernel) rfl rfl rfl) ?_
    refine gm_sz (gm_p_load (pc := 6) (i := .iload_n 2) (sr := 0) (j := 2) (by decide +kernel) rfl rfl rfl) ?_
    refine gm_c_virt (k := 1) (ci := 0) (mj := 139) (ix := 180) (pc := 7) (as := [gm_vi t]) (st := []) (d' := d - 1) (bc' := 1) (bs' := 6) (by decide +kernel) (by decide +kernel) (by decide +kernel) (by decide +kernel) (e0k hE (k := 1) (c := 0) (by decide +kernel)).1 (e0k hE (k := 1) (c := 0) (by decide +kernel)).2 (by decide) (by decide +kernel) (show 1 = gm_na 139 by decide +kernel) (fw_c1 fw_si) (show 2 ≤ gm_ml 139 by decide +kernel) (Nat.le_of_ble_eq_true rfl) (by omega) (by omega) (by omega) ?_
    refine nd_139 (i := t) (by omega) (by omega) (by omega) hE hT hN ht (fun c7 => ?_) (fun c7 => ?_)
    · show gm_Wp X LX d _ _ 152 10 _ [] n K _ _ Q
      have c7 : 0 ≤ t ∧ t < N 3 := c7
      refine gm_sz (gm_p_load (pc := 10) (i := .aload_n 0) (sr := 2) (j := 0) (by decide +kernel) rfl rfl rfl) ?_
      refine gm_sz (gm_p_load (pc := 11) (i := .iload_n 1) (sr := 0) (j := 1) (by decide +kernel) rfl rfl rfl) ?_
      refine gm_sz (gm_p_load (pc := 12) (i := .iload_n 2) (sr := 0) (j := 2) (by decide +kernel) rfl rfl rfl) ?_
      refine gm_c_virt (k := 1) (ci := 0) (mj := 153) (ix := 234) (pc := 13) (as := [gm_vi f, gm_vi t]) (st := []) (d' := d - 1) (bc' := 1) (bs' := 6) (by decide +kernel) (by decide +kernel) (by decide +kernel) (by decide +kernel) (e0k hE (k := 1) (c := 0) (by decide +kernel)).1 (e0k hE (k := 1) (c := 0) (by decide +kernel)).2 (by decide) (by decide +kernel) (show 2 = gm_na 153 by decide +kernel) (fw_c2 fw_si fw_si) (show 3 ≤ gm_ml 153 by decide +kernel) (Nat.le_of_ble_eq_true rfl) (by omega) (by omega) (by omega) ?_
      refine nd_153 (x := f) (y := t) (by omega) (by omega) (by omega) hf ht (fun c13 => ?_) (fun c13 => ?_)
      · show gm_Wp X LX d _ _ 152 16 _ [] n K _ _ Q
        have c13 : ¬ f = t := c13
        refine gm_sz (gm_p_load (pc := 16) (i := .aload_n 0) (sr := 2) (j := 0) (by decide +kernel) rfl rfl rfl) ?_
        refine gm_sz (fw_gr (pc := 17) (ix := 23) (ci := 0) (j := 3) (r := 3) (by decide +kernel) (e0k hE (k := 1) (c := 0) (by decide +kernel)) (by decide +kernel) (by decide +kernel) (e0r hE (k := 1) (j := 3) (r := 3) (by decide +kernel))) ?_
        refine gm_sz (fw_gr (pc := 20) (ix := 203) (ci := 1) (j := 12) (r := 10) (by decide +kernel) (e0k hE (k := 3) (c := 1) (by decide +kernel)) (by decide +kernel) (by decide +kernel) (e0r hE (k := 3) (j := 12) (r := 10) (by decide +kernel))) ?_
        refine gm_c_virt (k := 10) (ci := 2) (mj := 108) (ix := 237) (pc := 23) (as := []) (st := []) (d' := d - 1) (bc' := 0) (bs' := 0) (by decide +kernel) (by decide +kernel) (by decide +kernel) (by decide +kernel) (e0k hE (k := 10) (c := 2) (by decide +kernel)).1 (e0k hE (k := 10) (c := 2) (by decide +kernel)).2 (by decide) (by decide +kernel) (show 0 = gm_na 108 by decide +kernel) fw_c0 (show 1 ≤ gm_ml 108 by decide +kernel) (Nat.le_of_ble_eq_true rfl) (by omega) (Nat.zero_le _) (Nat.zero_le _) ?_
        refine rw_full (s := N 4) (m := 24) (e0k hE (k := 10) (c := 2) (by decide +kernel)) (ti_let hT) (hT.1 (10, 0, 24) (by decide)) ⟨⟨by omega, by omega⟩, ⟨by decide, by decide⟩⟩ (fun f23 => ?_) (fun f23 => ?_)
        · show gm_Wp X LX d _ _ 152 26 _ [gm_vi 1] n K _ _ Q
          have f23 : 24 ≤ N 4 := f23
          refine fw_iffd (cc := .eq) (pc := 26) (off := 13) (by decide +kernel) (by decide) ⟨by decide, by decide⟩ (by decide) ?_
          exact gm_throw (ik := 131) (is := 241) (ic := 135) (x := 1) (id := 37) (lw := false) (by decide +kernel) (by decide +kernel) (by decide +kernel) (by decide +kernel) (by decide +kernel) (by decide +kernel) (by decide +kernel) (by decide +kernel) (Nat.le_of_ble_eq_true rfl) (by omega) (by omega) (by omega) (q1 (by omega) (by omega) (by omega) (by omega))
        · show gm_Wp X LX d _ _ 152 26 _ [gm_vi 0] n K _ _ Q
          have f23 : N 4 < 24 := f23
          refine fw_iftd (cc := .eq) (pc := 26) (off := 13) (by decide +kernel) (by decide) ⟨by decide, by decide⟩ (by decide) ?_
          refine gm_sz (gm_p_load (pc := 39) (i := .aload_n 0) (sr := 2) (j := 0) (by decide +kernel) rfl rfl rfl) ?_
          refine gm_sz (fw_gr (pc := 40) (ix := 40) (ci := 0) (j := 7) (r := 42) (by decide +kernel) (e0k hE (k := 1) (c := 0) (by decide +kernel)) (by decide +kernel) (by decide +kernel) (e0r hE (k := 1) (j := 7) (r := 42) (by decide +kernel))) ?_
          refine gm_sz (gm_p_load (pc := 43) (i := .aload_n 0) (sr := 2) (j := 0) (by decide +kernel) rfl rfl rfl) ?_
          refine gm_sz (fw_gr (pc := 44) (ix := 23) (ci := 0) (j := 3) (r := 3) (by decide +kernel) (e0k hE (k := 1) (c := 0) (by decide +kernel)) (by decide +kernel) (by decide +kernel) (e0r hE (k := 1) (j := 3) (r := 3) (by decide +kernel))) ?_
          refine gm_c_virt (k := 42) (ci := 3) (mj := 154) (ix := 243) (pc := 47) (as := [gm_vr 3]) (st := []) (d' := d - 1) (bc' := 0) (bs' := 0) (by decide +kernel) (by decide +kernel) (by decide +kernel) (by decide +kernel) (e0k hE (k := 42) (c := 3) (by decide +kernel)).1 (e0k hE (k := 42) (c := 3) (by decide +kernel)).2 (by decide) (by decide +kernel) (show 1 = gm_na 154 by decide +kernel) (fw_c1 fw_sr) (show 2 ≤ gm_ml 154 by decide +kernel) (Nat.le_of_ble_eq_true rfl) (by omega) (Nat.zero_le _) (Nat.zero_le _) ?_
          refine rem_c154 (by omega) hE hT hN hH (fun p47 M47 hp47 hk47 hs47 ht47 hx47 => ?_)
          show gm_Wp X LX d _ _ 152 50 _ [] n K _ _ Q
          refine gm_sz (gm_p_load (pc := 50) (i := .aload_n 0) (sr := 2) (j := 0) (by decide +kernel) rfl rfl rfl) ?_
          refine gm_sz (gm_p_const (pc := 51) (i := .iconst 0) (v := gm_vi 0) (by decide +kernel) (by decide +kernel)) ?_
          refine gm_sz (fw_pz (pc := 52) (ix := 101) (ci := 0) (j := 15) (M' := gm_uM M47 1 15 0) (by decide +kernel) (e0k hE (k := 1) (c := 0) (by decide +kernel)) (by decide +kernel) (by decide +kernel) (by decide +kernel) (Or.inl rfl) rfl) ?_
          refine gm_sz (gm_p_load (pc := 55) (i := .aload_n 0) (sr := 2) (j := 0) (by decide +kernel) rfl rfl rfl) ?_
          refine gm_sz (fw_gr (pc := 56) (ix := 23) (ci := 0) (j := 3) (r := 3) (by decide +kernel) (e0k hE (k := 1) (c := 0) (by decide +kernel)) (by decide +kernel) (by decide +kernel) (e0r (e0h hE (v := R 3 8) hp47) (k := 1) (j := 3) (r := 3) (by decide +kernel))) ?_
          refine gm_sz (gm_p_load (pc := 59) (i := .iload_n 1) (sr := 0) (j := 1) (by decide +kernel) rfl rfl rfl) ?_
          refine gm_sz (gm_p_load (pc := 60) (i := .iload_n 2) (sr := 0) (j := 2) (by decide +kernel) rfl rfl rfl) ?_
          refine gm_sz (gm_p_load (pc := 61) (i := .aload_n 0) (sr := 2) (j := 0) (by decide +kernel) rfl rfl rfl) ?_
          refine gm_sz (fw_gr (pc := 62) (ix := 23) (ci := 0) (j := 3) (r := 3) (by decide +kernel) (e0k hE (k := 1) (c := 0) (by decide +kernel)) (by decide +kernel) (by decide +kernel) (e0r (e0h hE (v := R 3 8) hp47) (k := 1) (j := 3) (r := 3) (by decide +kernel))) ?_
          refine gm_sz (fw_gr (pc := 65) (ix := 183) (ci := 1) (j := 11) (r := 8) (by decide +kernel) (e0k hE (k := 3) (c := 1) (by decide +kernel)) (by decide +kernel) (by decide +kernel) (e0r (e0h hE (v := R 3 8) hp47) (k := 3) (j := 11) (r := 8) (by decide +kernel))) ?_
          refine gm_sz (gm_p_load (pc := 68) (i := .iload_n 1) (sr := 0) (j := 1) (by decide +kernel) rfl rfl rfl) ?_
          refine gm_sz (gm_p_const (pc := 69) (i := .iconst 0) (v := gm_vi 0) (by decide +kernel) (by decide +kernel)) ?_
          refine gm_c_virt (k := 8) (ci := 2) (mj := 10) (ix := 186) (pc := 70) (as := [gm_vi f, gm_vi 0]) (st := [gm_vi t, gm_vi f, gm_vr 3]) (d' := d - 1) (bc' := 0) (bs' := 0) (by decide +kernel) (by decide +kernel) (by decide +kernel) (by decide +kernel) (e0k hE (k := 8) (c := 2) (by decide +kernel)).1 (e0k hE (k := 8) (c := 2) (by decide +kernel)).2 (by decide) (by decide +kernel) (show 2 = gm_na 10 by decide +kernel) (fw_c2 fw_si fw_si) (show 3 ≤ gm_ml 10 by decide +kernel) (Nat.le_of_ble_eq_true rfl) (by omega) (Nat.zero_le _) (Nat.zero_le _) ?_
          refine rw_get (s := N 3) (w := 3) (x := N (95 + (f * 3 + 0))) (e0k (e0h hE (v := R 3 8) hp47) (k := 8) (c := 2) (by decide +kernel)) (e0a (e0h hE (v := R 3 8) hp47) (k := 9) (q := (0, 24)) (by decide +kernel)) (e0r (e0h hE (v := R 3 8) hp47) (k := 8) (j := 2) (r := 9) (by decide +kernel)) (by decide) ((uM_ne (by omega)).trans ((hx47 _ _ (by omega)).trans (ti_peo hT))) ((uM_ne (by omega)).trans ((hx47 _ _ (by omega)).trans (hT.1 (8, 1, 3) (by decide)))) ⟨by omega, by omega⟩ ⟨by omega, by omega⟩ ⟨by omega, by omega⟩ ⟨by omega, by omega⟩ ((uM_ne (by omega)).trans ((hx47 _ _ (by omega)).trans (ti_aP hT (by omega) (by omega)))) ?_
          show gm_Wp X LX d _ _ 152 73 _ [gm_vi (N (95 + (f * 3 + 0))), gm_vi t, gm_vi f, gm_vr 3] n K _ _ Q
          refine gm_sz (gm_p_load (pc := 73) (i := .aload_n 0) (sr := 2) (j := 0) (by decide +kernel) rfl rfl rfl) ?_
          refine gm_sz (fw_gr (pc := 74) (ix := 23) (ci := 0) (j := 3) (r := 3) (by decide +kernel) (e0k hE (k := 1) (c := 0) (by decide +kernel)) (by decide +kernel) (by decide +kernel) (e0r (e0h hE (v := R 3 8) hp47) (k := 1) (j := 3) (r := 3) (by decide +kernel))) ?_
          refine gm_sz (fw_gr (pc := 77) (ix := 183) (ci := 1) (j := 11) (r := 8) (by decide +kernel) (e0k hE (k := 3) (c := 1) (by decide +kernel)) (by decide +kernel) (by decide +kernel) (e0r (e0h hE (v := R 3 8) hp47) (k := 3) (j := 11) (r := 8) (by decide +kernel))) ?_
          refine gm_sz (gm_p_load (pc := 80) (i := .iload_n 1) (sr := 0) (j := 1) (by decide +kernel) rfl rfl rfl) ?_
          refine gm_sz (gm_p_const (pc := 81) (i := .iconst 1) (v := gm_vi 1) (by decide +kernel) (by decide +kernel)) ?_
          refine gm_c_virt (k := 8) (ci := 2) (mj := 10) (ix := 186) (pc := 82) (as := [gm_vi f, gm_vi 1]) (st := [gm_vi (N (95 + (f * 3 + 0))), gm_vi t, gm_vi f, gm_vr 3]) (d' := d - 1) (bc' := 0) (bs' := 0) (by decide +kernel) (by decide +kernel) (by decide +kernel) (by decide +kernel) (e0k hE (k := 8) (c := 2) (by decide +kernel)).1 (e0k hE (k := 8) (c := 2) (by decide +kernel)).2 (by decide) (by decide +kernel) (show 2 = gm_na 10 by decide +kernel) (fw_c2 fw_si fw_si) (show 3 ≤ gm_ml 10 by decide +kernel) (Nat.le_of_ble_eq_true rfl) (by omega) (Nat.zero_le _) (Nat.zero_le _) ?_
          refine rw_get (s := N 3) (w := 3) (x := N (95 + (f * 3 + 1))) (e0k (e0h hE (v := R 3 8) hp47) (k := 8) (c := 2) (by decide +kernel)) (e0a (e0h hE (v := R 3 8) hp47) (k := 9) (q := (0, 24)) (by decide +kernel)) (e0r (e0h hE (v := R 3 8) hp47) (k := 8) (j := 2) (r := 9) (by decide +kernel)) (by decide) ((uM_ne (by omega)).trans ((hx47 _ _ (by omega)).trans (ti_peo hT))) ((uM_ne (by omega)).trans ((hx47 _ _ (by omega)).trans (hT.1 (8, 1, 3) (by decide)))) ⟨by omega, by omega⟩ ⟨by omega, by omega⟩ ⟨by omega, by omega⟩ ⟨by omega, by omega⟩ ((uM_ne (by omega)).trans ((hx47 _ _ (by omega)).trans (ti_aP hT (by omega) (by omega)))) ?_
          show gm_Wp X LX d _ _ 152 85 _ [gm_vi (N (95 + (f * 3 + 1))), gm_vi (N (95 + (f * 3 + 0))), gm_vi t, gm_vi f, gm_vr 3] n K _ _ Q
          refine gm_c_virt (k := 3) (ci := 1) (mj := 119) (ix := 246) (pc := 85) (as := [gm_vi f, gm_vi t, gm_vi (N (95 + (f * 3 + 0))), gm_vi (N (95 + (f * 3 + 1)))]) (st := []) (d' := d - 1) (bc' := 0) (bs' := 0) (by decide +kernel) (by decide +kernel) (by decide +kernel) (by decide +kernel) (e0k hE (k := 3) (c := 1) (by decide +kernel)).1 (e0k hE (k := 3) (c := 1) (by decide +kernel)).2 (by decide) (by decide +kernel) (show 4 = gm_na 119 by decide +kernel) (fw_c4 fw_si fw_si fw_si fw_si) (show 5 ≤ gm_ml 119 by decide +kernel) (Nat.le_of_ble_eq_true rfl) (by omega) (Nat.zero_le _) (Nat.zero_le _) ?_
          refine cs_thr3 (by omega) (e0h hE (v := R 3 8) hp47) (cst_fr (W := [(1, some 15)]) ht47.1 (fr_p fr_0 (Or.inr (by decide))) (by decide +kernel)) (by rw [ti_let (ti_fr (W := [(1, some 15)]) ht47 (fr_p fr_0 (Or.inr (by decide))) (by decide) (by decide +kernel))]; omega) ?_
          show gm_Wp X LX d _ _ 152 88 _ [gm_vi ((gm_uM M47 1 15 0) 10 3)] n K _ _ Q
          rw [show (gm_uM M47 1 15 0) 10 3 = N 4 from ti_let (ti_fr (W := [(1, some 15)]) ht47 (fr_p fr_0 (Or.inr (by decide))) (by decide) (by decide +kernel))]
          refine gm_r_int (pc := 88) (by decide +kernel) (Or.inl (by decide +kernel)) (hq ⟨by omega, by omega⟩ ⟨by omega, by omega⟩ (by omega) (by omega) p47 (cs_th3 (gm_uM M47 1 15 0) f t (N (95 + (f * 3 + 0))) (N (95 + (f * 3 + 1)))) hp47 ⟨hk47.1, (((fr_c cs_th_fr (by decide)).trans ((uM_ne (by omega)).trans rfl))).trans hk47.2⟩ (his_w (W := [(1, some 15), (10, some 3), (11, none)]) hs47 (fr_t (fr_p fr_0 (Or.inr (by decide))) cs_th_fr (by decide)) (by decide)) (cst_fr (W := [(1, some 15), (10, some 3), (11, none)]) ht47.1 (fr_t (fr_p fr_0 (Or.inr (by decide))) cs_th_fr (by decide)) (by decide +kernel)) (cs_th_n (ti_fr (W := [(1, some 15)]) ht47 (fr_p fr_0 (Or.inr (by decide))) (by decide) (by decide +kernel)).2.1 ⟨by omega, by omega⟩) ((fr_c cs_th_fr (by decide)).trans uM_at) (fun x j hx h10 h11 h15 => ?_))
          exact ((cs_th_fr x j (by intro hm; simp at hm; omega) (by intro hm; simp at hm; omega)).trans ((uM_ne (fun hh => h15 ⟨hh.1, hh.2⟩)).trans (hx47 x j hx)))
      · show Q (.inr 0) n K _ _
        have c13 : f = t := Classical.not_not.mp c13
        exact (q0 (by omega) (by omega) (by omega))
    · show Q (.inr 3) n K _ _
      have c7 : ¬ (0 ≤ t ∧ t < N 3) := c7
      exact (q3 (by omega))
  · show Q (.inr 3) n K _ _
    have c2 : ¬ (0 ≤ f ∧ f < N 3) := c2
    exact (q3 (by omega))
theorem ac_156 (hd : 12 ≤ d) (hbc : 4 ≤ bc) (hbs : 24 ≤ bs) (hE : E0 n K R) (hT : TI N h sp M) (hN : NR N) (hH : HIS A M) (hf : gm_ir p) (ht : gm_ir l) (q3 : ¬ ((0 ≤ p ∧ p < N 3) ∧ (l = -1 ∨ (0 ≤ l ∧ l < N 0))) → Q (.inr 3) n K R M) (hq : 0 ≤ p ∧ p < N 3 → (l = -1 ∨ (0 ≤ l ∧ l < N 0)) → ∀ (p9 : Nat) (M2 : gm_M), p9 < 12 → (M 42 1 = (p9 : Int) ∧ M2 42 1 = ((p9 : Int) + 1) % 12) → HIS ((N :: A).take 12) M2 → CST M2 → cs M2 3 = nwat N p l → (∀ (x : Nat) (j : Int), x < 42 ∨ 199 < x → ¬ x = 9 → M2 x j = M x j) → Q (.inl (some (gm_vi ((N (95 + (p * 3 + 2))))))) n K (gm_uR R (44 + 13 * p9) 8 (R 3 8)) M2) : gm_Wp X LX d bc bs 156 0 (gm_ent 156 [gm_vr 1, gm_vi p, gm_vi l]) [] n K R M Q := by
  obtain ⟨⟨⟨a0, b0⟩, ⟨a1, b1⟩, ⟨a10, b10⟩, ⟨a11, b11⟩, ⟨a12, b12⟩, a9, b9⟩, ⟨⟨a2, b2⟩, ⟨a5, b5⟩, ⟨a3, b3⟩, ⟨a4, b4⟩, ⟨a6, b6⟩, ⟨a14, b14⟩, ⟨a7, b7⟩, a13, b13⟩, rF, rP, rL⟩ := id hN
  refine gm_sz (gm_p_load (pc := 0) (i := .aload_n 0) (sr := 2) (j := 0) (by decide +kernel) rfl rfl rfl) ?_
  refine gm_sz (gm_p_load (pc := 1) (i := .iload_n 1) (sr := 0) (j := 1) (by decide +kernel) rfl rfl rfl) ?_
  refine gm_c_virt (k := 1) (ci := 0) (mj := 139) (ix := 180) (pc := 2) (as := [gm_vi p]) (st := []) (d' := d - 1) (bc' := 1) (bs' := 6) (by decide +kernel) (by decide +kernel) (by decide +kernel) (by decide +kernel) (e0k hE (k := 1) (c := 0) (by decide +kernel)).1 (e0k hE (k := 1) (c := 0) (by decide +kernel)).2 (by decide) (by decide +kernel) (show 1 = gm_na 139 by decide +kernel) (fw_c1 fw_si) (show 2 ≤ gm_ml 139 by decide +kernel) (Nat.le_of_ble_eq_true rfl) (by omega) (by omega) (by omega) ?_
  refine nd_139 (i := p) (by omega) (by omega) (by omega) hE hT hN hf (fun c2 => ?_) (fun c2 => ?_)
  · show gm_Wp X LX d _ _ 156 5 _ [] n K _ _ Q
    have c2 : 0 ≤ p ∧ p < N 3 := c2
    refine gm_sz (gm_p_load (pc := 5) (i := .iload_n 2) (sr := 0) (j := 2) (by decide +kernel) rfl rfl rfl) ?_
    refine gm_sz (gm_p_const (pc := 6) (i := .iconst (-1)) (v := gm_vi (-1)) (by decide +kernel) (by decide +kernel)) ?_
    refine fw_ic (cc := .eq) (pc := 7) (off := 8) (by decide +kernel) (by decide) ht ⟨by decide, by decide⟩ (fun h7 => ?_) (fun h7 => ?_)
    · have h7 : l = (-1) := h7
      refine gm_sz (gm_p_load (pc := 15) (i := .aload_n 0) (sr := 2) (j := 0) (by decide +kernel) rfl rfl rfl) ?_
      refine gm_sz (fw_gr (pc := 16) (ix := 40) (ci := 0) (j := 7) (r := 42) (by decide +kernel) (e0k hE (k := 1) (c := 0) (by decide +kernel)) (by decide +kernel) (by decide +kernel) (e0r hE (k := 1) (j := 7) (r := 42) (by decide +kernel))) ?_
      refine gm_sz (gm_p_load (pc := 19) (i := .aload_n 0) (sr := 2) (j := 0) (by decide +kernel) rfl rfl rfl) ?_
      refine gm_sz (fw_gr (pc := 20) (ix := 23) (ci := 0) (j := 3) (r := 3) (by decide +kernel) (e0k hE (k := 1) (c := 0) (by decide +kernel)) (by decide +kernel) (by decide +kernel) (e0r hE (k := 1) (j := 3) (r := 3) (by decide +kernel))) ?_
      refine gm_c_virt (k := 42) (ci := 3) (mj := 154) (ix := 243) (pc := 23) (as := [gm_vr 3]) (st := []) (d' := d - 1) (bc' := 0) (bs' := 0) (by decide +kernel) (by decide +kernel) (by decide +kernel) (by decide +kernel) (e0k hE (k := 42) (c := 3) (by decide +kernel)).1 (e0k hE (k := 42) (c := 3) (by decide +kernel)).2 (by decide) (by decide +kernel) (show 1 = gm_na 154 by decide +kernel) (fw_c1 fw_sr) (show 2 ≤ gm_ml 154 by decide +kernel) (Nat.le_of_ble_eq_true rfl) (by omega) (Nat.zero_le _) (Nat.zero_le _) ?_
      refine rem_c154 (by omega) hE hT hN hH (fun p23 M23 hp23 hk23 hs23 ht23 hx23 => ?_)
      show gm_Wp X LX d _ _ 156 26 _ [] n K _ _ Q
      refine gm_sz (gm_p_load (pc := 26) (i := .aload_n 0) (sr := 2) (j := 0) (by decide +kernel) rfl rfl rfl) ?_
      refine gm_sz (fw_gr (pc := 27) (ix := 23) (ci := 0) (j := 3) (r := 3) (by decide +kernel) (e0k hE (k := 1) (c := 0) (by decide +kernel)) (by decide +kernel) (by decide +kernel) (e0r (e0h hE (v := R 3 8) hp23) (k := 1) (j := 3) (r := 3) (by decide +kernel))) ?_
      refine gm_sz (fw_gr (pc := 30) (ix := 183) (ci := 1) (j := 11) (r := 8) (by decide +kernel) (e0k hE (k := 3) (c := 1) (by decide +kernel)) (by decide +kernel) (by decide +kernel) (e0r (e0h hE (v := R 3 8) hp23) (k := 3) (j := 11) (r := 8) (by decide +kernel))) ?_
      refine gm_sz (gm_p_load (pc := 33) (i := .iload_n 1) (sr := 0) (j := 1) (by decide +kernel) rfl rfl rfl) ?_
      refine gm_sz (gm_p_const (pc := 34) (i := .iconst 2) (v := gm_vi 2) (by decide +kernel) (by decide +kernel)) ?_
      refine gm_c_virt (k := 8) (ci := 2) (mj := 10) (ix := 186) (pc := 35) (as := [gm_vi p, gm_vi 2]) (st := []) (d' := d - 1) (bc' := 0) (bs' := 0) (by decide +kernel) (by decide +kernel) (by decide +kernel) (by decide +kernel) (e0k hE (k := 8) (c := 2) (by decide +kernel)).1 (e0k hE (k := 8) (c := 2) (by decide +kernel)).2 (by decide) (by decide +kernel) (show 2 = gm_na 10 by decide +kernel) (fw_c2 fw_si fw_si) (show 3 ≤ gm_ml 10 by decide +kernel) (Nat.le_of_ble_eq_true rfl) (by omega) (Nat.zero_le _) (Nat.zero_le _) ?_
      refine rw_get (s := N 3) (w := 3) (x := N (95 + (p * 3 + 2))) (e0k (e0h hE (v := R 3 8) hp23) (k := 8) (c := 2) (by decide +kernel)) (e0a (e0h hE (v := R 3 8) hp23) (k := 9) (q := (0, 24)) (by decide +kernel)) (e0r (e0h hE (v := R 3 8) hp23) (k := 8) (j := 2) (r := 9) (by decide +kernel)) (by decide) ((hx23 _ _ (by omega)).trans (ti_peo hT)) ((hx23 _ _ (by omega)).trans (hT.1 (8, 1, 3) (by decide))) ⟨by omega, by omega⟩ ⟨by omega, by omega⟩ ⟨by omega, by omega⟩ ⟨by omega, by omega⟩ ((hx23 _ _ (by omega)).trans (ti_aP hT (by omega) (by omega))) ?_
      show gm_Wp X LX d _ _ 156 38 _ [gm_vi (N (95 + (p * 3 + 2)))] n K _ _ Q
      refine gm_sz (gm_p_stor (pc := 38) (i := .istore_n 3) (sr := 0) (j := 3) (by decide +kernel) rfl (show 4 ≤ _ from Nat.le_of_ble_eq_true rfl) rfl) ?_
      refine gm_sz (gm_p_load (pc := 39) (i := .aload_n 0) (sr := 2) (j := 0) (by decide +kernel) rfl rfl rfl) ?_
      refine gm_sz (fw_gr (pc := 40) (ix := 23) (ci := 0) (j := 3) (r := 3) (by decide +kernel) (e0k hE (k := 1) (c := 0) (by decide +kernel)) (by decide +kernel) (by decide +kernel) (e0r (e0h hE (v := R 3 8) hp23) (k := 1) (j := 3) (r := 3) (by decide +kernel))) ?_
      refine gm_sz (fw_gr (pc := 43) (ix := 183) (ci := 1) (j := 11) (r := 8) (by decide +kernel) (e0k hE (k := 3) (c := 1) (by decide +kernel)) (by decide +kernel) (by decide +kernel) (e0r (e0h hE (v := R 3 8) hp23) (k := 3) (j := 11) (r := 8) (by decide +kernel))) ?_
      refine gm_sz (gm_p_load (pc := 46) (i := .iload_n 1) (sr := 0) (j := 1) (by decide +kernel) rfl rfl rfl) ?_
      refine gm_sz (gm_p_const (pc := 47) (i := .iconst 2) (v := gm_vi 2) (by decide +kernel) (by decide +kernel)) ?_
      refine gm_sz (gm_p_load (pc := 48) (i := .iload_n 2) (sr := 0) (j := 2) (by decide +kernel) rfl rfl rfl) ?_
      refine gm_c_virt (k := 8) (ci := 2) (mj := 45) (ix := 250) (pc := 49) (as := [gm_vi p, gm_vi 2, gm_vi l]) (st := []) (d' := d - 1) (bc' := 0) (bs' := 0) (by decide +kernel) (by decide +kernel) (by decide +kernel) (by decide +kernel) (e0k hE (k := 8) (c := 2) (by decide +kernel)).1 (e0k hE (k := 8) (c := 2) (by decide +kernel)).2 (by decide) (by decide +kernel) (show 3 = gm_na 45 by decide +kernel) (fw_c3 fw_si fw_si fw_si) (show 4 ≤ gm_ml 45 by decide +kernel) (Nat.le_of_ble_eq_true rfl) (by omega) (Nat.zero_le _) (Nat.zero_le _) ?_
      refine rw_put (s := N 3) (w := 3) (e0k (e0h hE (v := R 3 8) hp23) (k := 8) (c := 2) (by decide +kernel)) (e0a (e0h hE (v := R 3 8) hp23) (k := 9) (q := (0, 24)) (by decide +kernel)) (e0r (e0h hE (v := R 3 8) hp23) (k := 8) (j := 2) (r := 9) (by decide +kernel)) (by decide) ((hx23 _ _ (by omega)).trans (ti_peo hT)) ((hx23 _ _ (by omega)).trans (hT.1 (8, 1, 3) (by decide))) ⟨by omega, by omega⟩ ⟨by omega, by omega⟩ ⟨by omega, by omega⟩ ⟨by omega, by omega⟩ ?_
      show gm_Wp X LX d _ _ 156 52 _ [] n K _ _ Q
      refine gm_sz (gm_p_load (pc := 52) (i := .iload_n 3) (sr := 0) (j := 3) (by decide +kernel) rfl rfl rfl) ?_
      have c9 : cs (gm_uM M23 9 (p * 3 + 2) l) 3 = nwat N p l := by
        have e9 := cs_pP (M := M23) (b := 3) (j := p * 3 + 2) (v := l) (by omega) (by omega)
        rw [ht23.2.1] at e9
        exact e9
      refine gm_r_int (pc := 53) (by decide +kernel) (Or.inl (by decide +kernel)) (hq ⟨by omega, by omega⟩ (by omega) p23 (gm_uM M23 9 (p * 3 + 2) l) hp23 ⟨hk23.1, (((uM_ne (by omega)).trans rfl)).trans hk23.2⟩ (his_w (W := [(9, none)]) hs23 (fr_p fr_0 (Or.inl (by decide))) (by decide)) (cst_fr (W := [(9, none)]) ht23.1 (fr_p fr_0 (Or.inl (by decide))) (by decide +kernel)) c9 (fun x j hx h9 => ?_))
      exact ((uM_ne (fun hh => h9 hh.1)).trans (hx23 x j hx))
    · have h7 : ¬ l = (-1) := h7
      refine gm_sz (gm_p_load (pc := 10) (i := .aload_n 0) (sr := 2) (j := 0) (by decide +kernel) rfl rfl rfl) ?_
      refine gm_sz (gm_p_load (pc := 11) (i := .iload_n 2) (sr := 0) (j := 2) (by decide +kernel) rfl rfl rfl) ?_
      refine gm_c_virt (k := 1) (ci := 0) (mj := 132) (ix := 166) (pc := 12) (as := [gm_vi l]) (st := []) (d' := d - 1) (bc' := 1) (bs' := 6) (by decide +kernel) (by decide +kernel) (by decide +kernel) (by decide +kernel) (e0k hE (k := 1) (c := 0) (by decide +kernel)).1 (e0k hE (k := 1) (c := 0) (by decide +kernel)).2 (by decide) (by decide +kernel) (show 1 = gm_na 132 by decide +kernel) (fw_c1 fw_si) (show 2 ≤ gm_ml 132 by decide +kernel) (Nat.le_of_ble_eq_true rfl) (by omega) (by omega) (by omega) ?_
      refine nd_132 (i := l) (by omega) (by omega) (by omega) hE hT hN ht (fun c12 => ?_) (fun c12 => ?_)
      · show gm_Wp X LX d _ _ 156 15 _ [] n K _ _ Q
        have c12 : 0 ≤ l ∧ l < N 0 := c12
        refine gm_sz (gm_p_load (pc := 15) (i := .aload_n 0) (sr := 2) (j := 0) (by decide +kernel) rfl rfl rfl) ?_
        refine gm_sz (fw_gr (pc := 16) (ix := 40) (ci := 0) (j := 7) (r := 42) (by decide +kernel) (e0k hE (k := 1) (c := 0) (by decide +kernel)) (by decide +kernel) (by decide +kernel) (e0r hE (k := 1) (j := 7) (r := 42) (by decide +kernel))) ?_
        refine gm_sz (gm_p_load (pc := 19) (i := .aload_n 0) (sr := 2) (j := 0) (by decide +kernel) rfl rfl rfl) ?_
        refine gm_sz (fw_gr (pc := 20) (ix := 23) (ci := 0) (j := 3) (r := 3) (by decide +kernel) (e0k hE (k := 1) (c := 0) (by decide +kernel)) (by decide +kernel) (by decide +kernel) (e0r hE (k := 1) (j := 3) (r := 3) (by decide +kernel))) ?_
        refine gm_c_virt (k := 42) (ci := 3) (mj := 154) (ix := 243) (pc := 23) (as := [gm_vr 3]) (st := []) (d' := d - 1) (bc' := 0) (bs' := 0) (by decide +kernel) (by decide +kernel) (by decide +kernel) (by decide +kernel) (e0k hE (k := 42) (c := 3) (by decide +kernel)).1 (e0k hE (k := 42) (c := 3) (by decide +kernel)).2 (by decide) (by decide +kernel) (show 1 = gm_na 154 by decide +kernel) (fw_c1 fw_sr) (show 2 ≤ gm_ml 154 by decide +kernel) (Nat.le_of_ble_eq_true rfl) (by omega) (Nat.zero_le _) (Nat.zero_le _) ?_
        refine rem_c154 (by omega) hE hT hN hH (fun p23 M23 hp23 hk23 hs23 ht23 hx23 => ?_)
        show gm_Wp X LX d _ _ 156 26 _ [] n K _ _ Q
        refine gm_sz (gm_p_load (pc := 26) (i := .aload_n 0) (sr := 2) (j := 0) (by decide +kernel) rfl rfl rfl) ?_
        refine gm_sz (fw_gr (pc := 27) (ix := 23) (ci := 0) (j := 3) (r := 3) (by decide +kernel) (e0k hE (k := 1) (c := 0) (by decide +kernel)) (by decide +kernel) (by decide +kernel) (e0r (e0h hE (v := R 3 8) hp23) (k := 1) (j := 3) (r := 3) (by decide +kernel))) ?_
        refine gm_sz (fw_gr (pc := 30) (ix := 183) (ci := 1) (j := 11) (r := 8) (by decide +kernel) (e0k hE (k := 3) (c := 1) (by decide +kernel)) (by decide +kernel) (by decide +kernel) (e0r (e0h hE (v := R 3 8) hp23) (k := 3) (j := 11) (r := 8) (by decide +kernel))) ?_
        refine gm_sz (gm_p_load (pc := 33) (i := .iload_n 1) (sr := 0) (j := 1) (by decide +kernel) rfl rfl rfl) ?_
        refine gm_sz (gm_p_const (pc := 34) (i := .iconst 2) (v := gm_vi 2) (by decide +kernel) (by decide +kernel)) ?_
        refine gm_c_virt (k := 8) (ci := 2) (mj := 10) (ix := 186) (pc := 35) (as := [gm_vi p, gm_vi 2]) (st := []) (d' := d - 1) (bc' := 0) (bs' := 0) (by decide +kernel) (by decide +kernel) (by decide +kernel) (by decide +kernel) (e0k hE (k := 8) (c := 2) (by decide +kernel)).1 (e0k hE (k := 8) (c := 2) (by decide +kernel)).2 (by decide) (by decide +kernel) (show 2 = gm_na 10 by decide +kernel) (fw_c2 fw_si fw_si) (show 3 ≤ gm_ml 10 by decide +kernel) (Nat.le_of_ble_eq_true rfl) (by omega) (Nat.zero_le _) (Nat.zero_le _) ?_
        refine rw_get (s := N 3) (w := 3) (x := N (95 + (p * 3 + 2))) (e0k (e0h hE (v := R 3 8) hp23) (k := 8) (c := 2) (by decide +kernel)) (e0a (e0h hE (v := R 3 8) hp23) (k := 9) (q := (0, 24)) (by decide +kernel)) (e0r (e0h hE (v := R 3 8) hp23) (k := 8) (j := 2) (r := 9) (by decide +kernel)) (by decide) ((hx23 _ _ (by omega)).trans (ti_peo hT)) ((hx23 _ _ (by omega)).trans (hT.1 (8, 1, 3) (by decide))) ⟨by omega, by omega⟩ ⟨by omega, by omega⟩ ⟨by omega, by omega⟩ ⟨by omega, by omega⟩ ((hx23 _ _ (by omega)).trans (ti_aP hT (by omega) (by omega))) ?_
        show gm_Wp X LX d _ _ 156 38 _ [gm_vi (N (95 + (p * 3 + 2)))] n K _ _ Q
        refine gm_sz (gm_p_stor (pc := 38) (i := .istore_n 3) (sr := 0) (j := 3) (by decide +kernel) rfl (show 4 ≤ _ from Nat.le_of_ble_eq_true rfl) rfl) ?_
        refine gm_sz (gm_p_load (pc := 39) (i := .aload_n 0) (sr := 2) (j := 0) (by decide +kernel) rfl rfl rfl) ?_
        refine gm_sz (fw_gr (pc := 40) (ix := 23) (ci := 0) (j := 3) (r := 3) (by decide +kernel) (e0k hE (k := 1) (c := 0) (by decide +kernel)) (by decide +kernel) (by decide +kernel) (e0r (e0h hE (v := R 3 8) hp23) (k := 1) (j := 3) (r := 3) (by decide +kernel))) ?_
        refine gm_sz (fw_gr (pc := 43) (ix := 183) (ci := 1) (j := 11) (r := 8) (by decide +kernel) (e0k hE (k := 3) (c := 1) (by decide +kernel)) (by decide +kernel) (by decide +kernel) (e0r (e0h hE (v := R 3 8) hp23) (k := 3) (j := 11) (r := 8) (by decide +kernel))) ?_
        refine gm_sz (gm_p_load (pc := 46) (i := .iload_n 1) (sr := 0) (j := 1) (by decide +kernel) rfl rfl rfl) ?_
        refine gm_sz (gm_p_const (pc := 47) (i := .iconst 2) (v := gm_vi 2) (by decide +kernel) (by decide +kernel)) ?_
        refine gm_sz (gm_p_load (pc := 48) (i := .iload_n 2) (sr := 0) (j := 2) (by decide +kernel) rfl rfl rfl) ?_
        refine gm_c_virt (k := 8) (ci := 2) (mj := 45) (ix := 250) (pc := 49) (as := [gm_vi p, gm_vi 2, gm_vi l]) (st := []) (d' := d - 1) (bc' := 0) (bs' := 0) (by decide +kernel) (by decide +kernel) (by decide +kernel) (by decide +kernel) (e0k hE (k := 8) (c := 2) (by decide +kernel)).1 (e0k hE (k := 8) (c := 2) (by decide +kernel)).2 (by decide) (by decide +kernel) (show 3 = gm_na 45 by decide +kernel) (fw_c3 fw_si fw_si fw_si) (show 4 ≤ gm_ml 45 by decide +kernel) (Nat.le_of_ble_eq_true rfl) (by omega) (Nat.zero_le _) (Nat.zero_le _) ?_
        refine rw_put (s := N 3) (w := 3) (e0k (e0h hE (v := R 3 8) hp23) (k := 8) (c := 2) (by decide +kernel)) (e0a (e0h hE (v := R 3 8) hp23) (k := 9) (q := (0, 24)) (by decide +kernel)) (e0r (e0h hE (v := R 3 8) hp23) (k := 8) (j := 2) (r := 9) (by decide +kernel)) (by decide) ((hx23 _ _ (by omega)).trans (ti_peo hT)) ((hx23 _ _ (by omega)).trans (hT.1 (8, 1, 3) (by decide))) ⟨by omega, by omega⟩ ⟨by omega, by omega⟩ ⟨by omega, by omega⟩ ⟨by omega, by omega⟩ ?_
        show gm_Wp X LX d _ _ 156 52 _ [] n K _ _ Q
        refine gm_sz (gm_p_load (pc := 52) (i := .iload_n 3) (sr := 0) (j := 3) (by decide +kernel) rfl rfl rfl) ?_
        have c9 : cs (gm_uM M23 9 (p * 3 + 2) l) 3 = nwat N p l := by
          have e9 := cs_pP (M := M23) (b := 3) (j := p * 3 + 2) (v := l) (by omega) (by omega)
          rw [ht23.2.1] at e9
          exact e9
        refine gm_r_int (pc := 53) (by decide +kernel) (Or.inl (by decide +kernel)) (hq ⟨by omega, by omega⟩ (by omega) p23 (gm_uM M23 9 (p * 3 + 2) l) hp23 ⟨hk23.1, (((uM_ne (by omega)).trans rfl)).trans hk23.2⟩ (his_w (W := [(9, none)]) hs23 (fr_p fr_0 (Or.inl (by decide))) (by decide)) (cst_fr (W := [(9, none)]) ht23.1 (fr_p fr_0 (Or.inl (by decide))) (by decide +kernel)) c9 (fun x j hx h9 => ?_))
        exact ((uM_ne (fun hh => h9 hh.1)).trans (hx23 x j hx))
      · show Q (.inr 3) n K _ _
        have c12 : ¬ (0 ≤ l ∧ l < N 0) := c12
        exact (q3 (by omega))
  · show Q (.inr 3) n K _ _
    have c2 : ¬ (0 ≤ p ∧ p < N 3) := c2
    exact (q3 (by omega))
theorem cs_op_y {M : gm_M} {l p j : Int} (h : ¬ (j = l * 7 + 5 ∨ j = l * 7 + 6)) : cs_op M l p 11 j = M 11 j := by
  unfold cs_op
  rw [uM_ne (by omega), uM_ne (by omega), uM_ne (by omega), uM_ne (by omega), uM_ne (by omega), uM_ne (by omega)]
theorem ac_158 (hd : 24 ≤ d) (hbc : 4 ≤ bc) (hbs : 24 ≤ bs) (hE : E0 n K R) (hT : TI N h sp M) (hN : NR N) (hg : LOGI N) (hH : HIS A M) (hfw : FLW X LX n K R N h sp FI φ) (hI : FI M) (hk : M 1 15 = 0 ∨ (M 1 15 = 1 ∧ ENDS N h φ M)) (hl : gm_ir l) (q3 : ¬ (0 ≤ l ∧ l < N 4) → Q (.inr 3) n K R M) (q2 : 0 ≤ l ∧ l < N 4 → ∀ (o9 d9 : Int) (M2 : gm_M), OUTR N h φ l o9 d9 → ¬ WTS N l o9 → fr [(206, some 2), (206, some 3), (206, some 4), (206, some 5), (206, some 6), (206, some 7), (206, some 8), (200, some 6), (204, none), (205, none), (220, some 3), (221, none), (1, some 15)] M M2 → FI M2 → M2 1 15 = 1 → ENDS N h φ M2 → Q (.inr 2) n K R M2) (hq : 0 ≤ l ∧ l < N 4 → ∀ (o9 d9 : Int) (p : Nat) (M1 M2 : gm_M), OUTR N h φ l o9 d9 → WTS N l o9 → fr [(206, some 2), (206, some 3), (206, some 4), (206, some 5), (206, some 6), (206, some 7), (206, some 8), (200, some 6), (204, none), (205, none), (220, some 3), (221, none), (1, some 15)] M M1 → FI M1 → M1 1 15 = 1 → ENDS N h φ M1 → p < 12 → (M1 42 1 = (p : Int) ∧ M2 42 1 = ((p : Int) + 1) % 12) → HIS ((N :: A).take 12) M2 → CST M2 → cs M2 3 = nopn N l ((N (119 + (l * 7 + 1)))) → (∀ (x : Nat) (j : Int), x < 42 ∨ 199 < x → ¬ x = 11 → ¬ x = 14 → ¬ x = 15 → M2 x j = M1 x j) → Q (.inl (some (gm_vi (N 9 - (N (119 + (l * 7 + 3))))))) n K (gm_uR R (44 + 13 * p) 8 (R 3 8)) M2) : gm_Wp X LX d bc bs 158 0 (gm_ent 158 [gm_vr 1, gm_vi l]) [] n K R M Q := by
  obtain ⟨⟨⟨a0, b0⟩, ⟨a1, b1⟩, ⟨a10, b10⟩, ⟨a11, b11⟩, ⟨a12, b12⟩, a9, b9⟩, ⟨⟨a2, b2⟩, ⟨a5, b5⟩, ⟨a3, b3⟩, ⟨a4, b4⟩, ⟨a6, b6⟩, ⟨a14, b14⟩, ⟨a7, b7⟩, a13, b13⟩, rF, rP, rL⟩ := id hN
  refine gm_sz (gm_p_load (pc := 0) (i := .aload_n 0) (sr := 2) (j := 0) (by decide +kernel) rfl rfl rfl) ?_
  refine gm_sz (gm_p_load (pc := 1) (i := .iload_n 1) (sr := 0) (j := 1) (by decide +kernel) rfl rfl rfl) ?_
  refine gm_c_virt (k := 1) (ci := 0) (mj := 143) (ix := 200) (pc := 2) (as := [gm_vi l]) (st := []) (d' := d - 1) (bc' := 1) (bs' := 6) (by decide +kernel) (by decide +kernel) (by decide +kernel) (by decide +kernel) (e0k hE (k := 1) (c := 0) (by decide +kernel)).1 (e0k hE (k := 1) (c := 0) (by decide +kernel)).2 (by decide) (by decide +kernel) (show 1 = gm_na 143 by decide +kernel) (fw_c1 fw_si) (show 2 ≤ gm_ml 143 by decide +kernel) (Nat.le_of_ble_eq_true rfl) (by omega) (by omega) (by omega) ?_
  refine nd_143 (i := l) (by omega) (by omega) (by omega) hE hT hN hl (fun c2 => ?_) (fun c2 => ?_)
  · show gm_Wp X LX d _ _ 158 5 _ [] n K _ _ Q
    have c2 : 0 ≤ l ∧ l < N 4 := c2
    refine gm_sz (gm_p_load (pc := 5) (i := .aload_n 0) (sr := 2) (j := 0) (by decide +kernel) rfl rfl rfl) ?_
    refine gm_c_virt (k := 1) (ci := 0) (mj := 24) (ix := 254) (pc := 6) (as := []) (st := []) (d' := d - 1) (bc' := 0) (bs' := 0) (by decide +kernel) (by decide +kernel) (by decide +kernel) (by decide +kernel) (e0k hE (k := 1) (c := 0) (by decide +kernel)).1 (e0k hE (k := 1) (c := 0) (by decide +kernel)).2 (by decide) (by decide +kernel) (show 0 = gm_na 24 by decide +kernel) fw_c0 (show 1 ≤ gm_ml 24 by decide +kernel) (Nat.le_of_ble_eq_true rfl) (by omega) (Nat.zero_le _) (Nat.zero_le _) ?_
    refine en_c24 (by omega) hE hT hN hfw hI (hk.elim (fun hk => by rw [hk]; exact ⟨by decide, by decide⟩) (fun hk => by rw [hk.1]; exact ⟨by decide, by decide⟩)) (fun hz => hk.resolve_left hz) (fun M24 hf24 hI24 h24 he24 => ?_)
    show gm_Wp X LX d _ _ 158 9 _ [] n K _ _ Q
    refine gm_sz (gm_p_load (pc := 9) (i := .aload_n 0) (sr := 2) (j := 0) (by decide +kernel) rfl rfl rfl) ?_
    refine gm_sz (gm_p_load (pc := 10) (i := .iload_n 1) (sr := 0) (j := 1) (by decide +kernel) rfl rfl rfl) ?_
    refine gm_c_virt (k := 1) (ci := 0) (mj := 66) (ix := 257) (pc := 11) (as := [gm_vi l]) (st := []) (d' := d - 1) (bc' := 0) (bs' := 0) (by decide +kernel) (by decide +kernel) (by decide +kernel) (by decide +kernel) (e0k hE (k := 1) (c := 0) (by decide +kernel)).1 (e0k hE (k := 1) (c := 0) (by decide +kernel)).2 (by decide) (by decide +kernel) (show 1 = gm_na 66 by decide +kernel) (fw_c1 fw_si) (show 2 ≤ gm_ml 66 by decide +kernel) (Nat.le_of_ble_eq_true rfl) (by omega) (Nat.zero_le _) (Nat.zero_le _) ?_
    refine wt_c66 (by omega) hE (ti_fr (W := [(206, some 2), (206, some 3), (206, some 4), (206, some 5), (206, some 6), (206, some 7), (206, some 8), (200, some 6), (204, none), (205, none), (220, some 3), (221, none), (1, some 15)]) hT (fr_t fr_0 hf24 (by decide)) (by decide) (by decide +kernel)) hN c2 he24.1 rfl (OUTR_b (he24.2 l c2.1 c2.2) (rL l c2.1 c2.2).2.2.2.1.1) (fun v11 => ?_) (fun v11 => ?_)
    · show gm_Wp X LX d _ _ 158 14 _ [gm_vi 1] n K _ _ Q
      refine fw_iftd (cc := .ne) (pc := 14) (off := 14) (by decide +kernel) (by decide) ⟨by decide, by decide⟩ (by decide) ?_
      refine gm_sz (gm_p_load (pc := 28) (i := .aload_n 0) (sr := 2) (j := 0) (by decide +kernel) rfl rfl rfl) ?_
      refine gm_sz (fw_gr (pc := 29) (ix := 40) (ci := 0) (j := 7) (r := 42) (by decide +kernel) (e0k hE (k := 1) (c := 0) (by decide +kernel)) (by decide +kernel) (by decide +kernel) (e0r hE (k := 1) (j := 7) (r := 42) (by decide +kernel))) ?_
      refine gm_sz (gm_p_load (pc := 32) (i := .aload_n 0) (sr := 2) (j := 0) (by decide +kernel) rfl rfl rfl) ?_
      refine gm_sz (fw_gr (pc := 33) (ix := 23) (ci := 0) (j := 3) (r := 3) (by decide +kernel) (e0k hE (k := 1) (c := 0) (by decide +kernel)) (by decide +kernel) (by decide +kernel) (e0r hE (k := 1) (j := 3) (r := 3) (by decide +kernel))) ?_
      refine gm_c_virt (k := 42) (ci := 3) (mj := 154) (ix := 243) (pc := 36) (as := [gm_vr 3]) (st := []) (d' := d - 1) (bc' := 0) (bs' := 0) (by decide +kernel) (by decide +kernel) (by decide +kernel) (by decide +kernel) (e0k hE (k := 42) (c := 3) (by decide +kernel)).1 (e0k hE (k := 42) (c := 3) (by decide +kernel)).2 (by decide) (by decide +kernel) (show 1 = gm_na 154 by decide +kernel) (fw_c1 fw_sr) (show 2 ≤ gm_ml 154 by decide +kernel) (Nat.le_of_ble_eq_true rfl) (by omega) (Nat.zero_le _) (Nat.zero_le _) ?_
      refine rem_c154 (by omega) hE (ti_fr (W := [(206, some 2), (206, some 3), (206, some 4), (206, some 5), (206, some 6), (206, some 7), (206, some 8), (200, some 6), (204, none), (205, none), (220, some 3), (221, none), (1, some 15)]) hT (fr_t fr_0 hf24 (by decide)) (by decide) (by decide +kernel)) hN (his_w (W := [(206, some 2), (206, some 3), (206, some 4), (206, some 5), (206, some 6), (206, some 7), (206, some 8), (200, some 6), (204, none), (205, none), (220, some 3), (221, none), (1, some 15)]) hH (fr_t fr_0 hf24 (by decide)) (by decide)) (fun p36 M36 hp36 hk36 hs36 ht36 hx36 => ?_)
      show gm_Wp X LX d _ _ 158 39 _ [] n K _ _ Q
      refine gm_sz (gm_p_load (pc := 39) (i := .aload_n 0) (sr := 2) (j := 0) (by decide +kernel) rfl rfl rfl) ?_
      refine gm_sz (fw_gr (pc := 40) (ix := 23) (ci := 0) (j := 3) (r := 3) (by decide +kernel) (e0k hE (k := 1) (c := 0) (by decide +kernel)) (by decide +kernel) (by decide +kernel) (e0r (e0h hE (v := R 3 8) hp36) (k := 1) (j := 3) (r := 3) (by decide +kernel))) ?_
      refine gm_sz (gm_p_load (pc := 43) (i := .iload_n 1) (sr := 0) (j := 1) (by decide +kernel) rfl rfl rfl) ?_
      refine gm_sz (gm_p_load (pc := 44) (i := .aload_n 0) (sr := 2) (j := 0) (by decide +kernel) rfl rfl rfl) ?_
      refine gm_sz (fw_gr (pc := 45) (ix := 23) (ci := 0) (j := 3) (r := 3) (by decide +kernel) (e0k hE (k := 1) (c := 0) (by decide +kernel)) (by decide +kernel) (by decide +kernel) (e0r (e0h hE (v := R 3 8) hp36) (k := 1) (j := 3) (r := 3) (by decide +kernel))) ?_
      refine gm_sz (fw_gr (pc := 48) (ix := 203) (ci := 1) (j := 12) (r := 10) (by decide +kernel) (e0k hE (k := 3) (c := 1) (by decide +kernel)) (by decide +kernel) (by decide +kernel) (e0r (e0h hE (v := R 3 8) hp36) (k := 3) (j := 12) (r := 10) (by decide +kernel))) ?_
      refine gm_sz (gm_p_load (pc := 51) (i := .iload_n 1) (sr := 0) (j := 1) (by decide +kernel) rfl rfl rfl) ?_
      refine gm_sz (gm_p_const (pc := 52) (i := .iconst 1) (v := gm_vi 1) (by decide +kernel) (by decide +kernel)) ?_
      refine gm_c_virt (k := 10) (ci := 2) (mj := 10) (ix := 186) (pc := 53) (as := [gm_vi l, gm_vi 1]) (st := [gm_vi l, gm_vr 3]) (d' := d - 1) (bc' := 0) (bs' := 0) (by decide +kernel) (by decide +kernel) (by decide +kernel) (by decide +kernel) (e0k hE (k := 10) (c := 2) (by decide +kernel)).1 (e0k hE (k := 10) (c := 2) (by decide +kernel)).2 (by decide) (by decide +kernel) (show 2 = gm_na 10 by decide +kernel) (fw_c2 fw_si fw_si) (show 3 ≤ gm_ml 10 by decide +kernel) (Nat.le_of_ble_eq_true rfl) (by omega) (Nat.zero_le _) (Nat.zero_le _) ?_
      refine rw_get (s := N 4) (w := 7) (x := N (119 + (l * 7 + 1))) (e0k (e0h hE (v := R 3 8) hp36) (k := 10) (c := 2) (by decide +kernel)) (e0a (e0h hE (v := R 3 8) hp36) (k := 11) (q := (0, 168)) (by decide +kernel)) (e0r (e0h hE (v := R 3 8) hp36) (k := 10) (j := 2) (r := 11) (by decide +kernel)) (by decide) ((hx36 _ _ (by omega)).trans ((fr_c hf24 (by decide)).trans (ti_let hT))) ((hx36 _ _ (by omega)).trans ((fr_c hf24 (by decide)).trans (hT.1 (10, 1, 7) (by decide)))) ⟨by omega, by omega⟩ ⟨by omega, by omega⟩ ⟨by omega, by omega⟩ ⟨by omega, by omega⟩ ((hx36 _ _ (by omega)).trans ((fr_c hf24 (by decide)).trans (ti_aL hT (by omega) (by omega)))) ?_
      show gm_Wp X LX d _ _ 158 56 _ [gm_vi (N (119 + (l * 7 + 1))), gm_vi l, gm_vr 3] n K _ _ Q
      refine gm_c_virt (k := 3) (ci := 1) (mj := 159) (ix := 266) (pc := 56) (as := [gm_vi l, gm_vi (N (119 + (l * 7 + 1)))]) (st := []) (d' := d - 1) (bc' := 0) (bs' := 0) (by decide +kernel) (by decide +kernel) (by decide +kernel) (by decide +kernel) (e0k hE (k := 3) (c := 1) (by decide +kernel)).1 (e0k hE (k := 3) (c := 1) (by decide +kernel)).2 (by decide) (by decide +kernel) (show 2 = gm_na 159 by decide +kernel) (fw_c2 fw_si fw_si) (show 3 ≤ gm_ml 159 by decide +kernel) (Nat.le_of_ble_eq_true rfl) (by omega) (Nat.zero_le _) (Nat.zero_le _) ?_
      refine cs_opn (by omega) (e0h hE (v := R 3 8) hp36) ht36.1 (by rw [ti_let ht36]; exact c2) (by rw [ti_let ht36]; omega) (by rw [ti_ope ht36]; exact logi_lt hN hg c2 v11.2.1) ?_
      show gm_Wp X LX d _ _ 158 59 _ [] n K _ _ Q
      refine gm_sz (gm_p_load (pc := 59) (i := .aload_n 0) (sr := 2) (j := 0) (by decide +kernel) rfl rfl rfl) ?_
      refine gm_sz (fw_gr (pc := 60) (ix := 23) (ci := 0) (j := 3) (r := 3) (by decide +kernel) (e0k hE (k := 1) (c := 0) (by decide +kernel)) (by decide +kernel) (by decide +kernel) (e0r (e0h hE (v := R 3 8) hp36) (k := 1) (j := 3) (r := 3) (by decide +kernel))) ?_
      refine gm_sz (fw_gi (pc := 63) (ix := 269) (ci := 1) (j := 6) (x := N 9) (by decide +kernel) (e0k hE (k := 3) (c := 1) (by decide +kernel)) (by decide +kernel) (by decide +kernel) ((fr_c cs_op_fr (by decide)).trans ((hx36 _ _ (by omega)).trans ((fr_c hf24 (by decide)).trans (ti_now hT))))) ?_
      refine gm_sz (gm_p_load (pc := 66) (i := .aload_n 0) (sr := 2) (j := 0) (by decide +kernel) rfl rfl rfl) ?_
      refine gm_sz (fw_gr (pc := 67) (ix := 23) (ci := 0) (j := 3) (r := 3) (by decide +kernel) (e0k hE (k := 1) (c := 0) (by decide +kernel)) (by decide +kernel) (by decide +kernel) (e0r (e0h hE (v := R 3 8) hp36) (k := 1) (j := 3) (r := 3) (by decide +kernel))) ?_
      refine gm_sz (fw_gr (pc := 70) (ix := 203) (ci := 1) (j := 12) (r := 10) (by decide +kernel) (e0k hE (k := 3) (c := 1) (by decide +kernel)) (by decide +kernel) (by decide +kernel) (e0r (e0h hE (v := R 3 8) hp36) (k := 3) (j := 12) (r := 10) (by decide +kernel))) ?_
      refine gm_sz (gm_p_load (pc := 73) (i := .iload_n 1) (sr := 0) (j := 1) (by decide +kernel) rfl rfl rfl) ?_
      refine gm_sz (gm_p_const (pc := 74) (i := .iconst 3) (v := gm_vi 3) (by decide +kernel) (by decide +kernel)) ?_
      refine gm_c_virt (k := 10) (ci := 2) (mj := 10) (ix := 186) (pc := 75) (as := [gm_vi l, gm_vi 3]) (st := [gm_vi (N 9)]) (d' := d - 1) (bc' := 0) (bs' := 0) (by decide +kernel) (by decide +kernel) (by decide +kernel) (by decide +kernel) (e0k hE (k := 10) (c := 2) (by decide +kernel)).1 (e0k hE (k := 10) (c := 2) (by decide +kernel)).2 (by decide) (by decide +kernel) (show 2 = gm_na 10 by decide +kernel) (fw_c2 fw_si fw_si) (show 3 ≤ gm_ml 10 by decide +kernel) (Nat.le_of_ble_eq_true rfl) (by omega) (Nat.zero_le _) (Nat.zero_le _) ?_
      refine rw_get (s := N 4) (w := 7) (x := N (119 + (l * 7 + 3))) (e0k (e0h hE (v := R 3 8) hp36) (k := 10) (c := 2) (by decide +kernel)) (e0a (e0h hE (v := R 3 8) hp36) (k := 11) (q := (0, 168)) (by decide +kernel)) (e0r (e0h hE (v := R 3 8) hp36) (k := 10) (j := 2) (r := 11) (by decide +kernel)) (by decide) ((fr_c cs_op_fr (by decide)).trans ((hx36 _ _ (by omega)).trans ((fr_c hf24 (by decide)).trans (ti_let hT)))) ((fr_c cs_op_fr (by decide)).trans ((hx36 _ _ (by omega)).trans ((fr_c hf24 (by decide)).trans (hT.1 (10, 1, 7) (by decide))))) ⟨by omega, by omega⟩ ⟨by omega, by omega⟩ ⟨by omega, by omega⟩ ⟨by omega, by omega⟩ ((cs_op_y (by omega)).trans ((hx36 _ _ (by omega)).trans ((fr_c hf24 (by decide)).trans (ti_aL hT (by omega) (by omega))))) ?_
      show gm_Wp X LX d _ _ 158 78 _ [gm_vi (N (119 + (l * 7 + 3))), gm_vi (N 9)] n K _ _ Q
      refine gm_sz (gm_p_bin (pc := 78) (i := .isub) (f := fun x y => x - y) (by decide +kernel) rfl) ?_
      have hl24 : 0 ≤ l ∧ l < 24 := ⟨c2.1, by omega⟩
      have ho9 := logi_lt hN hg c2 v11.2.1
      have n9 : cs (cs_op M36 l (N (119 + (l * 7 + 1)))) 3 = nopn N l (N (119 + (l * 7 + 1))) := cs_op_n ht36.2.1 hl24 ho9
      refine gm_r_int (pc := 79) (by decide +kernel) (Or.inl (by decide +kernel)) ?_
      have e9 : (N 9) - (N (119 + (l * 7 + 3))) = N 9 - (N (119 + (l * 7 + 3))) := rfl
      exact hq c2 _ _ p36 M24 (cs_op M36 l (N (119 + (l * 7 + 1)))) (he24.2 l c2.1 c2.2) v11 hf24 hI24 h24 he24 hp36 ⟨hk36.1, (((fr_c cs_op_fr (by decide)).trans rfl)).trans hk36.2⟩ (his_w (W := [(11, none), (14, some 3), (15, none)]) hs36 (fr_t fr_0 cs_op_fr (by decide)) (by decide)) (cst_fr (W := [(11, none), (14, some 3), (15, none)]) ht36.1 (fr_t fr_0 cs_op_fr (by decide)) (by decide +kernel)) n9 (fun x j hx h11 h14 h15 => (cs_op_fr x j (by intro hm; simp at hm; omega) (by intro hm; simp at hm; omega)).trans (hx36 x j hx))
    · show gm_Wp X LX d _ _ 158 14 _ [gm_vi 0] n K _ _ Q
      refine fw_iffd (cc := .ne) (pc := 14) (off := 14) (by decide +kernel) (by decide) ⟨by decide, by decide⟩ (by decide) ?_
      exact gm_throw (ik := 261) (is := 263) (ic := 265) (x := 2) (id := 38) (lw := true) (by decide +kernel) (by decide +kernel) (by decide +kernel) (by decide +kernel) (by decide +kernel) (by decide +kernel) (by decide +kernel) (by decide +kernel) (Nat.le_of_ble_eq_true rfl) (by omega) (by omega) (by omega) (q2 c2 _ _ _ (he24.2 l c2.1 c2.2) v11 hf24 hI24 h24 he24)
  · show Q (.inr 3) n K _ _
    have c2 : ¬ (0 ≤ l ∧ l < N 4) := c2
    exact (q3 (by omega))
end AC13
end
