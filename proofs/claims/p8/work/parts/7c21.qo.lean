/-! WHAT IS KEPT (ways, FLOWs) IS RIGHT: a standing condition of the calls that only ask. -/
section QO21
variable {X : Int → Int} {LX n : Nat} {K K2 : gm_K} {R R2 : gm_R} {M M2 : gm_M} {N N2 h : Int → Int} {lw : Option (List lln)} {ls ls2 : List lln} {W : Int → Int}
theorem rsum_hh {H H2 : (Int → Int) → Int → Prop} {F G : Int → Int} {kd : Int} {m : Nat} (e : ∀ k : Nat, k < m → (H F (k : Int) ↔ H2 F (k : Int))) : ∀ k : Nat, k ≤ m → rsum H F G kd k = rsum H2 F G kd k := by
  intro k
  induction k with
  | zero => intro _; rfl
  | succ k ih =>
    intro hk
    show rsum H F G kd k + @ite Int (G (396 + 4 * (k : Int)) = kd ∧ H F (k : Int)) (Classical.propDecidable _) (G (396 + 4 * (k : Int) + 1)) 0 = rsum H2 F G kd k + @ite Int (G (396 + 4 * (k : Int)) = kd ∧ H2 F (k : Int)) (Classical.propDecidable _) (G (396 + 4 * (k : Int) + 1)) 0
    rw [ih (by omega)]
    have e9 : H F (k : Int) = H2 F (k : Int) := propext (e k (by omega))
    rw [e9]
/-- two laws by the same lines are the same -/
theorem aphi_u (h1 : LAWR (some ls) W) (h2 : LAWR (some ls2) W) : aphi (some ls) N h = aphi (some ls2) N h := by
  obtain ⟨⟨a1, a2⟩, a3, a4, -⟩ := h1.2 ls rfl
  obtain ⟨⟨b1, b2⟩, b3, b4, -⟩ := h2.2 ls2 rfl
  have el : ls.length = ls2.length := by omega
  funext l r y
  by_cases hl : 0 ≤ l ∧ l < 6
  · rw [aphi_s hl, aphi_s hl, ← rphi_gcl a4, ← rphi_gcl b4]
    have e : ((ls.length : Int)).toNat = ls.length := by omega
    have e2 : ((ls2.length : Int)).toNat = ls.length := by omega
    have hh : ∀ F, FB F → ∀ k : Nat, k < ls.length → (HH ls F (k : Int) ↔ HH ls2 F (k : Int)) := fun F hF k hk => (hhl_x a3 a4 F k (fun _ => 0) hF (by omega) (by omega)).symm.trans (hhl_x b3 b4 F k (fun _ => 0) hF (by omega) (by omega))
    unfold rphi
    rw [e, e2, rsum_hh (hh _ fb_fcts) _ (Nat.le_refl _), rsum_hh (hh _ fb_fcts) _ (Nat.le_refl _)]
  · unfold aphi
    rw [if_neg hl, if_neg hl]
theorem aphx_u (h1 : LAWR (some ls) W) (h2 : LAWR (some ls2) W) : aphx (some ls) N h = aphx (some ls2) N h := by
  obtain ⟨⟨a1, a2⟩, a3, a4, -⟩ := h1.2 ls rfl
  obtain ⟨⟨b1, b2⟩, b3, b4, -⟩ := h2.2 ls2 rfl
  have el : ls.length = ls2.length := by omega
  have key : ∀ (F : Int → Int) (kd : Int), FB F → rsum (HH ls) F (gcl ls) kd ls.length = rsum (HH ls2) F (gcl ls2) kd ls2.length := fun F kd hF => by
    have hh : ∀ k : Nat, k < ls.length → (HH ls F (k : Int) ↔ HH ls2 F (k : Int)) := fun k hk => (hhl_x a3 a4 F k (fun _ => 0) hF (by omega) (by omega)).symm.trans (hhl_x b3 b4 F k (fun _ => 0) hF (by omega) (by omega))
    rw [← rsum_gcl a4 ls.length (Nat.le_refl _), ← rsum_gcl b4 ls2.length (Nat.le_refl _), rsum_hh hh ls.length (Nat.le_refl _), el]
  funext l r y
  by_cases hl : 0 ≤ l
  · rw [aphx_s hl, aphx_s hl, key _ 0 fb_fcts, key _ 1 fb_fcts]
  · unfold aphx
    rw [if_neg hl, if_neg hl]
theorem pl_b : ∀ {i : Int}, (0 ≤ i ∧ i < 395 ∧ ¬ i = 8) → 0 ≤ (pl i).2 ∧ (pl i).2 ≤ 200 := by
  intro i h
  rcases pl_cases h with h | h | h | h | h | h | h | h | h | h | h | h | h | h | h | h | h | h | h | h
  all_goals first
    | (subst h; decide)
    | (first | rw [pl_2 h] | rw [pl_4 h] | rw [pl_6 h] | rw [pl_8 h] | rw [pl_10 h] | rw [pl_12 h]); constructor <;> simp only [] <;> omega
theorem cs_b {b : Nat} (e : ∀ (x : Nat) (j : Int), b ≤ x → x ≤ b + 12 → 0 ≤ j → j ≤ 200 → M2 x j = M x j) : cs M2 b = cs M b := cs_ext fun i hi => e _ _ (Nat.le_add_right _ _) (Nat.add_le_add_left (pl_le hi) _) (pl_b hi).1 (pl_b hi).2
/-- what is told of the class's numbers -/
noncomputable def TIx (N : Int → Int) (M : gm_M) : Prop := cs M 3 = N ∧ (∀ y, 0 ≤ y → y < 300 → M 201 y = hts (N 13) y ∧ (0 ≤ hts (N 13) y ∧ hts (N 13) y ≤ 9) ∧ gm_ir (M 203 y) ∧ fbit N y (M 203 y)) ∧ ∀ l r, 0 ≤ l → l < 6 → 0 ≤ r → r < 99 → M 202 (l * 99 + r) = spd N l r
noncomputable def qC (lw : Option (List lln)) (N : Int → Int) (M : gm_M) : Prop := GJ N ∧ TIx N M ∧ (M 1 15 = 0 ∨ (M 1 15 = 1 ∧ ENDS N (hts (N 13)) (aphi lw N (hts (N 13))) M))
noncomputable def qC_fp (k : Nat) : List (Int × Int) := if 3 ≤ k ∧ k ≤ 15 then [(0, 200)] else if k = 201 ∨ k = 203 then [(0, 299)] else if k = 202 then [(0, 593)] else if k = 1 then [(15, 15)] else if k = 220 then [(3, 3)] else if k = 221 then [(0, 47)] else []
theorem qC_e (hq : qC lw N M) (e : ∀ k r, r ∈ qC_fp k → ∀ j, r.1 ≤ j → j ≤ r.2 → M2 k j = M k j) : qC lw N M2 := by
  obtain ⟨hG, ⟨h1, h2, h3⟩, h4⟩ := hq
  have n4 := hG.1.1.2.1.2.2.2.1
  have e15 : M2 1 15 = M 1 15 := e 1 (15, 15) (by decide) 15 (by decide) (by decide)
  refine ⟨hG, ⟨?_, fun y y0 y1 => ?_, fun l r l0 l1 r0 r1 => ?_⟩, ?_⟩
  · rw [← h1]
    exact cs_b fun x j x1 x2 j0 j1 => e x (0, 200) (by unfold qC_fp; rw [if_pos ⟨x1, by omega⟩]; exact List.mem_cons_self) j j0 j1
  · rw [e 201 (0, 299) (by decide) y y0 (by show y ≤ 299; omega), e 203 (0, 299) (by decide) y y0 (by show y ≤ 299; omega)]
    exact h2 y y0 y1
  · rw [e 202 (0, 593) (by decide) _ (by show 0 ≤ l * 99 + r; omega) (by show l * 99 + r ≤ 593; omega)]
    exact h3 l r l0 l1 r0 r1
  · rw [e15]
    refine h4.imp_right fun ⟨a, b⟩ => ⟨a, by rw [e 220 (3, 3) (by decide) 3 (by decide) (by decide)]; exact b.1, fun l l0 l1 => ?_⟩
    rw [e 221 (0, 47) (by decide) (l * 2 + 0) (by show 0 ≤ l * 2 + 0; omega) (by show l * 2 + 0 ≤ 47; omega), e 221 (0, 47) (by decide) (l * 2 + 1) (by show 0 ≤ l * 2 + 1; omega) (by show l * 2 + 1 ≤ 47; omega)]
    exact b.2 l l0 l1
/-- without a law -/
noncomputable def q0_fp (k : Nat) : List (Int × Int) := j_fp k ++ qC_fp k
noncomputable def q0_J (K : gm_K) (M : gm_M) : Prop := j_J p2_ty K M ∧ ∃ N, qC none N M
theorem q0_h : ∀ (K K' : gm_K) (M M' : gm_M), (∀ k r, r ∈ q0_fp k → K' k = K k) → (∀ k r, r ∈ q0_fp k → ∀ j, r.1 ≤ j → j ≤ r.2 → M' k j = M k j) → q0_J K M → q0_J K' M' := by
  intro K K' M M' hK hM ⟨hJ, N, hq⟩
  exact ⟨j_h K K' M M' (fun k r hr => hK k r (List.mem_append_left _ hr)) (fun k r hr => hM k r (List.mem_append_left _ hr)) hJ, N, qC_e hq (fun k r hr => hM k r (List.mem_append_right _ hr))⟩
noncomputable abbrev q0_O : gm_Or := ck_OT p2_T q0_fp q0_J p2_nm q0_h
/-- under a law -/
noncomputable def LWJ (ls : List lln) (K : gm_K) (M : gm_M) : Prop := LW ls ∧ ∃ NC : Nat, NC ≤ 400 ∧ K 247 = (0, NC) ∧ LB NC (M 247) (M 249) (ls.length : Int) M ∧ LC ls (M 247) (M 249)
noncomputable def qL_fx (k : Nat) : List (Int × Int) := if k = 200 then [(6, 6)] else if k = 205 then [(0, 14849)] else if k = 227 then [(8, 8), (395, 1243)] else if k = 247 then [(0, 399)] else if k = 248 then [(0, 3)] else if k = 249 then [(0, 47)] else []
noncomputable def qL_fp (k : Nat) : List (Int × Int) := l_fp k ++ (qC_fp k ++ qL_fx k)
noncomputable def qL_J (K : gm_K) (M : gm_M) : Prop := l_J p2_ty K M ∧ ∃ N ls, qC (some ls) N M ∧ KFL N (aphx (some ls) N (hts (N 13))) M ∧ LWJ ls K M ∧ LAWR (some ls) (M 227)
theorem kfl_b {φ : Int → Int → Int → Int} (hk : KFL N φ M) (h0 : N 0 ≤ 6 ∧ N 1 ≤ 99) (e6 : M2 200 6 = M 200 6) (e5 : ∀ j, 0 ≤ j → j < 14850 → M2 205 j = M 205 j) : KFL N φ M2 := by
  refine ⟨by rw [e6]; exact hk.1, fun l r y l0 l1 r0 r1 y0 y1 => ?_⟩
  have ek : kv M2 ((l * 99 + r) * 300 + y) = kv M ((l * 99 + r) * 300 + y) := by
    unfold kv
    rw [e6, e5 (((l * 99 + r) * 300 + y) / 12) (by omega) (by omega)]
  rw [ek]
  exact hk.2 l r y l0 l1 r0 r1 y0 y1
theorem lwj_e (hq : LWJ ls K M) (eK : K2 247 = K 247) (e7 : ∀ j, 0 ≤ j → j < 400 → M2 247 j = M 247 j) (e8 : ∀ j, 0 ≤ j → j < 4 → M2 248 j = M 248 j) (e9 : ∀ j, 0 ≤ j → j < 48 → M2 249 j = M 249 j) : LWJ ls K2 M2 := by
  obtain ⟨hW, NC, h1, h2, ⟨⟨hm1, hm2, hm3⟩, -, -, hm4⟩, hC⟩ := hq
  have h12 := hW.1
  have f8 : M2 248 3 = M 248 3 := e8 3 (by decide) (by decide)
  refine ⟨hW, NC, h1, eK.trans h2, ⟨⟨?_, fun i i0 i1 => ?_, fun k k0 k1 => ?_⟩, fun _ => rfl, fun _ => rfl, f8.trans hm4⟩, fun k x hx => ?_⟩
  · rw [f8, e8 0 (by decide) (by decide), e8 1 (by decide) (by decide)]
    exact hm1
  · rw [e7 i i0 (by omega)]
    exact hm2 i i0 i1
  · rw [f8] at k1
    rw [e9 (k * 4 + 0) (by omega) (by omega), e9 (k * 4 + 1) (by omega) (by omega), e9 (k * 4 + 2) (by omega) (by omega), e9 (k * 4 + 3) (by omega) (by omega)]
    exact hm3 k k0 k1
  · have hk := (List.getElem?_eq_some_iff.mp hx).1
    obtain ⟨c0, c1, c2, c3⟩ := hC k x hx
    have hb := hm3 (k : Int) (by omega) (by omega)
    rw [e9 ((k : Int) * 4 + 0) (by omega) (by omega), e9 ((k : Int) * 4 + 1) (by omega) (by omega), e9 ((k : Int) * 4 + 2) (by omega) (by omega), e9 ((k : Int) * 4 + 3) (by omega) (by omega)]
    refine ⟨c0, c1, c2, fun t ht => ⟨(c3 t ht).1, fun j v hv => ?_⟩⟩
    have hj := (List.getElem?_eq_some_iff.mp hv).1
    have := (c3 t ht).1
    rw [e7 _ (by omega) (by omega)]
    exact (c3 t ht).2 j v hv
theorem qL_h : ∀ (K K' : gm_K) (M M' : gm_M), (∀ k r, r ∈ qL_fp k → K' k = K k) → (∀ k r, r ∈ qL_fp k → ∀ j, r.1 ≤ j → j ≤ r.2 → M' k j = M k j) → qL_J K M → qL_J K' M' := by
  intro K K' M M' hK hM ⟨hJ, N, ls, hq, hk, hw, hr⟩
  have x : ∀ k r, r ∈ qL_fx k → r ∈ qL_fp k := fun k r hr => List.mem_append_right _ (List.mem_append_right _ hr)
  have n0 := hq.1.1.1.1
  exact ⟨l_h K K' M M' (fun k r hr => hK k r (List.mem_append_left _ hr)) (fun k r hr => hM k r (List.mem_append_left _ hr)) hJ, N, ls, qC_e hq (fun k r hr => hM k r (List.mem_append_right _ (List.mem_append_left _ hr))),
    kfl_b hk ⟨by omega, by omega⟩ (hM 200 (6, 6) (x _ _ (by decide)) 6 (by decide) (by decide)) (fun j j0 j1 => hM 205 (0, 14849) (x _ _ (by decide)) j j0 (by show j ≤ 14849; omega)),
    lwj_e hw (hK 247 (0, 399) (x _ _ (by decide))) (fun j j0 j1 => hM 247 (0, 399) (x _ _ (by decide)) j j0 (by show j ≤ 399; omega)) (fun j j0 j1 => hM 248 (0, 3) (x _ _ (by decide)) j j0 (by show j ≤ 3; omega)) (fun j j0 j1 => hM 249 (0, 47) (x _ _ (by decide)) j j0 (by show j ≤ 47; omega)),
    lawr_cg hr (fun j hj h1 => by
      rcases hj with hj | rfl
      · exact hM 227 (395, 1243) (x _ _ (by decide)) j hj (by show j ≤ 1243; omega)
      · exact hM 227 (8, 8) (x _ _ (by decide)) 8 (by decide) (by decide))⟩
/-- the YEARs of both travellers have names too -/
noncomputable def qL_nm : List (Nat × Nat × Int) := p2_nm ++ [(28, 206, 7), (29, 207, 7)]
noncomputable def qL_O : gm_Or := (p2_OL.1, p2_OL.2.1, ⟨(p2_OL.2.2.ty, qL_fp, qL_J, qL_nm, none), ⟨qL_h, fun _ h => nomatch h⟩⟩)
/-- the reference -/
noncomputable def qR_fx (k : Nat) : List (Int × Int) := if k = 227 then [(0, 1243)] else if k = 234 then [(0, 299)] else if k = 226 then [(26, 26)] else if k = 235 then [(0, 29699)] else []
noncomputable def qR_fp (k : Nat) : List (Int × Int) := j_fp k ++ qR_fx k
noncomputable def qR_J (K : gm_K) (M : gm_M) : Prop := j_J p2_ty K M ∧ ∃ N lw, GJ N ∧ TR N (hts (N 13)) M ∧ LAWR lw (M 227) ∧ KFR N (aphi lw N (hts (N 13))) M
theorem ws_b {W W2 : Int → Int} (e : ∀ j, 0 ≤ j → j < 395 → W2 j = W j) : ws W2 = ws W := ws_ext (fun j j0 j1 => e j j0 j1)
theorem qR_h : ∀ (K K' : gm_K) (M M' : gm_M), (∀ k r, r ∈ qR_fp k → K' k = K k) → (∀ k r, r ∈ qR_fp k → ∀ j, r.1 ≤ j → j ≤ r.2 → M' k j = M k j) → qR_J K M → qR_J K' M' := by
  intro K K' M M' hK hM ⟨hJ, N, lw, hG, hT, hL, hk⟩
  have x : ∀ k r, r ∈ qR_fx k → r ∈ qR_fp k := fun k r hr => List.mem_append_right _ hr
  have e7 : ∀ j, 0 ≤ j → j < 1244 → M' 227 j = M 227 j := fun j j0 j1 => hM 227 (0, 1243) (x _ _ (by decide)) j j0 (by show j ≤ 1243; omega)
  have e26 : M' 226 26 = M 226 26 := hM 226 (26, 26) (x _ _ (by decide)) 26 (by decide) (by decide)
  have e35 : ∀ j, 0 ≤ j → j < 29700 → M' 235 j = M 235 j := fun j j0 j1 => hM 235 (0, 29699) (x _ _ (by decide)) j j0 (by show j ≤ 29699; omega)
  have n0 := hG.1.1.1
  refine ⟨j_h K K' M M' (fun k r hr => hK k r (List.mem_append_left _ hr)) (fun k r hr => hM k r (List.mem_append_left _ hr)) hJ, N, lw, hG, ⟨(ws_b fun j j0 j1 => e7 j j0 (by omega)).trans hT.1, fun y y0 y1 => ?_⟩, lawr_cg hL (fun j hj h1 => e7 j (by omega) h1), ?_⟩
  · rw [hM 234 (0, 299) (x _ _ (by decide)) y y0 (by show y ≤ 299; omega)]
    exact hT.2 y y0 y1
  · refine ⟨by rw [e26]; exact hk.1, fun j j0 j1 => by rw [e35 j j0 j1]; exact hk.2.1 j j0 j1, fun r y h0 h1 r0 r1 y0 y1 => ?_⟩
    rw [e26] at h0 h1 ⊢
    rw [e35 _ (by omega) (by omega)]
    exact hk.2.2 r y h0 h1 r0 r1 y0 y1
noncomputable abbrev qR_O : gm_Or := ck_OT p2_T qR_fp qR_J p2_nm qR_h
theorem q0_nmu : ck_nmu q0_O := p2_nmu
theorem qL_nmk : qL_nm.all (fun q => decide (qL_nm.find? (fun p => p.1 == q.1) = some q)) = true := by decide +kernel
theorem qL_nmu : ck_nmu qL_O := fun q hq => of_decide_eq_true (List.all_eq_true.mp qL_nmk q hq)
theorem qR_nmu : ck_nmu qR_O := p2_nmu
/-- a row that writes nothing of it is a row under it -/
theorem q_lift {O O2 : gm_Or} {S : ck_Sum} {mj : Nat} (e1 : O2.1 = O.1) (e2 : O2.2.1 = O.2.1) (e3 : O2.2.2.ty = O.2.2.ty) (e4 : ∀ q, q ∈ O.2.2.nm → q ∈ O2.2.2.nm) (e5 : ∀ k r, r ∈ O.2.2.fp k → r ∈ O2.2.2.fp k) (e6 : ∀ K M, O2.2.2.J K M → O.2.2.J K M) (hS : ck_Ok O X LX mj S) (hW : S.2.2.2.2.1.1.all (fun w => (O2.2.2.fp w.1).all fun r => decide (w.2.2 < r.1) || decide (r.2 < w.2.1)) = true) : ck_Ok O2 X LX mj S := by
  intro d σ vs n K R M hd hn hvs hσ hF hf
  have hF0 : gm_Fx O n K R M := ⟨fun k q hq => hF.1 k q (by rw [e1]; exact hq), fun k j r hr => hF.2.1 k j r (by rw [e2]; exact hr), fun k r hr => hF.2.2.1 k r (by rw [e3]; exact hr), fun k r hr => hF.2.2.2.1 k r (e5 k r hr), e6 K M hF.2.2.2.2⟩
  refine gm_Wp_mono (fun o n2 K2 R2 M2 hq => ?_) (hS d σ vs n K R M hd hn hvs (fun q hq => hσ q (e4 q hq)) hF0 hf)
  obtain ⟨hF2, hfr, hoc⟩ := hq
  have hnn := hfr.1
  refine ⟨⟨fun k q hq => hF2.1 k q (by rw [← e1]; exact hq), fun k j r hr => hF2.2.1 k j r (by rw [← e2]; exact hr), fun k r hr => hF2.2.2.1 k r (by rw [← e3]; exact hr), fun k r hr => Nat.le_trans (hF.2.2.2.1 k r hr) hnn, ?_⟩, hfr, hoc⟩
  refine O2.2.2.hJ K K2 M M2 (fun k r hr => hfr.2.1 k (hF.2.2.2.1 k r hr)) (fun k r hr j j1 j2 => hfr.2.2.1 k j (hF.2.2.2.1 k r hr) (fun w hw hh => ?_)) hF.2.2.2.2
  have h9 := List.all_eq_true.mp (List.all_eq_true.mp hW w hw) r (by rw [hh.1]; exact hr)
  simp only [Bool.or_eq_true, decide_eq_true_eq] at h9
  omega
noncomputable def q_av (fp : Nat → List (Int × Int)) (S : ck_Sum) : Bool := S.2.2.2.2.1.1.all (fun w => (fp w.1).all fun r => decide (w.2.2 < r.1) || decide (r.2 < w.2.1))
theorem q0_l {S : ck_Sum} {mj : Nat} (hS : ck_Ok p2_O X LX mj S) (hW : q_av q0_fp S = true) : ck_Ok q0_O X LX mj S := q_lift (O := p2_O) (O2 := q0_O) rfl rfl rfl (fun _ h => h) (fun k r hr => List.mem_append_left _ hr) (fun K M h => h.1) hS hW
theorem qL_l {S : ck_Sum} {mj : Nat} (hS : ck_Ok p2_OL X LX mj S) (hW : q_av qL_fp S = true) : ck_Ok qL_O X LX mj S := q_lift (O := p2_OL) (O2 := qL_O) rfl rfl rfl (fun q h => List.mem_append_left _ h) (fun k r hr => List.mem_append_left _ hr) (fun K M h => h.1) hS hW
theorem qR_l {S : ck_Sum} {mj : Nat} (hS : ck_Ok p2_O X LX mj S) (hW : q_av qR_fp S = true) : ck_Ok qR_O X LX mj S := q_lift (O := p2_O) (O2 := qR_O) rfl rfl rfl (fun _ h => h) (fun k r hr => List.mem_append_left _ hr) (fun K M h => h.1) hS hW
end QO21
