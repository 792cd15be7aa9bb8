/-! WHAT IS THROWN IN, WHAT IS OPENED: what is said of these two. -/
noncomputable def gm_Ft (O : gm_Or) (n : Nat) (M : gm_M) : Prop := ∀ k r, r ∈ O.2.2.ty k → k ≤ n ∧ ∀ j, r.1 ≤ j → j ≤ r.2.1 → (-2147483648 ≤ M k j ∧ M k j < 2147483648) ∧ r.2.2.1 ≤ M k j ∧ M k j ≤ r.2.2.2
theorem gm_Ft_M {O : gm_Or} {n : Nat} {M : gm_M} {k : Nat} {j v a b : Int} (hF : gm_Ft O n M) (h : gm_tyv O k j j a b = true) (h3 : a ≤ v) (h4 : v ≤ b) : gm_Ft O n (gm_uM M k j v) := by
  intro c r hr
  obtain ⟨g1, g2⟩ := hF c r hr
  refine ⟨g1, fun i h5 h6 => ?_⟩
  unfold gm_uM
  split
  · rename_i e
    obtain ⟨rfl, rfl⟩ := e
    have h7 := List.all_eq_true.mp (gm_tyv_def.symm.trans h) r hr
    simp only [Bool.or_eq_true, Bool.and_eq_true, decide_eq_true_eq] at h7
    rcases h7 with h7 | h7 | ⟨h7, h8, h9, h10⟩
    · omega
    · omega
    · exact ⟨⟨by omega, by omega⟩, by omega, by omega⟩
  · exact g2 i h5 h6
section OP
variable {X : Int → Int} {LX : Nat} {n : Nat} {K : gm_K} {R : gm_R} {M : gm_M}
theorem op_t4 : gm_tyr p2_O 227 4 4 = some (0, 24) := by decide +kernel
theorem op_t9 : gm_tyr p2_O 227 9 9 = some (0, 299) := by decide +kernel
theorem op_t14 : gm_tyr p2_O 227 14 14 = some (0, 24) := by decide +kernel
theorem md_thr_f {l f t la ro : Int} {c : Nat} (h : ¬ c = 227) : md_thr M l f t la ro c = M c := by
  unfold md_thr md_set
  rw [uM_f h, uM_f h, uM_f h, uM_f h, uM_f h, uM_f h, uM_f h, uM_f h]
theorem md_thr_ne {l f t la ro j : Int} (h4 : ¬ j = 4) (h : ¬ (119 + 7 * l ≤ j ∧ j ≤ 125 + 7 * l)) : md_thr M l f t la ro 227 j = M 227 j := by
  unfold md_thr md_set
  rw [uM_ne (by omega), uM_ne (by omega), uM_ne (by omega), uM_ne (by omega), uM_ne (by omega), uM_ne (by omega), uM_ne (by omega), uM_ne (by omega)]
theorem md_thr_4 {l f t la ro : Int} : md_thr M l f t la ro 227 4 = l + 1 := by
  unfold md_thr
  rw [uM_at]
theorem md_thr_0 {l f t la ro : Int} (hl : 0 ≤ l) : md_thr M l f t la ro 227 (119 + 7 * l) = f := by
  unfold md_thr md_set
  rw [uM_ne (by omega), uM_ne (by omega), uM_ne (by omega), uM_ne (by omega), uM_ne (by omega), uM_ne (by omega), uM_ne (by omega)]
  unfold gm_uM
  rw [if_pos ⟨rfl, by omega⟩]
theorem md_thr_1 {l f t la ro : Int} (hl : 0 ≤ l) : md_thr M l f t la ro 227 (120 + 7 * l) = t := by
  unfold md_thr md_set
  rw [uM_ne (by omega), uM_ne (by omega), uM_ne (by omega), uM_ne (by omega), uM_ne (by omega), uM_ne (by omega)]
  unfold gm_uM
  rw [if_pos ⟨rfl, by omega⟩]
noncomputable def op_ck (f0 f1 t0 t1 a0 a1 r0 r1 : Int) : Bool := ((List.range 24).all fun (l : Nat) => gm_tyv p2_O 227 (119 + 7 * (l : Int) + 0) (119 + 7 * (l : Int) + 0) f0 f1 && (gm_tyv p2_O 227 (119 + 7 * (l : Int) + 1) (119 + 7 * (l : Int) + 1) t0 t1 && (gm_tyv p2_O 227 (119 + 7 * (l : Int) + 2) (119 + 7 * (l : Int) + 2) a0 a1 && (gm_tyv p2_O 227 (119 + 7 * (l : Int) + 3) (119 + 7 * (l : Int) + 3) 0 299 && (gm_tyv p2_O 227 (119 + 7 * (l : Int) + 4) (119 + 7 * (l : Int) + 4) r0 r1 && (gm_tyv p2_O 227 (119 + 7 * (l : Int) + 5) (119 + 7 * (l : Int) + 5) (-1) (-1) && gm_tyv p2_O 227 (119 + 7 * (l : Int) + 6) (119 + 7 * (l : Int) + 6) (-1) (-1))))))) && gm_tyv p2_O 227 4 4 1 24
noncomputable def op_ts (f0 f1 t0 t1 a0 a1 r0 r1 : Int) : ck_Sum := ((1, 0, 0), 245, [.inr (.inr (.inl 226)), .inl (f0, f1, []), .inl (t0, t1, []), .inl (a0, a1, []), .inl (r0, r1, [])], ([], [], [(227, 4, 4, (0, 23, [(22, 0)])), (227, 9, 9, (0, 299, [(11, 0)]))]), ([(227, 4, 4), (227, 119, 286)], []), [(.inr none, 245, ([], [], [(227, 4, 4, (1, 24, [(22, 1)]))]))])
theorem op_throw {f0 f1 t0 t1 a0 a1 r0 r1 : Int} (hc : op_ck f0 f1 t0 t1 a0 a1 r0 r1 = true) (hb : 0 ≤ t0 ∨ f1 < 0) : ck_Ok p2_O X LX 271 (op_ts f0 f1 t0 t1 a0 a1 r0 r1) := by
  intro d σ vs n K R M hd hn hvs hnm hF hf
  obtain ⟨_, _, rfl, rfl, _, _, rfl, ⟨f, rfl, -, u1, u2, -⟩, _, _, rfl, ⟨t, rfl, -, u3, u4, -⟩, _, _, rfl, ⟨la, rfl, -, u5, u6, -⟩, _, _, rfl, ⟨ro, rfl, -, u7, u8, -⟩, rfl⟩ := hvs
  have u1 : f0 ≤ f := u1
  have u2 : f ≤ f1 := u2
  have u3 : t0 ≤ t := u3
  have u4 : t ≤ t1 := u4
  have u5 : a0 ≤ la := u5
  have u6 : la ≤ a1 := u6
  have u7 : r0 ≤ ro := u7
  have u8 : ro ≤ r1 := u8
  have hn : n = 245 := hn
  subst hn
  have h4 := (hf.2.2 (227, 4, 4, (0, 23, [(22, 0)])) List.mem_cons_self).2 4 (Int.le_refl _) (Int.le_refl _)
  have h41 : (0 : Int) ≤ M 227 4 := h4.2.1
  have h42 : M 227 4 ≤ (23 : Int) := h4.2.2.1
  have h9 := ((gm_tyr_s hF op_t9).2 9 (Int.le_refl _) (Int.le_refl _)).2
  have h91 : (0 : Int) ≤ M 227 9 := h9.1
  have h92 : M 227 9 ≤ (299 : Int) := h9.2
  have h22 : σ 22 = M 227 4 := hnm (22, 227, 4) (by decide +kernel)
  refine w271 (md_mo hF) (md_kd hF md_o.1.2) (md_rf hF md_r.1.1) hd ⟨h41, by omega⟩ ?_
  obtain ⟨l0, hl0⟩ : ∃ l0 : Nat, M 227 4 = (l0 : Int) := ⟨(M 227 4).toNat, by omega⟩
  rw [hl0]
  rw [hl0] at h41 h42 h22
  unfold op_ck at hc
  rw [Bool.and_eq_true] at hc
  have hl := List.all_eq_true.mp hc.1 l0 (List.mem_range.mpr (by omega))
  simp only [Bool.and_eq_true] at hl
  obtain ⟨c0, c1, c2, c3, c4, c5, c6⟩ := hl
  have w0 : ck_okW ([(227, 4, 4), (227, 119, 286)] : List (Nat × Int × Int)) 245 227 119 286 = true := by decide
  have w4 : ck_okW ([(227, 4, 4), (227, 119, 286)] : List (Nat × Int × Int)) 245 227 4 4 = true := by decide
  refine ⟨⟨hF.1, hF.2.1, ?_, hF.2.2.2.1, ?_⟩, ?_, _, List.mem_cons_self, trivial, rfl, ⟨(fun _ h => nomatch h), (fun _ h => nomatch h), fun q hq => ?_⟩⟩
  · exact gm_Ft_M (gm_Ft_M (gm_Ft_M (gm_Ft_M (gm_Ft_M (gm_Ft_M (gm_Ft_M (gm_Ft_M hF.2.2.1 c0 u1 u2) c1 u3 u4) c2 u5 u6) c3 h91 h92) c4 u7 u8) c5 (Int.le_refl _) (Int.le_refl _)) c6 (Int.le_refl _) (Int.le_refl _)) hc.2 (by omega) (by omega)
  · have hJ : j_J p2_ty K M := hF.2.2.2.2
    obtain ⟨⟨o7, o8, o9, oA⟩, tA, t7, t8, t9⟩ := hJ
    show j_J p2_ty K _
    unfold j_J
    rw [md_thr_f (by decide : ¬ 228 = 227), md_thr_f (by decide : ¬ 229 = 227), md_thr_f (by decide : ¬ 230 = 227)]
    refine ⟨⟨jO_throw (l0 := l0) o7 (by rw [md_thr_4, hl0]) (md_thr_ne (by omega) (by omega)) (fun l hl hne => ⟨md_thr_ne (by omega) (by omega), md_thr_ne (by omega) (by omega), md_thr_ne (by omega) (by omega)⟩) (fun h => ?_), o8, o9, oA⟩, tA, jT_cg (fun j j1 j2 => md_thr_ne (by omega) (by omega)) t7, t8, t9⟩
    rw [md_thr_0 (by omega)] at h
    rw [md_thr_1 (by omega)]
    omega
  · exact ck_fr_M (ck_fr_M (ck_fr_M (ck_fr_M (ck_fr_M (ck_fr_M (ck_fr_M (ck_fr_M ck_fr_0 w0 (by omega) (by omega)) w0 (by omega) (by omega)) w0 (by omega) (by omega)) w0 (by omega) (by omega)) w0 (by omega) (by omega)) w0 (by omega) (by omega)) w0 (by omega) (by omega)) w4 (by omega) (by omega)
  · rw [List.mem_singleton.mp hq]
    refine ⟨by decide, fun j j1 j2 => ?_⟩
    have j1 : (4 : Int) ≤ j := j1
    have j2 : j ≤ (4 : Int) := j2
    have j3 : j = 4 := by omega
    subst j3
    show gm_ir (md_thr M l0 f t la ro 227 4) ∧ ck_gi σ (1, 24, [(22, 1)]) (md_thr M l0 f t la ro 227 4)
    rw [md_thr_4]
    refine ⟨⟨by omega, by omega⟩, by show (1 : Int) ≤ _; omega, by show _ ≤ (24 : Int); omega, fun q hq => ?_⟩
    rw [List.mem_singleton.mp hq]
    exact ⟨fun _ => by rw [h22], fun h => absurd h (by decide)⟩
theorem md_opn_f {o l p : Int} {c : Nat} (h : ¬ c = 227) : md_opn M o l p c = M c := by
  unfold md_opn md_set
  rw [uM_f h, uM_f h, uM_f h, uM_f h, uM_f h, uM_f h]
theorem md_opn_ne {o l p j : Int} (h4 : ¬ j = 14) (h : ¬ (124 + 7 * l ≤ j ∧ j ≤ 125 + 7 * l)) (h5 : ¬ (323 + 3 * o ≤ j ∧ j ≤ 325 + 3 * o)) : md_opn M o l p 227 j = M 227 j := by
  unfold md_opn md_set
  rw [uM_ne (by omega), uM_ne (by omega), uM_ne (by omega), uM_ne (by omega), uM_ne (by omega), uM_ne (by omega)]
theorem md_opn_14 {o l p : Int} : md_opn M o l p 227 14 = o + 1 := by
  unfold md_opn
  rw [uM_at]
theorem md_opn_5 {o l p : Int} (hl : 0 ≤ l ∧ l < 24) (ho : 0 ≤ o) : md_opn M o l p 227 (124 + 7 * l) = p := by
  unfold md_opn md_set
  rw [uM_ne (by omega), uM_ne (by omega), uM_ne (by omega), uM_ne (by omega), uM_ne (by omega)]
  unfold gm_uM
  rw [if_pos ⟨rfl, by omega⟩]
noncomputable def op_ck2 (l : Nat) (p0 p1 : Int) : Bool := (gm_tyv p2_O 227 (119 + 7 * (l : Int) + 5) (119 + 7 * (l : Int) + 5) p0 p1 && (gm_tyv p2_O 227 (119 + 7 * (l : Int) + 6) (119 + 7 * (l : Int) + 6) 0 299 && gm_tyv p2_O 227 14 14 1 24)) && ((List.range 24).all fun (o : Nat) => gm_tyv p2_O 227 (323 + 3 * (o : Int)) (323 + 3 * (o : Int)) 0 299 && (gm_tyv p2_O 227 (323 + 3 * (o : Int) + 1) (323 + 3 * (o : Int) + 1) l l && gm_tyv p2_O 227 (323 + 3 * (o : Int) + 2) (323 + 3 * (o : Int) + 2) p0 p1))
noncomputable def op_os (l : Nat) (p0 p1 : Int) : ck_Sum := ((3, 0, 0), 245, [.inr (.inr (.inl 226)), .inl (ck_one l), .inl (p0, p1, [])], ([], [], [(227, 124 + 7 * (l : Int), 124 + 7 * (l : Int), ck_one (-1))]), ([(227, 14, 14), (227, 124 + 7 * (l : Int), 125 + 7 * (l : Int)), (227, 323, 394)], []), [(.inr none, 245, ([], [], [(227, 124 + 7 * (l : Int), 124 + 7 * (l : Int), (p0, p1, []))]))])
theorem op_open {l : Nat} {p0 p1 : Int} (hl : l < 24) (hp : 0 ≤ p0) (hc : op_ck2 l p0 p1 = true) : ck_Ok p2_O X LX 319 (op_os l p0 p1) := by
  intro d σ vs n K R M hd hn hvs hnm hF hf
  obtain ⟨_, _, rfl, rfl, _, _, rfl, ⟨f, rfl, -, u1, u2, -⟩, _, _, rfl, ⟨p, rfl, u9, u3, u4, -⟩, rfl⟩ := hvs
  have u1 : (l : Int) ≤ f := u1
  have u2 : f ≤ (l : Int) := u2
  have u3 : p0 ≤ p := u3
  have u4 : p ≤ p1 := u4
  have u5 : f = (l : Int) := by omega
  subst u5
  have hn : n = 245 := hn
  subst hn
  have hd : 3 ≤ d := hd
  have h5 := (hf.2.2 (227, 124 + 7 * (l : Int), 124 + 7 * (l : Int), ck_one (-1)) List.mem_cons_self).2 (124 + 7 * (l : Int)) (Int.le_refl _) (Int.le_refl _)
  have h51 : (-1 : Int) ≤ M 227 (124 + 7 * (l : Int)) := h5.2.1
  have h52 : M 227 (124 + 7 * (l : Int)) ≤ (-1 : Int) := h5.2.2.1
  have h9 := ((gm_tyr_s hF op_t9).2 9 (Int.le_refl _) (Int.le_refl _)).2
  have h91 : (0 : Int) ≤ M 227 9 := h9.1
  have h92 : M 227 9 ≤ (299 : Int) := h9.2
  have h4 := ((gm_tyr_s hF op_t4).2 4 (Int.le_refl _) (Int.le_refl _)).2
  have h42 : M 227 4 ≤ (24 : Int) := h4.2
  have h14 := ((gm_tyr_s hF op_t14).2 14 (Int.le_refl _) (Int.le_refl _)).2
  have h141 : (0 : Int) ≤ M 227 14 := h14.1
  have hJ : j_J p2_ty K M := hF.2.2.2.2
  obtain ⟨⟨o7, o8, o9, oA⟩, tA, t7, t8, t9⟩ := hJ
  have hlt := jO_lt (f := M 227) hl o7 (by omega)
  refine w319 (md_mo hF) (md_kd hF md_o.1.2) (md_rf hF md_r.1.1) (by omega) ⟨by omega, by omega⟩ ⟨h141, by omega⟩ ?_
  obtain ⟨o, ho⟩ : ∃ o : Nat, M 227 14 = (o : Int) := ⟨(M 227 14).toNat, by omega⟩
  rw [ho]
  rw [ho] at h141 hlt
  unfold op_ck2 at hc
  simp only [Bool.and_eq_true] at hc
  obtain ⟨⟨c5, c6, c14⟩, hc⟩ := hc
  have hol := List.all_eq_true.mp hc o (List.mem_range.mpr (by omega))
  simp only [Bool.and_eq_true] at hol
  obtain ⟨c0, c1, c2⟩ := hol
  have w0 : ck_okW ([(227, 14, 14), (227, 124 + 7 * (l : Int), 125 + 7 * (l : Int)), (227, 323, 394)] : List (Nat × Int × Int)) 245 227 (124 + 7 * (l : Int)) (125 + 7 * (l : Int)) = true := by simp [ck_okW_def]
  have w3 : ck_okW ([(227, 14, 14), (227, 124 + 7 * (l : Int), 125 + 7 * (l : Int)), (227, 323, 394)] : List (Nat × Int × Int)) 245 227 323 394 = true := by simp [ck_okW_def]
  have w4 : ck_okW ([(227, 14, 14), (227, 124 + 7 * (l : Int), 125 + 7 * (l : Int)), (227, 323, 394)] : List (Nat × Int × Int)) 245 227 14 14 = true := by simp [ck_okW_def]
  refine ⟨⟨hF.1, hF.2.1, ?_, hF.2.2.2.1, ?_⟩, ?_, _, List.mem_cons_self, trivial, rfl, ⟨(fun _ h => nomatch h), (fun _ h => nomatch h), fun q hq => ?_⟩⟩
  · exact gm_Ft_M (gm_Ft_M (gm_Ft_M (gm_Ft_M (gm_Ft_M (gm_Ft_M hF.2.2.1 c5 u3 u4) c6 h91 h92) c0 h91 h92) c1 (Int.le_refl _) (Int.le_refl _)) c2 u3 u4) c14 (by omega) (by omega)
  · show j_J p2_ty K _
    unfold j_J
    rw [md_opn_f (by decide : ¬ 228 = 227), md_opn_f (by decide : ¬ 229 = 227), md_opn_f (by decide : ¬ 230 = 227)]
    refine ⟨⟨jO_open (l0 := l) hl o7 (md_opn_ne (by omega) (by omega) (by omega)) (by rw [md_opn_14, ho]) (by omega) (by rw [md_opn_5 ⟨by omega, by omega⟩ h141]; omega) (fun l2 hl2 => ⟨md_opn_ne (by omega) (by omega) (by omega), md_opn_ne (by omega) (by omega) (by omega), fun hne => md_opn_ne (by omega) (by omega) (by omega)⟩), o8, o9, oA⟩, tA, jT_cg (fun j j1 j2 => md_opn_ne (by omega) (by omega) (by omega)) t7, t8, t9⟩
  · exact ck_fr_M (ck_fr_M (ck_fr_M (ck_fr_M (ck_fr_M (ck_fr_M ck_fr_0 w0 (by omega) (by omega)) w0 (by omega) (by omega)) w3 (by omega) (by omega)) w3 (by omega) (by omega)) w3 (by omega) (by omega)) w4 (by omega) (by omega)
  · rw [List.mem_singleton.mp hq]
    refine ⟨by show (227 : Nat) ≤ 245; decide, fun j j1 j2 => ?_⟩
    have j1 : 124 + 7 * (l : Int) ≤ j := j1
    have j2 : j ≤ 124 + 7 * (l : Int) := j2
    have j3 : j = 124 + 7 * (l : Int) := by omega
    subst j3
    show gm_ir (md_opn M o l p 227 (124 + 7 * (l : Int))) ∧ ck_gi σ (p0, p1, []) (md_opn M o l p 227 (124 + 7 * (l : Int)))
    rw [md_opn_5 ⟨by omega, by omega⟩ h141]
    exact ⟨u9, u3, u4, fun _ h => nomatch h⟩
noncomputable def op_os0 (l : Nat) (p : ck_A) (f0 f1 t0 t1 : Int) : ck_Sum := ((3, 0, 0), 245, [.inr (.inr (.inl 226)), .inl (ck_one l), p], ([], [], [(227, 119 + 7 * (l : Int), 119 + 7 * (l : Int), (f0, f1, [])), (227, 120 + 7 * (l : Int), 120 + 7 * (l : Int), (t0, t1, []))]), ([], []), [])
theorem op_none {l : Nat} {p : ck_A} {f0 f1 t0 t1 : Int} (hl : l < 24) (hf0 : 0 ≤ f0) (ht : t1 < 0) : ck_Ok p2_O X LX 319 (op_os0 l p f0 f1 t0 t1) := by
  intro d σ vs n K R M hd hn hvs hnm hF hf
  have h0 := (hf.2.2 (227, 119 + 7 * (l : Int), 119 + 7 * (l : Int), (f0, f1, [])) List.mem_cons_self).2 (119 + 7 * (l : Int)) (Int.le_refl _) (Int.le_refl _)
  have h1 := (hf.2.2 (227, 120 + 7 * (l : Int), 120 + 7 * (l : Int), (t0, t1, [])) (List.mem_cons_of_mem _ List.mem_cons_self)).2 (120 + 7 * (l : Int)) (Int.le_refl _) (Int.le_refl _)
  have h01 : f0 ≤ M 227 (119 + 7 * (l : Int)) := h0.2.1
  have h11 : M 227 (120 + 7 * (l : Int)) ≤ t1 := h1.2.2.1
  have hJ : j_J p2_ty K M := hF.2.2.2.2
  have := hJ.1.1.2 l hl (by omega)
  omega
end OP
