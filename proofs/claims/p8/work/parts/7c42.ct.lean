/-! THE CLASS'S CONSTRUCTOR, told by two rows at once: what is reached by the same references is the same. -/
noncomputable def dt_S (n n1 n2 : Nat) (S : Nat → Nat → Prop) (K1 : gm_K) (R1 : gm_R) (M1 : gm_M) (K2 : gm_K) (R2 : gm_R) (M2 : gm_M) : Prop :=
  (∀ k, 1 ≤ k → k ≤ n → S k k) ∧
  (∀ k1 k2 c j r1 r2 : Nat, S k1 k2 → K1 k1 = K2 k2 → (K1 k1).1 = c + 4 → j < gm_nf c → gm_isr c j = true → R1 k1 (j : Int) = r1 → R2 k2 (j : Int) = r2 → 1 ≤ r1 → r1 ≤ n1 → r1 < 100000 → 1 ≤ r2 → r2 ≤ n2 → r2 < 100000 → S r1 r2) ∧
  (∀ k1 k2 : Nat, S k1 k2 → K1 k1 = K2 k2 → (K1 k1).1 = 0 → ∀ j : Nat, j < (K1 k1).2 → Int32.ofInt (M1 k1 (j : Int)) = Int32.ofInt (M2 k2 (j : Int)))
theorem dt_mem2 {D : va_G} {ti : Nat → ClassId} {H : Heap} {α α1 α2 : Nat → Nat} {n n1 n2 : Nat} {K1 K2 : gm_K} {R1 R2 : gm_R} {M1 M2 : gm_M} (x1 : gm_xt α n α1 n1) (x2 : gm_xt α n α2 n2) (p1 : va_P D gm_cs (gm_wl ti α1 n1 K1 R1 M1) H) (p2 : va_P D gm_cs (gm_wl ti α2 n2 K2 R2 M2) H) : dt_S n n1 n2 (fun k1 k2 => α1 k1 = α2 k2 ∧ (1 ≤ k1 ∧ k1 ≤ n1) ∧ 1 ≤ k2 ∧ k2 ≤ n2) K1 R1 M1 K2 R2 M2 := by
  refine ⟨fun k h1 h2 => ⟨(x1.2.1 k h1 h2).trans (x2.2.1 k h1 h2).symm, ⟨h1, Nat.le_trans h2 x1.1⟩, h1, Nat.le_trans h2 x2.1⟩, fun k1 k2 c j r1 r2 hs hK h hj hr e1 e2 b1 b2 b3 b4 b5 b6 => ⟨?_, ⟨b1, b2⟩, b4, b5⟩, fun k1 k2 hs hK h j hj => ?_⟩
  · obtain ⟨ha, ⟨s1, s2⟩, s3, s4⟩ := hs
    have a1 := p1 _ _ (gm_wl_at (ti := ti) (α := α1) (K := K1) (R := R1) (M := M1) s1 s2)
    have a2 := p2 _ _ (gm_wl_at (ti := ti) (α := α2) (K := K2) (R := R2) (M := M2) s3 s4)
    rw [← ha] at a2
    have g1 : gm_en ti α1 K1 R1 M1 k1 = .inr (c, gm_fs α1 R1 M1 k1 c) := gm_en_obj h
    have g2 : gm_en ti α2 K2 R2 M2 k2 = .inr (c, gm_fs α2 R2 M2 k2 c) := gm_en_obj (by rw [← hK]; exact h)
    rw [g1] at a1
    rw [g2] at a2
    obtain ⟨q1, hq1, c1, v1, -, -, f1⟩ := a1
    obtain ⟨q2, hq2, c2, v2, -, -, f2⟩ := a2
    have hq1 : gm_cs[c]? = some q1 := hq1
    have hq2 : gm_cs[c]? = some q2 := hq2
    rw [hq1] at hq2
    cases hq2
    rw [v1] at v2
    cases v2
    have hc : c < 12 := (List.getElem?_eq_some_iff.mp hq1).1
    obtain ⟨T, N, w1, w2⟩ := gm_cs_get hc
    rw [hq1] at w1
    cases w1
    have g1 : c1.slots[D.2 c j]? = some (vp_V (gm_fs α1 R1 M1 k1 c) j) := f1 j (by show j < N; omega)
    have g2 : c1.slots[D.2 c j]? = some (vp_V (gm_fs α2 R2 M2 k2 c) j) := f2 j (by show j < N; omega)
    rw [g1] at g2
    have g3 := Option.some.inj g2
    unfold vp_V at g3
    rw [List.getD_eq_getElem?_getD, List.getD_eq_getElem?_getD, gm_fs_at hj, gm_fs_at hj, if_pos hr, if_pos hr, e1, e2] at g3
    cases r1 with
    | zero => omega
    | succ a =>
      cases r2 with
      | zero => omega
      | succ b =>
        have g4 : (if a + 1 < 100000 then Value.ref (α1 (a + 1)) else match α1 (a + 1) with | 0 => Value.null | x + 1 => Value.ref x) = (if b + 1 < 100000 then Value.ref (α2 (b + 1)) else match α2 (b + 1) with | 0 => Value.null | x + 1 => Value.ref x) := g3
        rw [if_pos b3, if_pos b6] at g4
        exact Value.ref.inj g4
  · obtain ⟨ha, ⟨s1, s2⟩, s3, s4⟩ := hs
    have a1 := p1 _ _ (gm_wl_at (ti := ti) (α := α1) (K := K1) (R := R1) (M := M1) s1 s2)
    have a2 := p2 _ _ (gm_wl_at (ti := ti) (α := α2) (K := K2) (R := R2) (M := M2) s3 s4)
    rw [← ha] at a2
    have e1 : gm_en ti α1 K1 R1 M1 k1 = .inl (ti 0, (K1 k1).2, .inl fun j => Int32.ofInt (M1 k1 j)) := by unfold gm_en; rw [h]
    have e2 : gm_en ti α2 K2 R2 M2 k2 = .inl (ti 0, (K1 k1).2, .inl fun j => Int32.ofInt (M2 k2 j)) := by unfold gm_en; rw [← hK, h]
    rw [e1] at a1
    rw [e2] at a2
    have a3 : H[α1 k1]? = some (arrV (ti 0) (K1 k1).2 (fun j => .int (Int32.ofInt (M1 k1 (j : Int))))) := a1
    have a4 : H[α1 k1]? = some (arrV (ti 0) (K1 k1).2 (fun j => .int (Int32.ofInt (M2 k2 (j : Int))))) := a2
    rw [a3] at a4
    have a5 := dt_arr (f := fun j : Nat => .int (Int32.ofInt (M1 k1 (j : Int)))) (g := fun j : Nat => .int (Int32.ofInt (M2 k2 (j : Int)))) (Option.some.inj a4) j hj
    exact Value.int.inj a5
theorem gm_Wp_and2 {X : Int → Int} {LX d bc bs mi pc n : Nat} {L : gm_L} {st : List gm_V} {K : gm_K} {R : gm_R} {M : gm_M} {Q1 Q2 : gm_Q} (h1 : gm_Wp X LX d bc bs mi pc L st n K R M Q1) (h2 : gm_Wp X LX d bc bs mi pc L st n K R M Q2) : gm_Wp X LX d bc bs mi pc L st n K R M (fun o n1 K1 R1 M1 => Q1 o n1 K1 R1 M1 ∧ ∃ (o2 : gm_O) (n2 : Nat) (K2 : gm_K) (R2 : gm_R) (M2 : gm_M) (S : Nat → Nat → Prop), Q2 o2 n2 K2 R2 M2 ∧ dt_o o o2 ∧ dt_S n n1 n2 S K1 R1 M1 K2 R2 M2) := by
  intro p l e Rm s m args below meth c D ti adK adV A α0 n0 mc ms hcx hev hd hd2 hmc hms hA α H locs cells slots ls sv hxt hc1 hc2 hR hL hS
  have k1 := h1 p l e Rm s m args below meth c D ti adK adV A α n mc ms hcx hev hd hd2 hmc hms hA α H locs cells slots ls sv gm_xt.rf hc1 hc2 hR hL hS
  have k2 := h2 p l e Rm s m args below meth c D ti adK adV A α n mc ms hcx hev hd hd2 hmc hms hA α H locs cells slots ls sv gm_xt.rf hc1 hc2 hR hL hS
  intro T hT Xs
  obtain ⟨t1, s1, o1, r1, e1, q1⟩ := k1 T hT Xs
  obtain ⟨t2, s2, o2, r2, e2, q2⟩ := k2 T hT Xs
  obtain ⟨rfl, rfl⟩ := dt_end s1 e1 s2 e2
  refine ⟨t1, s1, o1, r1, e1, ?_⟩
  rcases q1 with ⟨⟨⟨v1, u1, α1, n1, K1, R1, M1, ho1, hv1, hq1, hx1, hk1, hp1, hd1, hr1⟩, hF1⟩, hL1⟩ | ⟨a1, ho1, E1, ce1, L1, ⟨⟨x1, α1, n1, K1, R1, M1, hE1, hx15, hq1, hx1, hk1, hp1, hd1, hr1⟩, hF1⟩, hrest⟩
  · rcases q2 with ⟨⟨⟨v2, u2, α2, n2, K2, R2, M2, ho2, hv2, hq2, hx2, hk2, hp2, hd2', hr2⟩, -⟩, -⟩ | ⟨a2, ho2, -⟩
    · rw [ho1] at ho2
      cases ho2
      exact Or.inl ⟨⟨⟨v1, u1, α1, n1, K1, R1, M1, ho1, hv1, ⟨hq1, .inl u2, n2, K2, R2, M2, _, hq2, dt_cv hv1 hv2, dt_mem2 hx1 hx2 hp1 hp2⟩, gm_xt.trans hxt hx1, hk1, hp1, hd1, hr1⟩, hF1⟩, hL1⟩
    · rw [ho1] at ho2
      cases ho2
  · rcases q2 with ⟨⟨⟨v2, u2, α2, n2, K2, R2, M2, ho2, hv2, hq2, hx2, hk2, hp2, hd2', hr2⟩, -⟩, -⟩ | ⟨a2, ho2, E2, ce2, L2, ⟨⟨x2, α2, n2, K2, R2, M2, hE2, hx25, hq2, hx2, hk2, hp2, hd2', hr2⟩, -⟩, -⟩
    · rw [ho1] at ho2
      cases ho2
    · exact Or.inr ⟨a1, ho1, E1, ce1, L1, ⟨⟨x1, α1, n1, K1, R1, M1, hE1, hx15, ⟨hq1, .inr x2, n2, K2, R2, M2, _, hq2, trivial, dt_mem2 hx1 hx2 hp1 hp2⟩, gm_xt.trans hxt hx1, hk1, hp1, hd1, hr1⟩, hF1⟩, hrest⟩
noncomputable def st_U : ck_F := match pc_s130u.2.2.2.2.2 with
  | oc :: _ => oc.2.2
  | [] => ([], [], [])
/-- THE ROW of the class's constructor, every heat told -/
noncomputable def pc_s130 : ck_Sum := (pc_s130u.1, pc_s130u.2.1, pc_s130u.2.2.1, pc_s130u.2.2.2.1, pc_s130u.2.2.2.2.1, [(.inr none, 225, (st_U.1, st_U.2.1, st_H ++ st_U.2.2))])
set_option maxRecDepth 100000 in
theorem st_u1 : pc_s130u.2.2.2.2.2 = [(.inr none, 225, st_U)] ∧ (pc_s130u.2.1 = 1 ∧ pc_s130u.2.2.2.1 = ([(1, 4, 0)], [], [])) := ⟨rfl, rfl, rfl⟩
set_option maxRecDepth 100000 in
theorem st_u2 : (st_U.1.any (fun q => decide (q = (200, 8, 0))) && st_U.1.any (fun q => decide (q = (201, 0, 300)))) = true ∧ (st_U.2.1.any (fun q => decide (q = (1, 8, 200))) && (st_U.2.1.any (fun q => decide (q = (200, 1, 201))) && st_U.2.2.any (fun q => decide (q.1 = 201 ∧ q.2.1 = 0 ∧ q.2.2.1 = 299)))) = true := by decide +kernel
set_option maxRecDepth 100000 in
theorem st_u3 : st_H.all (fun q => decide (q.1 = 201 ∧ 0 ≤ q.2.1 ∧ q.2.1 = q.2.2.1 ∧ q.2.1 < 300)) = true := by decide +kernel
theorem st_any {T : Type} {l : List T} {p : T → Prop} [DecidablePred p] (h : l.any (fun q => decide (p q)) = true) : ∃ q ∈ l, p q := by
  obtain ⟨q, h1, h2⟩ := List.any_eq_true.mp h
  exact ⟨q, h1, of_decide_eq_true h2⟩
theorem pc_s130_s {X : Int → Int} {LX : Nat} : ck_Ok ck_O0 X LX 0 pc_s130 := by
  intro d σ vs n K R M hd hn ha hm hF hf
  have h1 := pc_s130u_s (X := X) (LX := LX) d σ vs n K R M hd hn ha hm hF hf
  have h2 := pc_w130_s (X := X) (LX := LX) d σ vs n K R M hd hn ha hm hF hf
  refine gm_Wp_mono ?_ (gm_Wp_and2 h1 h2)
  rintro o n1 K1 R1 M1 ⟨⟨g1, g2, oc, hoc, g3, g4, g5⟩, o2, n2, K2, R2, M2, S, ⟨-, w2, oc2, hoc2, -, w4, w5⟩, -, hS⟩
  rw [st_u1.1] at hoc
  have hoc : oc = (.inr none, 225, st_U) := List.mem_singleton.mp hoc
  subst hoc
  have hoc2 : oc2 = (.inr none, 225, ([(200, 8, 0), (201, 0, 300)], [(1, 8, 200), (200, 1, 201)], st_H)) := List.mem_singleton.mp hoc2
  subst hoc2
  have g4 : n1 = 225 := g4
  have w4 : n2 = 225 := w4
  have hn : n = 1 := hn.trans st_u1.2.1
  have u2 := st_u2
  simp only [Bool.and_eq_true] at u2
  obtain ⟨⟨a1, a2⟩, a3, a4, a5⟩ := u2
  obtain ⟨q1, m1, rfl⟩ := st_any a1
  obtain ⟨q2, m2, rfl⟩ := st_any a2
  obtain ⟨q3, m3, rfl⟩ := st_any a3
  obtain ⟨q4, m4, rfl⟩ := st_any a4
  obtain ⟨q5, m5, b1, b2, b3⟩ := st_any a5
  have k1 : K1 200 = (8, 0) := (g5.1 _ m1).2
  have k2 : K1 201 = (0, 300) := (g5.1 _ m2).2
  have k3 : R1 1 8 = 200 := (g5.2.1 _ m3).2
  have k4 : R1 200 1 = 201 := (g5.2.1 _ m4).2
  have k5 : K2 200 = (8, 0) := (w5.1 (200, 8, 0) (by simp)).2
  have k6 : K2 201 = (0, 300) := (w5.1 (201, 0, 300) (by simp)).2
  have k7 : R2 1 8 = 200 := (w5.2.1 (1, 8, 200) (by simp)).2
  have k8 : R2 200 1 = 201 := (w5.2.1 (200, 1, 201) (by simp)).2
  have k0 : K 1 = (4, 0) := by
    have hf1 := hf.1
    rw [show pc_s130.2.2.2.1 = ([(1, 4, 0)], [], []) from st_u1.2.2] at hf1
    exact (hf1 (1, 4, 0) (by simp)).2
  have c1 : K1 1 = (4, 0) := (g2.2.1 1 (by omega)).trans k0
  have c2 : K2 1 = (4, 0) := (w2.2.1 1 (by omega)).trans k0
  have s1 : S 1 1 := hS.1 1 (Nat.le_refl _) (by omega)
  have s2 : S 200 200 := hS.2.1 1 1 0 8 200 200 s1 (c1.trans c2.symm) (by rw [c1]) (by decide) (by decide) k3 k7 (by omega) (by omega) (by omega) (by omega) (by omega) (by omega)
  have s3 : S 201 201 := hS.2.1 200 200 4 1 201 201 s2 (k1.trans k5.symm) (by rw [k1]) (by decide) (by decide) k4 k8 (by omega) (by omega) (by omega) (by omega) (by omega) (by omega)
  have hH : ∀ j : Int, 0 ≤ j → j < 300 → gm_ir (M2 201 j) → M1 201 j = M2 201 j := fun j j0 j1 hj => by
    have h3 := hS.2.2 201 201 s3 (k2.trans k6.symm) (by rw [k2]) j.toNat (by rw [k2]; show j.toNat < 300; omega)
    rw [show ((j.toNat : Nat) : Int) = j by omega] at h3
    have h4 := (g5.2.2 q5 m5).2 j (by omega) (by omega)
    rw [b1] at h4
    exact dt_i h3 h4.1 hj
  refine ⟨g1, g2, (.inr none, 225, (st_U.1, st_U.2.1, st_H ++ st_U.2.2)), List.mem_singleton.mpr rfl, g3, g4, g5.1, g5.2.1, fun q hq => ?_⟩
  rcases List.mem_append.mp hq with hq | hq
  · obtain ⟨e1, e2, e3, e4⟩ := of_decide_eq_true (List.all_eq_true.mp st_u3 q hq)
    have h3 := w5.2.2 q hq
    refine ⟨by omega, fun j j1 j2 => ?_⟩
    have h4 := h3.2 j j1 j2
    rw [e1] at h4 ⊢
    rw [hH j (by omega) (by omega) h4.1]
    exact h4
  · exact g5.2.2 q hq
