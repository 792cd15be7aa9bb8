/-! ONE END: what two judgements of the same run say holds together. -/
theorem dt_end {tb : Tables} {e : Env} {below : List Frame} {s t1 t2 : State} {o1 o2 : Outcome} (h1 : Steps tb e below s t1) (e1 : Ended t1 below o1) (h2 : Steps tb e below s t2) (e2 : Ended t2 below o2) : t1 = t2 ∧ o1 = o2 := by
  obtain ⟨n1, rfl, w1⟩ := h1
  obtain ⟨n2, rfl, w2⟩ := h2
  obtain ⟨rfl, h⟩ := the_end_unique (f := fun k => stepsAlone tb e k s) w1 e1 w2 e2
  exact ⟨rfl, h⟩
/-- the same value, as the machine has it -/
def dt_v : Option gm_V → Option gm_V → Prop
  | some (.inl x), some (.inl y) => Int32.ofInt x = Int32.ofInt y
  | none, some _ => False
  | some _, none => False
  | _, _ => True
def dt_o : gm_O → gm_O → Prop
  | .inl u, .inl v => dt_v u v
  | .inr _, .inr _ => True
  | _, _ => False
/-- the same numbers in the cells that were there -/
def dt_m (n : Nat) (K1 : gm_K) (M1 : gm_M) (K2 : gm_K) (M2 : gm_M) : Prop := ∀ k, 1 ≤ k → k ≤ n → K1 k = K2 k →
  (((K1 k).1 = 0 ∨ (K1 k).1 = 1) → ∀ j : Nat, j < (K1 k).2 → Int32.ofInt (M1 k j) = Int32.ofInt (M2 k j)) ∧
  ((K1 k).1 = 2 → ∀ j : Nat, j < (K1 k).2 → Int64.ofInt (M1 k j) = Int64.ofInt (M2 k j)) ∧
  ∀ c j : Nat, (K1 k).1 = c + 4 → j < gm_nf c → ¬ gm_isr c j = true → Int32.ofInt (M1 k j) = Int32.ofInt (M2 k j)
theorem dt_i {x y : Int} (h : Int32.ofInt x = Int32.ofInt y) (hx : gm_ir x) (hy : gm_ir y) : x = y := by
  have h2 := congrArg Int32.toInt h
  rw [gm_w_toInt, gm_w_toInt, gm_ir_w hx, gm_ir_w hy] at h2
  exact h2
theorem dt_cv {α1 α2 adK : Nat → Nat} {n1 n2 : Nat} {u v : Option gm_V} {w : Option Value} (h1 : gm_ov α1 adK n1 u w) (h2 : gm_ov α2 adK n2 v w) : dt_v u v := by
  cases u with
  | none =>
    cases v with
    | none => exact trivial
    | some v =>
      obtain ⟨w2, rfl, -⟩ := h2
      exact absurd h1 (by intro h; cases h)
  | some u =>
    obtain ⟨w1, rfl, a1⟩ := h1
    cases v with
    | none => exact absurd h2 (by intro h; cases h)
    | some v =>
      obtain ⟨w2, e2, a2⟩ := h2
      cases e2
      rcases u with x | u
      · rcases v with y | v
        · have a1 : w1 = .int (Int32.ofInt x) := a1
          have a2 : w1 = .int (Int32.ofInt y) := a2
          rw [a1] at a2
          exact Value.int.inj a2
        · exact trivial
      · rcases v with y | v
        · exact trivial
        · exact trivial
theorem dt_arr {cA cB : ClassId} {n : Nat} {f g : Nat → Value} (h : arrV cA n f = arrV cB n g) : ∀ j, j < n → f j = g j := by
  intro j hj
  have h2 := congrArg (fun c : Cell => c.slots[j]?) h
  simpa [arrV, hj] using h2
theorem dt_mem {D : va_G} {ti : Nat → ClassId} {H : Heap} {α α1 α2 : Nat → Nat} {n n1 n2 : Nat} {K1 K2 : gm_K} {R1 R2 : gm_R} {M1 M2 : gm_M} (x1 : gm_xt α n α1 n1) (x2 : gm_xt α n α2 n2) (p1 : va_P D gm_cs (gm_wl ti α1 n1 K1 R1 M1) H) (p2 : va_P D gm_cs (gm_wl ti α2 n2 K2 R2 M2) H) : dt_m n K1 M1 K2 M2 := by
  intro k h1 h2 hK
  have a1 := p1 _ _ (gm_wl_at (ti := ti) (α := α1) (K := K1) (R := R1) (M := M1) h1 (Nat.le_trans h2 x1.1))
  have a2 := p2 _ _ (gm_wl_at (ti := ti) (α := α2) (K := K2) (R := R2) (M := M2) h1 (Nat.le_trans h2 x2.1))
  rw [x1.2.1 k h1 h2] at a1
  rw [x2.2.1 k h1 h2] at a2
  refine ⟨fun h j hj => ?_, fun h j hj => ?_, fun c j h hj hr => ?_⟩
  · rcases h with h | h
    · have e1 : gm_en ti α1 K1 R1 M1 k = .inl (ti 0, (K1 k).2, .inl fun j => Int32.ofInt (M1 k j)) := by unfold gm_en; rw [h]
      have e2 : gm_en ti α2 K2 R2 M2 k = .inl (ti 0, (K1 k).2, .inl fun j => Int32.ofInt (M2 k j)) := by unfold gm_en; rw [← hK, h]
      rw [e1] at a1
      rw [e2] at a2
      have a3 : H[α k]? = some (arrV (ti 0) (K1 k).2 (fun j => .int (Int32.ofInt (M1 k (j : Int))))) := a1
      have a4 : H[α k]? = some (arrV (ti 0) (K1 k).2 (fun j => .int (Int32.ofInt (M2 k (j : Int))))) := a2
      rw [a3] at a4
      have a5 := dt_arr (f := fun j : Nat => .int (Int32.ofInt (M1 k (j : Int)))) (g := fun j : Nat => .int (Int32.ofInt (M2 k (j : Int)))) (Option.some.inj a4) j hj
      exact Value.int.inj a5
    · have e1 : gm_en ti α1 K1 R1 M1 k = .inl (ti 1, (K1 k).2, .inl fun j => Int32.ofInt (M1 k j)) := by unfold gm_en; rw [h]
      have e2 : gm_en ti α2 K2 R2 M2 k = .inl (ti 1, (K1 k).2, .inl fun j => Int32.ofInt (M2 k j)) := by unfold gm_en; rw [← hK, h]
      rw [e1] at a1
      rw [e2] at a2
      have a3 : H[α k]? = some (arrV (ti 1) (K1 k).2 (fun j => .int (Int32.ofInt (M1 k (j : Int))))) := a1
      have a4 : H[α k]? = some (arrV (ti 1) (K1 k).2 (fun j => .int (Int32.ofInt (M2 k (j : Int))))) := a2
      rw [a3] at a4
      have a5 := dt_arr (f := fun j : Nat => .int (Int32.ofInt (M1 k (j : Int)))) (g := fun j : Nat => .int (Int32.ofInt (M2 k (j : Int)))) (Option.some.inj a4) j hj
      exact Value.int.inj a5
  · have e1 : gm_en ti α1 K1 R1 M1 k = .inl (ti 2, (K1 k).2, .inr (.inl fun j => Int64.ofInt (M1 k j))) := by unfold gm_en; rw [h]
    have e2 : gm_en ti α2 K2 R2 M2 k = .inl (ti 2, (K1 k).2, .inr (.inl fun j => Int64.ofInt (M2 k j))) := by unfold gm_en; rw [← hK, h]
    rw [e1] at a1
    rw [e2] at a2
    have a3 : H[α k]? = some (arrV (ti 2) (K1 k).2 (fun j => .long (Int64.ofInt (M1 k (j : Int))))) := a1
    have a4 : H[α k]? = some (arrV (ti 2) (K1 k).2 (fun j => .long (Int64.ofInt (M2 k (j : Int))))) := a2
    rw [a3] at a4
    have a5 := dt_arr (f := fun j : Nat => .long (Int64.ofInt (M1 k (j : Int)))) (g := fun j : Nat => .long (Int64.ofInt (M2 k (j : Int)))) (Option.some.inj a4) j hj
    exact Value.long.inj a5
  · have e1 : gm_en ti α1 K1 R1 M1 k = .inr (c, gm_fs α1 R1 M1 k c) := gm_en_obj h
    have e2 : gm_en ti α2 K2 R2 M2 k = .inr (c, gm_fs α2 R2 M2 k c) := gm_en_obj (by rw [← hK]; exact h)
    rw [e1] at a1
    rw [e2] at a2
    obtain ⟨r1, hr1, c1, b1, -, -, f1⟩ := a1
    obtain ⟨r2, hr2, c2, b2, -, -, f2⟩ := a2
    have hr1 : gm_cs[c]? = some r1 := hr1
    have hr2 : gm_cs[c]? = some r2 := hr2
    rw [hr1] at hr2
    cases hr2
    rw [b1] at b2
    cases b2
    have hc : c < 12 := by
      have := (List.getElem?_eq_some_iff.mp hr1).1
      exact this
    obtain ⟨T, N, q1, q2⟩ := gm_cs_get hc
    rw [hr1] at q1
    cases q1
    have g1 : c1.slots[D.2 c j]? = some (vp_V (gm_fs α1 R1 M1 k c) j) := f1 j (by show j < N; omega)
    have g2 : c1.slots[D.2 c j]? = some (vp_V (gm_fs α2 R2 M2 k c) j) := f2 j (by show j < N; omega)
    rw [g1] at g2
    have g3 := Option.some.inj g2
    unfold vp_V at g3
    rw [List.getD_eq_getElem?_getD, List.getD_eq_getElem?_getD, gm_fs_at hj, gm_fs_at hj, if_neg hr, if_neg hr] at g3
    exact Value.int.inj g3
theorem gm_Wp_and {X : Int → Int} {LX d bc bs mi pc n : Nat} {L : gm_L} {st : List gm_V} {K : gm_K} {R : gm_R} {M : gm_M} {Q1 Q2 : gm_Q} (h1 : gm_Wp X LX d bc bs mi pc L st n K R M Q1) (h2 : gm_Wp X LX d bc bs mi pc L st n K R M Q2) : gm_Wp X LX d bc bs mi pc L st n K R M (fun o n1 K1 R1 M1 => Q1 o n1 K1 R1 M1 ∧ ∃ (o2 : gm_O) (n2 : Nat) (K2 : gm_K) (R2 : gm_R) (M2 : gm_M), Q2 o2 n2 K2 R2 M2 ∧ dt_o o o2 ∧ dt_m n K1 M1 K2 M2) := by
  intro p l e Rm s m args below meth c D ti adK adV A α0 n0 mc ms hcx hev hd hd2 hmc hms hA α H locs cells slots ls sv hxt hc1 hc2 hR hL hS
  have k1 := h1 p l e Rm s m args below meth c D ti adK adV A α n mc ms hcx hev hd hd2 hmc hms hA α H locs cells slots ls sv gm_xt.rf hc1 hc2 hR hL hS
  have k2 := h2 p l e Rm s m args below meth c D ti adK adV A α n mc ms hcx hev hd hd2 hmc hms hA α H locs cells slots ls sv gm_xt.rf hc1 hc2 hR hL hS
  intro T hT Xs
  obtain ⟨t1, s1, o1, r1, e1, q1⟩ := k1 T hT Xs
  obtain ⟨t2, s2, o2, r2, e2, q2⟩ := k2 T hT Xs
  obtain ⟨rfl, rfl⟩ := dt_end s1 e1 s2 e2
  refine ⟨t1, s1, o1, r1, e1, ?_⟩
  rcases q1 with ⟨⟨⟨v1, u1, α1, n1, K1, R1, M1, ho1, hv1, hq1, hx1, hk1, hp1, hd1, hr1⟩, hF1⟩, hL1⟩ | ⟨a1, ho1, E1, ce1, L1, ⟨⟨x1, α1, n1, K1, R1, M1, hE1, hx15, hq1, hx1, hk1, hp1, hd1, hr1⟩, hF1⟩, hrest⟩
  · rcases q2 with ⟨⟨⟨v2, u2, α2, n2, K2, R2, M2, ho2, hv2, hq2, hx2, hk2, hp2, hd2', hr2⟩, -⟩, -⟩ | ⟨a2, ho2, -⟩
    · rw [ho1] at ho2
      cases ho2
      exact Or.inl ⟨⟨⟨v1, u1, α1, n1, K1, R1, M1, ho1, hv1, ⟨hq1, .inl u2, n2, K2, R2, M2, hq2, dt_cv hv1 hv2, dt_mem hx1 hx2 hp1 hp2⟩, gm_xt.trans hxt hx1, hk1, hp1, hd1, hr1⟩, hF1⟩, hL1⟩
    · rw [ho1] at ho2
      cases ho2
  · rcases q2 with ⟨⟨⟨v2, u2, α2, n2, K2, R2, M2, ho2, hv2, hq2, hx2, hk2, hp2, hd2', hr2⟩, -⟩, -⟩ | ⟨a2, ho2, E2, ce2, L2, ⟨⟨x2, α2, n2, K2, R2, M2, hE2, hx25, hq2, hx2, hk2, hp2, hd2', hr2⟩, -⟩, -⟩
    · rw [ho1] at ho2
      cases ho2
    · exact Or.inr ⟨a1, ho1, E1, ce1, L1, ⟨⟨x1, α1, n1, K1, R1, M1, hE1, hx15, ⟨hq1, .inr x2, n2, K2, R2, M2, hq2, trivial, dt_mem hx1 hx2 hp1 hp2⟩, gm_xt.trans hxt hx1, hk1, hp1, hd1, hr1⟩, hF1⟩, hrest⟩
