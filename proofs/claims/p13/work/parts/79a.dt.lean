/-! 79a.dt -/
section
/-! ONE END: what two judgements of the same run say holds together. -/
theorem dt_end {tb : Tables} {e : Env} {below : List Frame} {s t1 t2 : State} {o1 o2 : Outcome} (h1 : Steps tb e below s t1) (e1 : Ended t1 below o1) (h2 : Steps tb e below s t2) (e2 : Ended t2 below o2) : t1 = t2 ∧ o1 = o2 := by
  obtain ⟨n1, rfl, w1⟩ := h1
  obtain ⟨n2, rfl, w2⟩ := h2
  obtain ⟨rfl, h⟩ := the_end_unique (f := fun k => stepsAlone tb e k s) w1 e1 w2 e2
  exact ⟨rfl, h⟩
/-- the same value, as the machine has it -/
noncomputable def dt_v : Option gm_V → Option gm_V → Prop
  | some (.inl x), some (.inl y) => Int32.ofInt x = Int32.ofInt y
  | none, some _ => False
  | some _, none => False
  | _, _ => True
noncomputable def dt_o : gm_O → gm_O → Prop
  | .inl u, .inl v => dt_v u v
  | .inr _, .inr _ => True
  | _, _ => False
/-- the same numbers in the cells that were there -/
noncomputable def dt_m (n : Nat) (K1 : gm_K) (M1 : gm_M) (K2 : gm_K) (M2 : gm_M) : Prop := ∀ k, 1 ≤ k → k ≤ n → K1 k = K2 k →
  (((K1 k).1 = 0 ∨ (K1 k).1 = 1) → ∀ j : Nat, j < (K1 k).2 → Int32.ofInt (M1 k j) = Int32.ofInt (M2 k j)) ∧
  ((K1 k).1 = 2 → ∀ j : Nat, j < (K1 k).2 → Int64.ofInt (M1 k j) = Int64.ofInt (M2 k j)) ∧
  ∀ c j : Nat, (K1 k).1 = c + 4 → j < gm_nf c → ¬ gm_isr c j = true → Int32.ofInt (M1 k j) = Int32.ofInt (M2 k j)
theorem dt_i {x y : Int} (h : Int32.ofInt x = Int32.ofInt y) (hx : gm_ir x) (hy : gm_ir y) : x = y := by
  have h2 := congrArg Int32.toInt h
  rw [gm_w_toInt, gm_w_toInt, gm_ir_w hx, gm_ir_w hy] at h2
  exact h2
theorem dt_cv {α1 α2 adK : Nat → Nat} {n1 n2 : Nat} {u v : Option gm_V} {w : Option Value} (h1 : gm_ov α1 adK n1 u w) (h2 : gm_ov α2 adK n2 v w) : dt_v u v := by
  cases u with
  | none =>
    cases v with
    | none => exact trivial
    | some v =>
      obtain ⟨w2, rfl, -⟩ := h2
      exact absurd h1 (by intro h; cases h)
  | some u =>
    obtain ⟨w1, rfl, a1⟩ := h1
    cases v with
    | none => exact absurd h2 (by intro h; cases h)
    | some v =>
      obtain ⟨w2, e2, a2⟩ := h2
      cases e2
      rcases u with x | u
      · rcases v with y | v
        · have a1 : w1 = .int (Int32.ofInt x) := a1
          have a2 : w1 = .int (Int32.ofInt y) := a2
          rw [a1] at a2
          exact Value.int.inj a2
        · exact trivial
      · rcases v with y | v
        · exact trivial
        · exact trivial
theorem dt_arr {cA cB : ClassId} {n : Nat} {f g : Nat → Value} (h : arrV cA n f = arrV cB n g) : ∀ j, j < n → f j = g j := by
  intro j hj
  have h2 := congrArg (fun c : Cell => c.slots[j]?) h
  simpa [arrV, hj] using h2
theorem dt_mem {D : va_G} {ti : Nat → ClassId} {H : Heap} {α α1 α2 : Nat → Nat} {n n1 n2 : Nat} {K1 K2 : gm_K} {R1 R2 : gm_R} {M1 M2 : gm_M} (x1 : gm_xt α n α1 n1) (x2 : gm_xt α n α2 n2) (p1 : va_P D gm_cs (gm_wl ti α1 n1 K1 R1 M1) H) (p2 : va_P D gm_cs (gm_wl ti α2 n2 K2 R2 M2) H) : dt_m n K1 M1 K2 M2 := by
  intro k h1 h2 hK
  have a1 := p1 _ _ (gm_wl_at (ti := ti) (α := α1) (K := K1) (R := R1) (M := M1) h1 (Nat.le_trans h2 x1.1))
  have a2 := p2 _ _ (gm_wl_at (ti := ti) (α := α2) (K := K2) (R := R2) (M := M2) h1 (Nat.le_trans h2 x2.1))
  rw [x1.2.1 k h1 h2] at a1
  rw [x2.2.1 k h1 h2] at a2
  refine ⟨fun h j hj => ?_, fun h j hj => ?_, fun c j h hj hr => ?_⟩
  · rcases h with h | h
    · have e1 : gm_en ti α1 K1 R1 M1 k = .inl (ti 0, (K1 k).2, .inl fun j => Int32.ofInt (M1 k j)) := by unfold gm_en; rw [h]
      have e2 : gm_en ti α2 K2 R2 M2 k = .inl (ti 0, (K1 k).2, .inl fun j => Int32.ofInt (M2 k j)) := by unfold gm_en; rw [← hK, h]
      rw [e1] at a1
      rw [e2] at a2
      have a3 : H[α k]? = some (arrV (ti 0) (K1 k).2 (fun j => .int (Int32.ofInt (M1 k (j : Int))))) := a1
      have a4 : H[α k]? = some (arrV (ti 0) (K1 k).2 (fun j => .int (Int32.ofInt (M2 k (j : Int))))) := a2
      rw [a3] at a4
      have a5 := dt_arr (f := fun j : Nat => .int (Int32.ofInt (M1 k (j : Int)))) (g := fun j : Nat => .int (Int32.ofInt (M2 k (j : Int)))) (Option.some.inj a4) j hj
      exact Value.int.inj a5
    · have e1 : gm_en ti α1 K1 R1 M1 k = .inl (ti 1, (K1 k).2, .inl fun j => Int32.ofInt (M1 k j)) := by unfold gm_en; rw [h]
      have e2 : gm_en ti α2 K2 R2 M2 k = .inl (ti 1, (K1 k).2, .inl fun j => Int32.ofInt (M2 k j)) := by unfold gm_en; rw [← hK, h]
      rw [e1] at a1
      rw [e2] at a2
      have a3 : H[α k]? = some (arrV (ti 1) (K1 k).2 (fun j => .int (Int32.ofInt (M1 k (j : Int))))) := a1
      have a4 : H[α k]? = some (arrV (ti 1) (K1 k).2 (fun j => .int (Int32.ofInt (M2 k (j : Int))))) := a2
      rw [a3] at a4
      have a5 := dt_arr (f := fun j : Nat => .int (Int32.ofInt (M1 k (j : Int)))) (g := fun j : Nat => .int (Int32.ofInt (M2 k (j : Int)))) (Option.some.inj a4) j hj
      exact Value.int.inj a5
  · have e1 : gm_en ti α1 K1 R1 M1 k = .inl (ti 2, (K1 k).2, .inr (.inl fun j => Int64.ofInt (M1 k j))) := by unfold gm_en; rw [h]
    have e2 : gm_en ti α2 K2 R2 M2 k = .inl (ti 2, (K1 k).2, .inr (.inl fun j => Int64.ofInt (M2 k j))) := by unfold gm_en; rw [← hK, h]
    rw [e1] at a1
    rw [e2] at a2
    have a3 : H[α k]? = some (arrV (ti 2) (K1 k).2 (fun j => .long (Int64.ofInt (M1 k (j : Int))))) := a1
    have a4 : H[α k]? = some (arrV (ti 2) (K1 k).2 (fun j => .long (Int64.ofInt (M2 k (j : Int))))) := a2
    rw [a3] at a4
    have a5 := dt_arr (f := fun j : Nat => .long (Int64.ofInt (M1 k (j : Int)))) (g := fun j : Nat => .long (Int64.ofInt (M2 k (j : Int)))) (Option.some.inj a4) j hj
    exact Value.long.inj a5
  · have e1 : gm_en ti α1 K1 R1 M1 k = .inr (c, gm_fs α1 R1 M1 k c) := gm_en_obj h
    have e2 : gm_en ti α2 K2 R2 M2 k = .inr (c, gm_fs α2 R2 M2 k c) := gm_en_obj (by rw [← hK]; exact h)
    rw [e1] at a1
    rw [e2] at a2
    obtain ⟨r1, hr1, c1, b1, -, -, f1⟩ := a1
    obtain ⟨r2, hr2, c2, b2, -, -, f2⟩ := a2
    have hr1 : gm_cs[c]? = some r1 := hr1
    have hr2 : gm_cs[c]? = some r2 := hr2
    rw [hr1] at hr2
    cases hr2
    rw [b1] at b2
    cases b2
    have hc : c < 12 := by
      have := (List.getElem?_eq_some_iff.mp hr1).1
      exact this
    obtain ⟨T, N, q1, q2⟩ := gm_cs_get hc
    rw [hr1] at q1
    cases q1
    have g1 : c1.slots[D.2 c j]? = some (vp_V (gm_fs α1 R1 M1 k c) j) := f1 j (by show j < N; omega)
    have g2 : c1.slots[D.2 c j]? = some (vp_V (gm_fs α2 R2 M2 k c) j) := f2 j (by show j < N; omega)
    rw [g1] at g2
    have g3 := Option.some.inj g2
    unfold vp_V at g3
    rw [List.getD_eq_getElem?_getD, List.getD_eq_getElem?_getD, gm_fs_at hj, gm_fs_at hj, if_neg hr, if_neg hr] at g3
    exact Value.int.inj g3
theorem gm_Wp_and {X : Int → Int} {LX d bc bs mi pc n : Nat} {L : gm_L} {st : List gm_V} {K : gm_K} {R : gm_R} {M : gm_M} {Q1 Q2 : gm_Q} (h1 : gm_Wp X LX d bc bs mi pc L st n K R M Q1) (h2 : gm_Wp X LX d bc bs mi pc L st n K R M Q2) : gm_Wp X LX d bc bs mi pc L st n K R M (fun o n1 K1 R1 M1 => Q1 o n1 K1 R1 M1 ∧ ∃ (o2 : gm_O) (n2 : Nat) (K2 : gm_K) (R2 : gm_R) (M2 : gm_M), Q2 o2 n2 K2 R2 M2 ∧ dt_o o o2 ∧ dt_m n K1 M1 K2 M2) := by
  intro p l e Rm s m args below meth c D ti adK adV A α0 n0 mc ms hcx hev hd hd2 hmc hms hA α H locs cells slots ls sv hxt hc1 hc2 hR hL hS
  have k1 := h1 p l e Rm s m args below meth c D ti adK adV A α n mc ms hcx hev hd hd2 hmc hms hA α H locs cells slots ls sv gm_xt.rf hc1 hc2 hR hL hS
  have k2 := h2 p l e Rm s m args below meth c D ti adK adV A α n mc ms hcx hev hd hd2 hmc hms hA α H locs cells slots ls sv gm_xt.rf hc1 hc2 hR hL hS
  intro T hT Xs
  obtain ⟨t1, s1, o1, r1, e1, q1⟩ := k1 T hT Xs
  obtain ⟨t2, s2, o2, r2, e2, q2⟩ := k2 T hT Xs
  obtain ⟨rfl, rfl⟩ := dt_end s1 e1 s2 e2
  refine ⟨t1, s1, o1, r1, e1, ?_⟩
  rcases q1 with ⟨⟨⟨v1, u1, α1, n1, K1, R1, M1, ho1, hv1, hq1, hx1, hk1, hp1, hd1, hr1⟩, hF1⟩, hL1⟩ | ⟨a1, ho1, E1, ce1, L1, ⟨⟨x1, α1, n1, K1, R1, M1, hE1, hx15, hq1, hx1, hk1, hp1, hd1, hr1⟩, hF1⟩, hrest⟩
  · rcases q2 with ⟨⟨⟨v2, u2, α2, n2, K2, R2, M2, ho2, hv2, hq2, hx2, hk2, hp2, hd2', hr2⟩, -⟩, -⟩ | ⟨a2, ho2, -⟩
    · rw [ho1] at ho2
      cases ho2
      exact Or.inl ⟨⟨⟨v1, u1, α1, n1, K1, R1, M1, ho1, hv1, ⟨hq1, .inl u2, n2, K2, R2, M2, hq2, dt_cv hv1 hv2, dt_mem hx1 hx2 hp1 hp2⟩, gm_xt.trans hxt hx1, hk1, hp1, hd1, hr1⟩, hF1⟩, hL1⟩
    · rw [ho1] at ho2
      cases ho2
  · rcases q2 with ⟨⟨⟨v2, u2, α2, n2, K2, R2, M2, ho2, hv2, hq2, hx2, hk2, hp2, hd2', hr2⟩, -⟩, -⟩ | ⟨a2, ho2, E2, ce2, L2, ⟨⟨x2, α2, n2, K2, R2, M2, hE2, hx25, hq2, hx2, hk2, hp2, hd2', hr2⟩, -⟩, -⟩
    · rw [ho1] at ho2
      cases ho2
    · exact Or.inr ⟨a1, ho1, E1, ce1, L1, ⟨⟨x1, α1, n1, K1, R1, M1, hE1, hx15, ⟨hq1, .inr x2, n2, K2, R2, M2, hq2, trivial, dt_mem hx1 hx2 hp1 hp2⟩, gm_xt.trans hxt hx1, hk1, hp1, hd1, hr1⟩, hF1⟩, hrest⟩
end
/-! 79b.fw -/
section
/-! WALKING BY HAND: what is read and written is told; branches over plain numbers. -/
/-- a condition between two given numbers -/
noncomputable def fw_b (c : ClassFile.Cond) (x y : Int) : Bool := match c with
  | .eq => decide (x = y)
  | .ne => decide (¬ x = y)
  | .lt => decide (x < y)
  | .ge => decide (y ≤ x)
  | .gt => decide (y < x)
  | .le => decide (x ≤ y)
section FW
variable {X : Int → Int} {LX d bc bs mi pc n : Nat} {L : gm_L} {st : List gm_V} {K : gm_K} {R : gm_R} {M : gm_M} {Q : gm_Q}
theorem fw_gi {ix k ci j : Nat} {x : Int} (h : gm_at mi pc = some (.getfield ix)) (hk : (1 ≤ k ∧ k ≤ n) ∧ (K k).1 = ci + 4) (hf : gm_fld (gm_ow mi) ix ci = some j) (hr : ¬ gm_isr ci j = true) (hx : M k (j : Int) = x) : gm_Sp X LX d mi pc L (gm_vr k :: st) n K R M (pc + 3) L (gm_vi x :: st) n K R M 0 0 := by
  have t := gm_p_get (X := X) (LX := LX) (d := d) (L := L) (st := st) (K := K) (R := R) (M := M) h hk.1 hk.2 hf
  rw [if_neg hr, hx] at t
  exact t
theorem fw_gr {ix k ci j r : Nat} (h : gm_at mi pc = some (.getfield ix)) (hk : (1 ≤ k ∧ k ≤ n) ∧ (K k).1 = ci + 4) (hf : gm_fld (gm_ow mi) ix ci = some j) (hr : gm_isr ci j = true) (hx : R k (j : Int) = r) : gm_Sp X LX d mi pc L (gm_vr k :: st) n K R M (pc + 3) L (gm_vr r :: st) n K R M 0 0 := by
  have t := gm_p_get (X := X) (LX := LX) (d := d) (L := L) (st := st) (K := K) (R := R) (M := M) h hk.1 hk.2 hf
  rw [if_pos hr, hx] at t
  exact t
theorem fw_pi {ix k ci j : Nat} {x : Int} {M' : gm_M} (h : gm_at mi pc = some (.putfield ix)) (hk : (1 ≤ k ∧ k ≤ n) ∧ (K k).1 = ci + 4) (hf : gm_fld (gm_ow mi) ix ci = some j) (hm : gm_may mi ci j = true) (hfit : gm_fk ci j = 0) (hM : gm_uM M k (j : Int) x = M') : gm_Sp X LX d mi pc L (gm_vi x :: gm_vr k :: st) n K R M (pc + 3) L st n K R M' 0 0 := by
  rw [← hM]
  exact gm_p_puti h hk.1 hk.2 hf hm (Or.inl hfit)
theorem fw_ba {k len : Nat} {e0 x : Int} (h : gm_at mi pc = some .baload) (hk : 1 ≤ k ∧ k ≤ n) (hK : K k = (1, len)) (hl : len < 2147483648) (hi : 0 ≤ e0 ∧ e0 < (len : Int)) (hx : M k e0 = x) : gm_Sp X LX d mi pc L (gm_vi e0 :: gm_vr k :: st) n K R M (pc + 1) L (gm_vi x :: st) n K R M 0 0 := by
  have w : gm_w e0 = e0 := gm_w_id (by omega) (by omega)
  have t := gm_p_bald (X := X) (LX := LX) (d := d) (L := L) (st := st) (K := K) (R := R) (M := M) (e0 := e0) h hk (by rw [hK]) (by rw [w, hK]; exact hi)
  rw [w, hx] at t
  exact t
theorem fw_ia {k len : Nat} {e0 x : Int} (h : gm_at mi pc = some .iaload) (hk : 1 ≤ k ∧ k ≤ n) (hK : K k = (0, len)) (hl : len < 2147483648) (hi : 0 ≤ e0 ∧ e0 < (len : Int)) (hx : M k e0 = x) : gm_Sp X LX d mi pc L (gm_vi e0 :: gm_vr k :: st) n K R M (pc + 1) L (gm_vi x :: st) n K R M 0 0 := by
  have w : gm_w e0 = e0 := gm_w_id (by omega) (by omega)
  have t := gm_p_iald (X := X) (LX := LX) (d := d) (L := L) (st := st) (K := K) (R := R) (M := M) (e0 := e0) h hk (by rw [hK]) (by rw [w, hK]; exact hi)
  rw [w, hx] at t
  exact t
theorem fw_is {k len : Nat} {e0 x : Int} {M' : gm_M} (h : gm_at mi pc = some .iastore) (hk : 1 ≤ k ∧ k ≤ n) (hK : K k = (0, len)) (hl : len < 2147483648) (hi : 0 ≤ e0 ∧ e0 < (len : Int)) (hM : gm_uM M k e0 x = M') : gm_Sp X LX d mi pc L (gm_vi x :: gm_vi e0 :: gm_vr k :: st) n K R M (pc + 1) L st n K R M' 0 0 := by
  have w : gm_w e0 = e0 := gm_w_id (by omega) (by omega)
  have t := gm_p_iast (X := X) (LX := LX) (d := d) (L := L) (st := st) (K := K) (R := R) (M := M) (e0 := e0) (x := x) h hk (by rw [hK]) (by rw [w, hK]; exact hi)
  rw [w, hM] at t
  exact t
theorem fw_bs {k len : Nat} {e0 x : Int} {M' : gm_M} (h : gm_at mi pc = some .bastore) (hk : 1 ≤ k ∧ k ≤ n) (hK : K k = (1, len)) (hl : len < 2147483648) (hi : 0 ≤ e0 ∧ e0 < (len : Int)) (hM : gm_uM M k e0 (gm_wb x) = M') : gm_Sp X LX d mi pc L (gm_vi x :: gm_vi e0 :: gm_vr k :: st) n K R M (pc + 1) L st n K R M' 0 0 := by
  have w : gm_w e0 = e0 := gm_w_id (by omega) (by omega)
  have t := gm_p_bast (X := X) (LX := LX) (d := d) (L := L) (st := st) (K := K) (R := R) (M := M) (e0 := e0) (x := x) h hk (by rw [hK]) (by rw [w, hK]; exact hi)
  rw [w, hM] at t
  exact t
theorem fw_al {k c len : Nat} (h : gm_at mi pc = some .arraylength) (hk : 1 ≤ k ∧ k ≤ n) (hK : K k = (c, len)) (hc : c ≤ 3) : gm_Sp X LX d mi pc L (gm_vr k :: st) n K R M (pc + 1) L (gm_vi (len : Int) :: st) n K R M 0 0 := by
  have t := gm_p_alen (X := X) (LX := LX) (d := d) (L := L) (st := st) (K := K) (R := R) (M := M) h hk (by rw [hK]; exact hc)
  rw [hK] at t
  exact t
theorem fw_ic {cc : ClassFile.Cond} {off x y : Int} (h : gm_at mi pc = some (.if_icmp cc off)) (ht : 0 ≤ (pc : Int) + off) (hx : gm_ir x) (hy : gm_ir y) (kt : gm_cm cc x y → gm_Wp X LX d bc bs mi (gm_tgt pc off) L st n K R M Q) (kf : ¬ gm_cm cc x y → gm_Wp X LX d bc bs mi (pc + 3) L st n K R M Q) : gm_Wp X LX d bc bs mi pc L (gm_vi y :: gm_vi x :: st) n K R M Q :=
  gm_b_ic h ht (fun hp => kt (by rwa [gm_cm_w hx hy] at hp)) (fun hp => kf (by rwa [gm_cm_w hx hy] at hp))
theorem fw_if {cc : ClassFile.Cond} {off x : Int} (h : gm_at mi pc = some (.ifCond cc off)) (ht : 0 ≤ (pc : Int) + off) (hx : gm_ir x) (kt : gm_cm cc x 0 → gm_Wp X LX d bc bs mi (gm_tgt pc off) L st n K R M Q) (kf : ¬ gm_cm cc x 0 → gm_Wp X LX d bc bs mi (pc + 3) L st n K R M Q) : gm_Wp X LX d bc bs mi pc L (gm_vi x :: st) n K R M Q :=
  gm_b_if h ht (fun hp => kt (by rwa [gm_cm_w hx ⟨by decide, by decide⟩] at hp)) (fun hp => kf (by rwa [gm_cm_w hx ⟨by decide, by decide⟩] at hp))
/-- a branch whose way is known -/
theorem fw_ict {cc : ClassFile.Cond} {off x y : Int} (h : gm_at mi pc = some (.if_icmp cc off)) (ht : 0 ≤ (pc : Int) + off) (hx : gm_ir x) (hy : gm_ir y) (hc : gm_cm cc x y) (k : gm_Wp X LX d bc bs mi (gm_tgt pc off) L st n K R M Q) : gm_Wp X LX d bc bs mi pc L (gm_vi y :: gm_vi x :: st) n K R M Q := fw_ic h ht hx hy (fun _ => k) (fun h => absurd hc h)
theorem fw_icf {cc : ClassFile.Cond} {off x y : Int} (h : gm_at mi pc = some (.if_icmp cc off)) (ht : 0 ≤ (pc : Int) + off) (hx : gm_ir x) (hy : gm_ir y) (hc : ¬ gm_cm cc x y) (k : gm_Wp X LX d bc bs mi (pc + 3) L st n K R M Q) : gm_Wp X LX d bc bs mi pc L (gm_vi y :: gm_vi x :: st) n K R M Q := fw_ic h ht hx hy (fun h => absurd h hc) (fun _ => k)
theorem fw_ift {cc : ClassFile.Cond} {off x : Int} (h : gm_at mi pc = some (.ifCond cc off)) (ht : 0 ≤ (pc : Int) + off) (hx : gm_ir x) (hc : gm_cm cc x 0) (k : gm_Wp X LX d bc bs mi (gm_tgt pc off) L st n K R M Q) : gm_Wp X LX d bc bs mi pc L (gm_vi x :: st) n K R M Q := fw_if h ht hx (fun _ => k) (fun h => absurd hc h)
theorem fw_iff {cc : ClassFile.Cond} {off x : Int} (h : gm_at mi pc = some (.ifCond cc off)) (ht : 0 ≤ (pc : Int) + off) (hx : gm_ir x) (hc : ¬ gm_cm cc x 0) (k : gm_Wp X LX d bc bs mi (pc + 3) L st n K R M Q) : gm_Wp X LX d bc bs mi pc L (gm_vi x :: st) n K R M Q := fw_if h ht hx (fun h => absurd h hc) (fun _ => k)
theorem fw_bt {c : ClassFile.Cond} {x y : Int} (h : fw_b c x y = true) : gm_cm c x y := by
  cases c with
  | eq => exact of_decide_eq_true (p := x = y) h
  | ne => exact of_decide_eq_true (p := ¬ x = y) h
  | lt => exact of_decide_eq_true (p := x < y) h
  | ge => exact of_decide_eq_true (p := y ≤ x) h
  | gt => exact of_decide_eq_true (p := y < x) h
  | le => exact of_decide_eq_true (p := x ≤ y) h
theorem fw_bf {c : ClassFile.Cond} {x y : Int} (h : fw_b c x y = false) : ¬ gm_cm c x y := by
  cases c with
  | eq => exact of_decide_eq_false (p := x = y) h
  | ne => exact of_decide_eq_false (p := ¬ x = y) h
  | lt => exact of_decide_eq_false (p := x < y) h
  | ge => exact of_decide_eq_false (p := y ≤ x) h
  | gt => exact of_decide_eq_false (p := y < x) h
  | le => exact of_decide_eq_false (p := x ≤ y) h
theorem fw_ictd {cc : ClassFile.Cond} {off x y : Int} (h : gm_at mi pc = some (.if_icmp cc off)) (ht : 0 ≤ (pc : Int) + off) (hx : gm_ir x) (hy : gm_ir y) (hc : fw_b cc x y = true) (k : gm_Wp X LX d bc bs mi (gm_tgt pc off) L st n K R M Q) : gm_Wp X LX d bc bs mi pc L (gm_vi y :: gm_vi x :: st) n K R M Q := fw_ict h ht hx hy (fw_bt hc) k
theorem fw_icfd {cc : ClassFile.Cond} {off x y : Int} (h : gm_at mi pc = some (.if_icmp cc off)) (ht : 0 ≤ (pc : Int) + off) (hx : gm_ir x) (hy : gm_ir y) (hc : fw_b cc x y = false) (k : gm_Wp X LX d bc bs mi (pc + 3) L st n K R M Q) : gm_Wp X LX d bc bs mi pc L (gm_vi y :: gm_vi x :: st) n K R M Q := fw_icf h ht hx hy (fw_bf hc) k
theorem fw_iftd {cc : ClassFile.Cond} {off x : Int} (h : gm_at mi pc = some (.ifCond cc off)) (ht : 0 ≤ (pc : Int) + off) (hx : gm_ir x) (hc : fw_b cc x 0 = true) (k : gm_Wp X LX d bc bs mi (gm_tgt pc off) L st n K R M Q) : gm_Wp X LX d bc bs mi pc L (gm_vi x :: st) n K R M Q := fw_ift h ht hx (fw_bt hc) k
theorem fw_iffd {cc : ClassFile.Cond} {off x : Int} (h : gm_at mi pc = some (.ifCond cc off)) (ht : 0 ≤ (pc : Int) + off) (hx : gm_ir x) (hc : fw_b cc x 0 = false) (k : gm_Wp X LX d bc bs mi (pc + 3) L st n K R M Q) : gm_Wp X LX d bc bs mi pc L (gm_vi x :: st) n K R M Q := fw_iff h ht hx (fw_bf hc) k
end FW
theorem fw_c0 : ∀ v ∈ ([] : List gm_V), ¬ gm_sort v = 1 := fun _ h => nomatch h
theorem fw_c1 {u : gm_V} (h : ¬ gm_sort u = 1) : ∀ v ∈ [u], ¬ gm_sort v = 1 := fun v hv => by rw [List.mem_singleton.mp hv]; exact h
theorem fw_c2 {u u2 : gm_V} (h : ¬ gm_sort u = 1) (h2 : ¬ gm_sort u2 = 1) : ∀ v ∈ [u, u2], ¬ gm_sort v = 1 := fun v hv => by
  rcases List.mem_cons.mp hv with rfl | hv
  · exact h
  · exact fw_c1 h2 v hv
theorem fw_c3 {u u2 u3 : gm_V} (h : ¬ gm_sort u = 1) (h2 : ¬ gm_sort u2 = 1) (h3 : ¬ gm_sort u3 = 1) : ∀ v ∈ [u, u2, u3], ¬ gm_sort v = 1 := fun v hv => by
  rcases List.mem_cons.mp hv with rfl | hv
  · exact h
  · exact fw_c2 h2 h3 v hv
theorem fw_si {x : Int} : ¬ gm_sort (gm_vi x) = 1 := by show ¬ (0 : Nat) = 1; decide
theorem fw_sr {k : Nat} : ¬ gm_sort (gm_vr k) = 1 := by show ¬ (2 : Nat) = 1; decide
theorem fw_so {k : Nat} : ¬ gm_sort (gm_vo k) = 1 := by show ¬ (2 : Nat) = 1; decide
end
/-! 79c.tx -/
section
/-! TEXTS ON THE TAPE: blanks, words, numbers and signs; f the bytes, e where the text ends. -/
noncomputable def tx_b (f : Int → Int) (p : Int) : Bool := decide (f p = 32)
noncomputable def tx_l (f : Int → Int) (p : Int) : Bool := decide (97 ≤ f p ∧ f p ≤ 122)
noncomputable def tx_d (f : Int → Int) (p : Int) : Bool := decide (48 ≤ f p ∧ f p ≤ 57)
noncomputable def tx_w (q : Int → Bool) (e : Int) : Nat → Int → Int
  | 0, p => p
  | t + 1, p => if p < e ∧ q p = true then tx_w q e t (p + 1) else p
/-- the first place from p on where q doesn't hold, or the end -/
noncomputable def tx_r (q : Int → Bool) (e p : Int) : Int := tx_w q e (e - p).toNat p
theorem tx_rt {q : Int → Bool} {e p : Int} (h : p < e) (hq : q p = true) : tx_r q e p = tx_r q e (p + 1) := by
  unfold tx_r
  rw [show (e - p).toNat = (e - (p + 1)).toNat + 1 by omega]
  show (if p < e ∧ q p = true then tx_w q e (e - (p + 1)).toNat (p + 1) else p) = _
  rw [if_pos ⟨h, hq⟩]
theorem tx_rf {q : Int → Bool} {e p : Int} (h : p < e → ¬ q p = true) : tx_r q e p = p := by
  unfold tx_r
  by_cases h1 : p < e
  · rw [show (e - p).toNat = (e - (p + 1)).toNat + 1 by omega]
    show (if p < e ∧ q p = true then tx_w q e (e - (p + 1)).toNat (p + 1) else p) = _
    rw [if_neg fun h2 => h h1 h2.2]
  · rw [show (e - p).toNat = 0 by omega]
    rfl
theorem tx_rb {q : Int → Bool} {e : Int} : ∀ (t : Nat) (p : Int), (e - p).toNat = t → p ≤ e → p ≤ tx_r q e p ∧ tx_r q e p ≤ e ∧ (tx_r q e p < e → ¬ q (tx_r q e p) = true) := by
  intro t
  induction t with
  | zero =>
    intro p ht hp
    have h : p < e → ¬ q p = true := fun h => by omega
    rw [tx_rf h]
    exact ⟨Int.le_refl _, hp, h⟩
  | succ t ih =>
    intro p ht hp
    by_cases h : p < e ∧ q p = true
    · rw [tx_rt h.1 h.2]
      obtain ⟨a, b, c⟩ := ih (p + 1) (by omega) (by omega)
      exact ⟨by omega, b, c⟩
    · have h : p < e → ¬ q p = true := fun h1 h2 => h ⟨h1, h2⟩
      rw [tx_rf h]
      exact ⟨Int.le_refl _, hp, h⟩
theorem tx_rs {q : Int → Bool} {e p : Int} (h : p < e) (hq : q p = true) : p + 1 ≤ tx_r q e p := by
  rw [tx_rt h hq]
  exact (tx_rb _ (p + 1) rfl (by omega)).1
/-- the token at b: its kind, where it ends, what number it is (of at most m figures) -/
noncomputable def tx_k (f : Int → Int) (e b : Int) : Int := if e ≤ b then 256 else if tx_l f b = true then 257 else if tx_d f b = true then 258 else f b % 256
noncomputable def tx_s (f : Int → Int) (e b : Int) : Int := if e ≤ b then b else if tx_l f b = true then tx_r (tx_l f) e b else if tx_d f b = true then tx_r (tx_d f) e b else b + 1
noncomputable def tx_u (f : Int → Int) (e m b : Int) : Nat → Int → Int → Int
  | 0, _, v => v
  | t + 1, p, v => if p < e ∧ tx_d f p = true then tx_u f e m b t (p + 1) (if p - b < m ∧ ¬ v = -1 then v * 10 + f p - 48 else -1) else v
noncomputable def tx_v (f : Int → Int) (e m b : Int) : Int := if e ≤ b then -1 else if tx_l f b = true then -1 else if tx_d f b = true then tx_u f e m b (e - b).toNat b 0 else -1
theorem tx_ut {f : Int → Int} {e m b p v : Int} (h : p < e) (hq : tx_d f p = true) : tx_u f e m b (e - p).toNat p v = tx_u f e m b (e - (p + 1)).toNat (p + 1) (if p - b < m ∧ ¬ v = -1 then v * 10 + f p - 48 else -1) := by
  rw [show (e - p).toNat = (e - (p + 1)).toNat + 1 by omega]
  show (if p < e ∧ tx_d f p = true then tx_u f e m b (e - (p + 1)).toNat (p + 1) (if p - b < m ∧ ¬ v = -1 then v * 10 + f p - 48 else -1) else v) = _
  rw [if_pos ⟨h, hq⟩]
theorem tx_uf {f : Int → Int} {e m b p v : Int} (h : p < e → ¬ tx_d f p = true) : tx_u f e m b (e - p).toNat p v = v := by
  by_cases h1 : p < e
  · rw [show (e - p).toNat = (e - (p + 1)).toNat + 1 by omega]
    show (if p < e ∧ tx_d f p = true then _ else v) = _
    rw [if_neg fun h2 => h h1 h2.2]
  · rw [show (e - p).toNat = 0 by omega]
    rfl
/-- where the next token begins -/
noncomputable def tx_g (f : Int → Int) (e p : Int) : Int := tx_r (tx_b f) e p
noncomputable def tx_n (f : Int → Int) (e b : Int) : Int := tx_g f e (tx_s f e b)
theorem tx_gb {f : Int → Int} {e p : Int} (h : p ≤ e) : p ≤ tx_g f e p ∧ tx_g f e p ≤ e ∧ (tx_g f e p < e → ¬ f (tx_g f e p) = 32) := by
  obtain ⟨a, b, c⟩ := tx_rb (q := tx_b f) _ p rfl h
  exact ⟨a, b, fun h1 h2 => c h1 (decide_eq_true h2)⟩
theorem tx_gg {f : Int → Int} {e p : Int} (h : p < e → ¬ f p = 32) : tx_g f e p = p := tx_rf fun h1 h2 => h h1 (of_decide_eq_true h2)
section TX
variable {f : Int → Int} {e b m : Int}
theorem tx_k0 (h : e ≤ b) : tx_k f e b = 256 ∧ tx_s f e b = b ∧ tx_v f e m b = -1 := by
  unfold tx_k tx_s tx_v
  rw [if_pos h, if_pos h, if_pos h]
  exact ⟨rfl, rfl, rfl⟩
theorem tx_k1 (h : b < e) (h1 : 97 ≤ f b ∧ f b ≤ 122) : tx_k f e b = 257 ∧ tx_s f e b = tx_r (tx_l f) e b ∧ tx_v f e m b = -1 := by
  have h0 : ¬ e ≤ b := by omega
  have h2 : tx_l f b = true := decide_eq_true h1
  unfold tx_k tx_s tx_v
  rw [if_neg h0, if_neg h0, if_neg h0, if_pos h2, if_pos h2, if_pos h2]
  exact ⟨rfl, rfl, rfl⟩
theorem tx_k2 (h : b < e) (h1 : 48 ≤ f b ∧ f b ≤ 57) : tx_k f e b = 258 ∧ tx_s f e b = tx_r (tx_d f) e b ∧ tx_v f e m b = tx_u f e m b (e - b).toNat b 0 := by
  have h0 : ¬ e ≤ b := by omega
  have h2 : ¬ tx_l f b = true := fun h2 => by have := of_decide_eq_true h2; omega
  have h3 : tx_d f b = true := decide_eq_true h1
  unfold tx_k tx_s tx_v
  rw [if_neg h0, if_neg h0, if_neg h0, if_neg h2, if_neg h2, if_neg h2, if_pos h3, if_pos h3, if_pos h3]
  exact ⟨rfl, rfl, rfl⟩
theorem tx_k3 (h : b < e) (h1 : ¬ (97 ≤ f b ∧ f b ≤ 122)) (h2 : ¬ (48 ≤ f b ∧ f b ≤ 57)) : tx_k f e b = f b % 256 ∧ tx_s f e b = b + 1 ∧ tx_v f e m b = -1 := by
  have h0 : ¬ e ≤ b := by omega
  have h3 : ¬ tx_l f b = true := fun h => h1 (of_decide_eq_true h)
  have h4 : ¬ tx_d f b = true := fun h => h2 (of_decide_eq_true h)
  unfold tx_k tx_s tx_v
  rw [if_neg h0, if_neg h0, if_neg h0, if_neg h3, if_neg h3, if_neg h3, if_neg h4, if_neg h4, if_neg h4]
  exact ⟨rfl, rfl, rfl⟩
theorem tx_kc (h : b < e → -128 ≤ f b ∧ f b ≤ 127) : 0 ≤ tx_k f e b ∧ tx_k f e b ≤ 258 := by
  by_cases h0 : e ≤ b
  · rw [(tx_k0 (m := 0) h0).1]; omega
  by_cases h1 : 97 ≤ f b ∧ f b ≤ 122
  · rw [(tx_k1 (m := 0) (by omega) h1).1]; omega
  by_cases h2 : 48 ≤ f b ∧ f b ≤ 57
  · rw [(tx_k2 (m := 0) (by omega) h2).1]; omega
  · rw [(tx_k3 (m := 0) (by omega) h1 h2).1]; omega
/-- a sign -/
theorem tx_ksg {c : Int} (hb : b < e → -128 ≤ f b ∧ f b ≤ 127) (hc : 0 ≤ c ∧ c < 97 ∧ ¬ (48 ≤ c ∧ c ≤ 57)) : tx_k f e b = c ↔ b < e ∧ f b = c := by
  by_cases h0 : e ≤ b
  · rw [(tx_k0 (m := 0) h0).1]; omega
  have hb := hb (by omega)
  by_cases h1 : 97 ≤ f b ∧ f b ≤ 122
  · rw [(tx_k1 (m := 0) (by omega) h1).1]; omega
  by_cases h2 : 48 ≤ f b ∧ f b ≤ 57
  · rw [(tx_k2 (m := 0) (by omega) h2).1]; omega
  · rw [(tx_k3 (m := 0) (by omega) h1 h2).1]; omega
theorem tx_sb (h : b ≤ e) : b ≤ tx_s f e b ∧ tx_s f e b ≤ e ∧ (b < e → b + 1 ≤ tx_s f e b) := by
  by_cases h0 : e ≤ b
  · rw [(tx_k0 (m := 0) h0).2.1]; omega
  by_cases h1 : 97 ≤ f b ∧ f b ≤ 122
  · rw [(tx_k1 (m := 0) (by omega) h1).2.1]
    have a := tx_rs (q := tx_l f) (e := e) (p := b) (by omega) (decide_eq_true h1)
    have c := tx_rb (q := tx_l f) (e := e) _ b rfl h
    omega
  by_cases h2 : 48 ≤ f b ∧ f b ≤ 57
  · rw [(tx_k2 (m := 0) (by omega) h2).2.1]
    have a := tx_rs (q := tx_d f) (e := e) (p := b) (by omega) (decide_eq_true h2)
    have c := tx_rb (q := tx_d f) (e := e) _ b rfl h
    omega
  · rw [(tx_k3 (m := 0) (by omega) h1 h2).2.1]; omega
theorem tx_nb (h : b ≤ e) : b ≤ tx_n f e b ∧ tx_n f e b ≤ e ∧ (b < e → b + 1 ≤ tx_n f e b) := by
  obtain ⟨a1, a2, a3⟩ := tx_sb (f := f) h
  obtain ⟨c1, c2, -⟩ := tx_gb (f := f) (e := e) (p := tx_s f e b) a2
  unfold tx_n
  refine ⟨by omega, c2, fun h => ?_⟩
  have := a3 h
  omega
theorem tx_kne (h : ¬ tx_k f e b = 256) : b < e := by
  rcases Int.lt_or_le b e with h1 | h1
  · exact h1
  · exact absurd (tx_k0 (m := 0) (f := f) h1).1 h
theorem tx_kne2 (h : tx_k f e b = 256) : e ≤ b := by
  rcases Int.lt_or_le b e with h1 | h1
  · exfalso
    by_cases h2 : 97 ≤ f b ∧ f b ≤ 122
    · have := (tx_k1 (m := 0) h1 h2).1
      omega
    by_cases h3 : 48 ≤ f b ∧ f b ≤ 57
    · have := (tx_k2 (m := 0) h1 h3).1
      omega
    · have := (tx_k3 (m := 0) h1 h2 h3).1
      omega
  · exact h1
end TX
/-- tens -/
noncomputable def tx_t (k : Int) : Int := if k ≤ 0 then 1 else if k = 1 then 10 else if k = 2 then 100 else if k = 3 then 1000 else 10000
/-- a word's bytes -/
noncomputable def tx_o (c : Nat) : List Int := (List.range (gm_slen c)).map (gm_chv c)
/-- the word l stands at b -/
noncomputable def tx_is (f : Int → Int) (e b : Int) (l : List Int) : Prop := tx_k f e b = 257 ∧ tx_s f e b - b = (l.length : Int) ∧ ∀ i : Nat, i < l.length → f (b + i) = l.getD i 0
theorem tx_ol {c : Nat} {l : List Int} (h : tx_o c = l) : gm_slen c = l.length ∧ ∀ i : Nat, i < l.length → gm_chv c i = l.getD i 0 := by
  subst h
  have hl : (tx_o c).length = gm_slen c := by simp [tx_o]
  refine ⟨hl.symm, fun i hi => ?_⟩
  rw [hl] at hi
  unfold tx_o
  rw [List.getD_eq_getElem?_getD, List.getElem?_map, List.getElem?_range hi]
  rfl
theorem tx_wb : ∀ x ∈ (List.range 256), (Int32.ofInt ((x : Int) - 128) &&& Int32.ofInt 255).toInt = ((x : Int) - 128) % 256 := by decide +kernel
/-- a byte's sign -/
theorem tx_by {y : Int} (h : -128 ≤ y ∧ y ≤ 127) : (Int32.ofInt y &&& Int32.ofInt 255).toInt = y % 256 := by
  have := tx_wb (y + 128).toNat (List.mem_range.mpr (by omega))
  rwa [show (((y + 128).toNat : Nat) : Int) - 128 = y by omega] at this
end
/-! 79d.cw -/
section
/-! THE CLASS'S READER OF A LAW: its memory, what always holds, Words (laid by wip/pp/p5c.py). -/
/-- the reader's memory: place, begin, wrong, kind, value; codes used, lines; the rows of both -/
noncomputable def cm (M : gm_M) (p b w k v us lc : Int) (D C : Int → Int) : gm_M := fun a j => if a = 216 then (if j = 3 then p else if j = 4 then b else if j = 5 then w else if j = 6 then k else if j = 7 then v else M a j) else if a = 215 then (if j = 4 then us else M a j) else if a = 217 then (if j = 3 then lc else M a j) else if a = 218 then D j else if a = 219 then C j else M a j
/-- a token stands at b -/
noncomputable def ct (M : gm_M) (e b w us lc : Int) (D C : Int → Int) : gm_M := cm M (tx_s (M 2) e b) b w (tx_k (M 2) e b) (tx_v (M 2) e 3 b) us lc D C
section CM
variable {M : gm_M} {e p b w k v us lc x j0 : Int} {D C : Int → Int}
theorem cm_p : gm_uM (cm M p b w k v us lc D C) 216 ((3 : Nat) : Int) x = cm M x b w k v us lc D C := by
  show gm_uM (cm M p b w k v us lc D C) 216 3 x = cm M x b w k v us lc D C
  funext a j
  by_cases ha : a = 216 <;> by_cases hj : j = 3 <;> simp [gm_uM, cm, ha, hj]
theorem cm_b : gm_uM (cm M p b w k v us lc D C) 216 ((4 : Nat) : Int) x = cm M p x w k v us lc D C := by
  show gm_uM (cm M p b w k v us lc D C) 216 4 x = cm M p x w k v us lc D C
  funext a j
  by_cases ha : a = 216 <;> by_cases hj : j = 4 <;> simp [gm_uM, cm, ha, hj]
theorem cm_w : gm_uM (cm M p b w k v us lc D C) 216 ((5 : Nat) : Int) x = cm M p b x k v us lc D C := by
  show gm_uM (cm M p b w k v us lc D C) 216 5 x = cm M p b x k v us lc D C
  funext a j
  by_cases ha : a = 216 <;> by_cases hj : j = 5 <;> simp [gm_uM, cm, ha, hj]
theorem ct_w : gm_uM (ct M e b w us lc D C) 216 ((5 : Nat) : Int) x = ct M e b x us lc D C := cm_w
theorem cm_k : gm_uM (cm M p b w k v us lc D C) 216 ((6 : Nat) : Int) x = cm M p b w x v us lc D C := by
  show gm_uM (cm M p b w k v us lc D C) 216 6 x = cm M p b w x v us lc D C
  funext a j
  by_cases ha : a = 216 <;> by_cases hj : j = 6 <;> simp [gm_uM, cm, ha, hj]
theorem cm_v : gm_uM (cm M p b w k v us lc D C) 216 ((7 : Nat) : Int) x = cm M p b w k x us lc D C := by
  show gm_uM (cm M p b w k v us lc D C) 216 7 x = cm M p b w k x us lc D C
  funext a j
  by_cases ha : a = 216 <;> by_cases hj : j = 7 <;> simp [gm_uM, cm, ha, hj]
theorem cm_us : gm_uM (cm M p b w k v us lc D C) 215 ((4 : Nat) : Int) x = cm M p b w k v x lc D C := by
  show gm_uM (cm M p b w k v us lc D C) 215 4 x = cm M p b w k v x lc D C
  funext a j
  by_cases ha : a = 215 <;> by_cases hj : j = 4 <;> simp [gm_uM, cm, ha, hj]
theorem ct_us : gm_uM (ct M e b w us lc D C) 215 ((4 : Nat) : Int) x = ct M e b w x lc D C := cm_us
theorem cm_lc : gm_uM (cm M p b w k v us lc D C) 217 ((3 : Nat) : Int) x = cm M p b w k v us x D C := by
  show gm_uM (cm M p b w k v us lc D C) 217 3 x = cm M p b w k v us x D C
  funext a j
  by_cases ha : a = 217 <;> by_cases hj : j = 3 <;> simp [gm_uM, cm, ha, hj]
theorem ct_lc : gm_uM (ct M e b w us lc D C) 217 ((3 : Nat) : Int) x = ct M e b w us x D C := cm_lc
theorem cm_D : gm_uM (cm M p b w k v us lc D C) 218 j0 x = cm M p b w k v us lc (fun z => if z = j0 then x else D z) C := by
  funext a j
  by_cases ha : a = 218 <;> by_cases hj : j = j0 <;> simp [gm_uM, cm, ha, hj]
theorem ct_D : gm_uM (ct M e b w us lc D C) 218 j0 x = ct M e b w us lc (fun z => if z = j0 then x else D z) C := cm_D
theorem cm_C : gm_uM (cm M p b w k v us lc D C) 219 j0 x = cm M p b w k v us lc D (fun z => if z = j0 then x else C z) := by
  funext a j
  by_cases ha : a = 219 <;> by_cases hj : j = j0 <;> simp [gm_uM, cm, ha, hj]
theorem ct_C : gm_uM (ct M e b w us lc D C) 219 j0 x = ct M e b w us lc D (fun z => if z = j0 then x else C z) := cm_C
theorem cm_id : cm M (M 216 3) (M 216 4) (M 216 5) (M 216 6) (M 216 7) (M 215 4) (M 217 3) (M 218) (M 219) = M := by
  funext a j
  unfold cm
  by_cases h1 : a = 216
  · subst h1
    by_cases g1 : j = 3
    · subst g1; rfl
    by_cases g2 : j = 4
    · subst g2; rfl
    by_cases g3 : j = 5
    · subst g3; rfl
    by_cases g4 : j = 6
    · subst g4; rfl
    by_cases g5 : j = 7
    · subst g5; rfl
    rw [if_pos rfl, if_neg g1, if_neg g2, if_neg g3, if_neg g4, if_neg g5]
  rw [if_neg h1]
  by_cases h2 : a = 215
  · subst h2
    by_cases g1 : j = 4
    · subst g1; rfl
    rw [if_pos rfl, if_neg g1]
  rw [if_neg h2]
  by_cases h3 : a = 217
  · subst h3
    by_cases g1 : j = 3
    · subst g1; rfl
    rw [if_pos rfl, if_neg g1]
  rw [if_neg h3]
  by_cases h4 : a = 218
  · subst h4; rfl
  rw [if_neg h4]
  by_cases h5 : a = 219
  · subst h5; rfl
  rw [if_neg h5]
end CM
/-- what stays while a law is read -/
noncomputable def tx_E (n : Nat) (K : gm_K) (R : gm_R) (M : gm_M) (e : Int) : Prop := ((((1 ≤ 2 ∧ 2 ≤ n) ∧ K 2 = (1, 400)) ∧ ((1 ≤ 215 ∧ 215 ≤ n) ∧ K 215 = (13, 0)) ∧ (1 ≤ 216 ∧ 216 ≤ n) ∧ K 216 = (12, 0)) ∧ ((1 ≤ 217 ∧ 217 ≤ n) ∧ K 217 = (6, 0)) ∧ ((1 ≤ 218 ∧ 218 ≤ n) ∧ K 218 = (0, 48)) ∧ (1 ≤ 219 ∧ 219 ≤ n) ∧ K 219 = (0, 400)) ∧ ((R 216 0 = 2 ∧ R 215 0 = 216 ∧ R 215 2 = 217 ∧ R 215 3 = 219 ∧ R 217 2 = 218) ∧ M 216 1 = 3 ∧ M 217 0 = 12 ∧ M 217 1 = 4 ∧ M 215 1 = 12) ∧ (M 216 2 = e ∧ 0 ≤ e ∧ e ≤ 400) ∧ ∀ j, 0 ≤ j → j < 400 → -128 ≤ M 2 j ∧ M 2 j ≤ 127
section TE
variable {n : Nat} {K : gm_K} {R : gm_R} {M : gm_M} {e : Int}
theorem tE2 (h : tx_E n K R M e) : (1 ≤ 2 ∧ 2 ≤ n) ∧ K 2 = (1, 400) := h.1.1.1
theorem tE215c (h : tx_E n K R M e) : (1 ≤ 215 ∧ 215 ≤ n) ∧ (K 215).1 = 9 + 4 := ⟨h.1.1.2.1.1, by rw [h.1.1.2.1.2]⟩
theorem tE216c (h : tx_E n K R M e) : (1 ≤ 216 ∧ 216 ≤ n) ∧ (K 216).1 = 8 + 4 := ⟨h.1.1.2.2.1, by rw [h.1.1.2.2.2]⟩
theorem tE217c (h : tx_E n K R M e) : (1 ≤ 217 ∧ 217 ≤ n) ∧ (K 217).1 = 2 + 4 := ⟨h.1.2.1.1, by rw [h.1.2.1.2]⟩
theorem tE218 (h : tx_E n K R M e) : (1 ≤ 218 ∧ 218 ≤ n) ∧ K 218 = (0, 48) := h.1.2.2.1
theorem tE219 (h : tx_E n K R M e) : (1 ≤ 219 ∧ 219 ≤ n) ∧ K 219 = (0, 400) := h.1.2.2.2
theorem tEr (h : tx_E n K R M e) : R 216 0 = 2 ∧ R 215 0 = 216 ∧ R 215 2 = 217 ∧ R 215 3 = 219 ∧ R 217 2 = 218 := h.2.1.1
theorem tEm (h : tx_E n K R M e) : M 216 1 = 3 ∧ M 217 0 = 12 ∧ M 217 1 = 4 ∧ M 215 1 = 12 := h.2.1.2
theorem tEe (h : tx_E n K R M e) : M 216 2 = e ∧ 0 ≤ e ∧ e ≤ 400 := h.2.2.1
theorem tEb (h : tx_E n K R M e) {j : Int} (h1 : 0 ≤ j) (h2 : j < 400) : -128 ≤ M 2 j ∧ M 2 j ≤ 127 := h.2.2.2 j h1 h2
end TE
theorem fw_ind {e : Int} {P : Int → Prop} (h : ∀ p, 0 ≤ p → p ≤ e → (p < e → P (p + 1)) → P p) : ∀ p, 0 ≤ p → p ≤ e → P p := by
  have h2 : ∀ (t : Nat) (p : Int), (e - p).toNat = t → 0 ≤ p → p ≤ e → P p := by
    intro t
    induction t with
    | zero => exact fun p ht h0 h1 => h p h0 h1 (fun h2 => absurd h2 (by omega))
    | succ t ih => exact fun p ht h0 h1 => h p h0 h1 (fun h2 => ih (p + 1) (by omega) (by omega) (by omega))
  exact fun p => h2 _ p rfl
theorem tx_gt {f : Int → Int} {e p : Int} (h : p < e) (h2 : f p = 32) : tx_g f e p = tx_g f e (p + 1) := tx_rt h (decide_eq_true h2)
theorem tx_tb {k : Int} : 1 ≤ tx_t k ∧ tx_t k ≤ 10000 := by unfold tx_t; repeat' split <;> omega
theorem tx_tv {v k c : Int} (h : 0 ≤ v ∧ v < tx_t k) (hk : 0 ≤ k ∧ k < 4) (hc : 48 ≤ c ∧ c ≤ 57) : 0 ≤ v * 10 + c - 48 ∧ v * 10 + c - 48 < tx_t (k + 1) := by
  have h4 : k = 0 ∨ k = 1 ∨ k = 2 ∨ k = 3 := by omega
  rcases h4 with rfl | rfl | rfl | rfl
  · have e1 : tx_t 0 = 1 := by decide
    have e2 : tx_t (0 + 1) = 10 := by decide
    omega
  · have e1 : tx_t 1 = 10 := by decide
    have e2 : tx_t (1 + 1) = 100 := by decide
    omega
  · have e1 : tx_t 2 = 100 := by decide
    have e2 : tx_t (2 + 1) = 1000 := by decide
    omega
  · have e1 : tx_t 3 = 1000 := by decide
    have e2 : tx_t (3 + 1) = 10000 := by decide
    omega
/-- a number of at most four figures -/
theorem tx_ub {f : Int → Int} {e m b : Int} (hm : m ≤ 4) : ∀ p, b ≤ p → p ≤ e → ∀ v, (v = -1 ∨ (0 ≤ v ∧ v < tx_t (p - b))) → -1 ≤ tx_u f e m b (e - p).toNat p v ∧ tx_u f e m b (e - p).toNat p v ≤ 9999 := by
  have h2 : ∀ (t : Nat) (p : Int), (e - p).toNat = t → b ≤ p → p ≤ e → ∀ v, (v = -1 ∨ (0 ≤ v ∧ v < tx_t (p - b))) → -1 ≤ tx_u f e m b (e - p).toNat p v ∧ tx_u f e m b (e - p).toNat p v ≤ 9999 := by
    intro t
    induction t with
    | zero =>
      intro p ht h0 h1 v hv
      rw [tx_uf (fun h => by omega)]
      have := tx_tb (k := p - b)
      omega
    | succ t ih =>
      intro p ht h0 h1 v hv
      by_cases hq : tx_d f p = true
      · rw [tx_ut (by omega) hq]
        refine ih (p + 1) (by omega) (by omega) (by omega) _ ?_
        by_cases hc : p - b < m ∧ ¬ v = -1
        · rw [if_pos hc]
          have := tx_tv (v := v) (k := p - b) (c := f p) (by omega) (by omega) (of_decide_eq_true hq)
          rw [show p + 1 - b = p - b + 1 by omega]
          exact Or.inr this
        · rw [if_neg hc]
          exact Or.inl rfl
      · rw [tx_uf (fun _ => hq)]
        have := tx_tb (k := p - b)
        omega
  exact fun p => h2 _ p rfl
theorem tx_vb {f : Int → Int} {e m b : Int} (hm : m ≤ 4) : -1 ≤ tx_v f e m b ∧ tx_v f e m b ≤ 9999 := by
  by_cases h0 : e ≤ b
  · rw [(tx_k0 (f := f) (m := m) h0).2.2]; omega
  by_cases h1 : 97 ≤ f b ∧ f b ≤ 122
  · rw [(tx_k1 (m := m) (by omega) h1).2.2]; omega
  by_cases h2 : 48 ≤ f b ∧ f b ≤ 57
  · rw [(tx_k2 (m := m) (by omega) h2).2.2]
    exact tx_ub hm b (Int.le_refl _) (by omega) 0 (Or.inr ⟨Int.le_refl _, by have := (tx_tb (k := b - b)).1; omega⟩)
  · rw [(tx_k3 (m := m) (by omega) h1 h2).2.2]; omega
theorem tx_t3 {k : Int} (h : k ≤ 3) : tx_t k ≤ 1000 := by unfold tx_t; repeat' split <;> omega
/-- of three figures -/
theorem tx_v9 {f : Int → Int} {e b : Int} : tx_v f e 3 b ≤ 999 := by
  have h2 : ∀ (t : Nat) (p : Int), (e - p).toNat = t → b ≤ p → p ≤ e → ∀ v, (v = -1 ∨ ((0 ≤ v ∧ v < tx_t (p - b)) ∧ p - b ≤ 3)) → tx_u f e 3 b (e - p).toNat p v ≤ 999 := by
    intro t
    induction t with
    | zero =>
      intro p ht h0 h1 v hv
      rw [tx_uf (fun h => by omega)]
      have := tx_t3 (k := p - b)
      omega
    | succ t ih =>
      intro p ht h0 h1 v hv
      by_cases hq : tx_d f p = true
      · rw [tx_ut (by omega) hq]
        refine ih (p + 1) (by omega) (by omega) (by omega) _ ?_
        by_cases hc : p - b < 3 ∧ ¬ v = -1
        · rw [if_pos hc]
          have := tx_tv (v := v) (k := p - b) (c := f p) (by omega) (by omega) (of_decide_eq_true hq)
          rw [show p + 1 - b = p - b + 1 by omega]
          exact Or.inr ⟨this, by omega⟩
        · rw [if_neg hc]
          exact Or.inl rfl
      · rw [tx_uf (fun _ => hq)]
        have := tx_t3 (k := p - b)
        omega
  by_cases h0 : e ≤ b
  · rw [(tx_k0 (f := f) (m := 3) h0).2.2]; omega
  by_cases h1 : 97 ≤ f b ∧ f b ≤ 122
  · rw [(tx_k1 (m := 3) (by omega) h1).2.2]; omega
  by_cases h3 : 48 ≤ f b ∧ f b ≤ 57
  · rw [(tx_k2 (m := 3) (by omega) h3).2.2]
    exact h2 _ b rfl (Int.le_refl _) (by omega) 0 (Or.inr ⟨⟨Int.le_refl _, by have := (tx_tb (k := b - b)).1; omega⟩, by omega⟩)
  · rw [(tx_k3 (m := 3) (by omega) h1 h3).2.2]; omega
section WD
variable {X : Int → Int} {LX d bc bs n : Nat} {K : gm_K} {R : gm_R} {M : gm_M} {Q : gm_Q} {e p b w k v us lc x : Int} {D C : Int → Int}
theorem tx_c77 (hx : gm_ir x) (h1 : 97 ≤ x ∧ x ≤ 122 → Q (.inl (some (gm_vi 1))) n K R M) (h0 : ¬ (97 ≤ x ∧ x ≤ 122) → Q (.inl (some (gm_vi 0))) n K R M) : gm_Wp X LX d bc bs 77 0 (gm_ent 77 [gm_vi x]) [] n K R M Q := by
  obtain ⟨hx1, hx2⟩ := hx
  refine gm_sz (gm_p_load (pc := 0) (i := .iload_n 0) (sr := 0) (j := 0) (by decide +kernel) rfl rfl rfl) ?_
  refine gm_sz (gm_p_const (pc := 1) (i := .bipush 97) (v := gm_vi 97) (by decide +kernel) (by decide +kernel)) ?_
  refine fw_ic (cc := .lt) (pc := 3) (off := 13) (by decide +kernel) (by decide) ⟨by omega, by omega⟩ ⟨by decide, by decide⟩ (fun j1 => ?_) (fun j1 => ?_)
  · have j1 : x < 97 := j1
    refine gm_sz (gm_p_const (pc := 16) (i := .iconst 0) (v := gm_vi 0) (by decide +kernel) (by decide +kernel)) ?_
    exact gm_r_int (pc := 17) (by decide +kernel) (Or.inr ⟨(by decide +kernel), Or.inl rfl⟩) (h0 fun h => by omega)
  · have j1 : ¬ x < 97 := j1
    refine gm_sz (gm_p_load (pc := 6) (i := .iload_n 0) (sr := 0) (j := 0) (by decide +kernel) rfl rfl rfl) ?_
    refine gm_sz (gm_p_const (pc := 7) (i := .bipush 122) (v := gm_vi 122) (by decide +kernel) (by decide +kernel)) ?_
    refine fw_ic (cc := .gt) (pc := 9) (off := 7) (by decide +kernel) (by decide) ⟨by omega, by omega⟩ ⟨by decide, by decide⟩ (fun j2 => ?_) (fun j2 => ?_)
    · have j2 : 122 < x := j2
      refine gm_sz (gm_p_const (pc := 16) (i := .iconst 0) (v := gm_vi 0) (by decide +kernel) (by decide +kernel)) ?_
      exact gm_r_int (pc := 17) (by decide +kernel) (Or.inr ⟨(by decide +kernel), Or.inl rfl⟩) (h0 fun h => by omega)
    · have j2 : ¬ 122 < x := j2
      refine gm_sz (gm_p_const (pc := 12) (i := .iconst 1) (v := gm_vi 1) (by decide +kernel) (by decide +kernel)) ?_
      refine gm_sz (gm_p_goto (pc := 13) (off := 4) (by decide +kernel) (by decide)) ?_
      exact gm_r_int (pc := 17) (by decide +kernel) (Or.inr ⟨(by decide +kernel), Or.inr rfl⟩) (h1 ⟨by omega, by omega⟩)
theorem tx_c78 (hx : gm_ir x) (h1 : 48 ≤ x ∧ x ≤ 57 → Q (.inl (some (gm_vi 1))) n K R M) (h0 : ¬ (48 ≤ x ∧ x ≤ 57) → Q (.inl (some (gm_vi 0))) n K R M) : gm_Wp X LX d bc bs 78 0 (gm_ent 78 [gm_vi x]) [] n K R M Q := by
  obtain ⟨hx1, hx2⟩ := hx
  refine gm_sz (gm_p_load (pc := 0) (i := .iload_n 0) (sr := 0) (j := 0) (by decide +kernel) rfl rfl rfl) ?_
  refine gm_sz (gm_p_const (pc := 1) (i := .bipush 48) (v := gm_vi 48) (by decide +kernel) (by decide +kernel)) ?_
  refine fw_ic (cc := .lt) (pc := 3) (off := 13) (by decide +kernel) (by decide) ⟨by omega, by omega⟩ ⟨by decide, by decide⟩ (fun j1 => ?_) (fun j1 => ?_)
  · have j1 : x < 48 := j1
    refine gm_sz (gm_p_const (pc := 16) (i := .iconst 0) (v := gm_vi 0) (by decide +kernel) (by decide +kernel)) ?_
    exact gm_r_int (pc := 17) (by decide +kernel) (Or.inr ⟨(by decide +kernel), Or.inl rfl⟩) (h0 fun h => by omega)
  · have j1 : ¬ x < 48 := j1
    refine gm_sz (gm_p_load (pc := 6) (i := .iload_n 0) (sr := 0) (j := 0) (by decide +kernel) rfl rfl rfl) ?_
    refine gm_sz (gm_p_const (pc := 7) (i := .bipush 57) (v := gm_vi 57) (by decide +kernel) (by decide +kernel)) ?_
    refine fw_ic (cc := .gt) (pc := 9) (off := 7) (by decide +kernel) (by decide) ⟨by omega, by omega⟩ ⟨by decide, by decide⟩ (fun j2 => ?_) (fun j2 => ?_)
    · have j2 : 57 < x := j2
      refine gm_sz (gm_p_const (pc := 16) (i := .iconst 0) (v := gm_vi 0) (by decide +kernel) (by decide +kernel)) ?_
      exact gm_r_int (pc := 17) (by decide +kernel) (Or.inr ⟨(by decide +kernel), Or.inl rfl⟩) (h0 fun h => by omega)
    · have j2 : ¬ 57 < x := j2
      refine gm_sz (gm_p_const (pc := 12) (i := .iconst 1) (v := gm_vi 1) (by decide +kernel) (by decide +kernel)) ?_
      refine gm_sz (gm_p_goto (pc := 13) (off := 4) (by decide +kernel) (by decide)) ?_
      exact gm_r_int (pc := 17) (by decide +kernel) (Or.inr ⟨(by decide +kernel), Or.inr rfl⟩) (h1 ⟨by omega, by omega⟩)
theorem tx_n0 (hd : 1 ≤ d) (hE : tx_E n K R M e) : ∀ p, 0 ≤ p → p ≤ e → gm_Wp X LX d bc bs 76 38 [some (gm_vr 216), none] [] n K R (cm M (tx_g (M 2) e p) b w k v us lc D C) Q → gm_Wp X LX d bc bs 76 0 [some (gm_vr 216), none] [] n K R (cm M p b w k v us lc D C) Q := by
  obtain ⟨-, he0, he4⟩ := tEe hE
  refine fw_ind (fun p hp0 hpe ih kq => ?_)
  refine gm_sz (gm_p_load (pc := 0) (i := .aload_n 0) (sr := 2) (j := 0) (by decide +kernel) rfl rfl rfl) ?_
  refine gm_sz (fw_gi (pc := 1) (ix := 15) (ci := 8) (j := 3) (x := p) (by decide +kernel) (tE216c hE) (by decide +kernel) (by decide +kernel) rfl) ?_
  refine gm_sz (gm_p_load (pc := 4) (i := .aload_n 0) (sr := 2) (j := 0) (by decide +kernel) rfl rfl rfl) ?_
  refine gm_sz (fw_gi (pc := 5) (ix := 9) (ci := 8) (j := 2) (x := e) (by decide +kernel) (tE216c hE) (by decide +kernel) (by decide +kernel) (tEe hE).1) ?_
  refine fw_ic (cc := .ge) (pc := 8) (off := 30) (by decide +kernel) (by decide) ⟨by omega, by omega⟩ ⟨by omega, by omega⟩ (fun j1 => ?_) (fun j1 => ?_)
  · have j1 : e ≤ p := j1
    rw [tx_gg (fun h => by omega)] at kq
    exact kq
  · have j1 : ¬ e ≤ p := j1
    refine gm_sz (gm_p_load (pc := 11) (i := .aload_n 0) (sr := 2) (j := 0) (by decide +kernel) rfl rfl rfl) ?_
    refine gm_sz (fw_gr (pc := 12) (ix := 30) (ci := 8) (j := 0) (r := 2) (by decide +kernel) (tE216c hE) (by decide +kernel) (by decide +kernel) (tEr hE).1) ?_
    refine gm_sz (gm_p_load (pc := 15) (i := .aload_n 0) (sr := 2) (j := 0) (by decide +kernel) rfl rfl rfl) ?_
    refine gm_sz (fw_gi (pc := 16) (ix := 15) (ci := 8) (j := 3) (x := p) (by decide +kernel) (tE216c hE) (by decide +kernel) (by decide +kernel) rfl) ?_
    refine gm_sz (fw_ba (pc := 19) (k := 2) (len := 400) (e0 := p) (x := M 2 p) (by decide +kernel) (tE2 hE).1 (tE2 hE).2 (by decide) ⟨by omega, by omega⟩ rfl) ?_
    have y2 := tEb hE (j := p) (by omega) (by omega)
    refine gm_sz (gm_p_const (pc := 20) (i := .bipush 32) (v := gm_vi 32) (by decide +kernel) (by decide +kernel)) ?_
    refine fw_ic (cc := .ne) (pc := 22) (off := 16) (by decide +kernel) (by decide) ⟨by omega, by omega⟩ ⟨by decide, by decide⟩ (fun j3 => ?_) (fun j3 => ?_)
    · have j3 : ¬ (M 2 p) = 32 := j3
      rw [tx_gg (fun h => by omega)] at kq
      exact kq
    · have j3 : (M 2 p) = 32 := Classical.not_not.mp j3
      refine gm_sz (gm_p_load (pc := 25) (i := .aload_n 0) (sr := 2) (j := 0) (by decide +kernel) rfl rfl rfl) ?_
      refine gm_sz (gm_p_dup (pc := 26) (by decide +kernel) fw_sr) ?_
      refine gm_sz (fw_gi (pc := 27) (ix := 15) (ci := 8) (j := 3) (x := p) (by decide +kernel) (tE216c hE) (by decide +kernel) (by decide +kernel) rfl) ?_
      refine gm_sz (gm_p_const (pc := 30) (i := .iconst 1) (v := gm_vi 1) (by decide +kernel) (by decide +kernel)) ?_
      refine gm_sz (gm_p_bin (pc := 31) (i := .iadd) (f := fun x y => x + y) (by decide +kernel) rfl) ?_
      refine gm_sz (fw_pi (pc := 32) (ix := 15) (ci := 8) (j := 3) (M' := cm M (p + 1) b w k v us lc D C) (by decide +kernel) (tE216c hE) (by decide +kernel) (by decide +kernel) (by decide +kernel) cm_p) ?_
      refine gm_sz (gm_p_goto (pc := 35) (off := (-35)) (by decide +kernel) (by decide)) ?_
      rw [tx_gt (by omega) (by omega)] at kq
      exact ih (by omega) kq
theorem tx_n1 (hd : 1 ≤ d) (hE : tx_E n K R M e) : ∀ p, 0 ≤ p → p ≤ e → gm_Wp X LX d bc bs 76 288 [some (gm_vr 216), none] [] n K R (cm M (tx_r (tx_l (M 2)) e p) b w k v us lc D C) Q → gm_Wp X LX d bc bs 76 94 [some (gm_vr 216), none] [] n K R (cm M p b w k v us lc D C) Q := by
  obtain ⟨-, he0, he4⟩ := tEe hE
  refine fw_ind (fun p hp0 hpe ih kq => ?_)
  refine gm_sz (gm_p_load (pc := 94) (i := .aload_n 0) (sr := 2) (j := 0) (by decide +kernel) rfl rfl rfl) ?_
  refine gm_sz (fw_gi (pc := 95) (ix := 15) (ci := 8) (j := 3) (x := p) (by decide +kernel) (tE216c hE) (by decide +kernel) (by decide +kernel) rfl) ?_
  refine gm_sz (gm_p_load (pc := 98) (i := .aload_n 0) (sr := 2) (j := 0) (by decide +kernel) rfl rfl rfl) ?_
  refine gm_sz (fw_gi (pc := 99) (ix := 9) (ci := 8) (j := 2) (x := e) (by decide +kernel) (tE216c hE) (by decide +kernel) (by decide +kernel) (tEe hE).1) ?_
  refine fw_ic (cc := .ge) (pc := 102) (off := 186) (by decide +kernel) (by decide) ⟨by omega, by omega⟩ ⟨by omega, by omega⟩ (fun j1 => ?_) (fun j1 => ?_)
  · have j1 : e ≤ p := j1
    rw [tx_rf (fun h h2 => by have := of_decide_eq_true h2; omega)] at kq
    exact kq
  · have j1 : ¬ e ≤ p := j1
    refine gm_sz (gm_p_load (pc := 105) (i := .aload_n 0) (sr := 2) (j := 0) (by decide +kernel) rfl rfl rfl) ?_
    refine gm_sz (fw_gr (pc := 106) (ix := 30) (ci := 8) (j := 0) (r := 2) (by decide +kernel) (tE216c hE) (by decide +kernel) (by decide +kernel) (tEr hE).1) ?_
    refine gm_sz (gm_p_load (pc := 109) (i := .aload_n 0) (sr := 2) (j := 0) (by decide +kernel) rfl rfl rfl) ?_
    refine gm_sz (fw_gi (pc := 110) (ix := 15) (ci := 8) (j := 3) (x := p) (by decide +kernel) (tE216c hE) (by decide +kernel) (by decide +kernel) rfl) ?_
    refine gm_sz (fw_ba (pc := 113) (k := 2) (len := 400) (e0 := p) (x := M 2 p) (by decide +kernel) (tE2 hE).1 (tE2 hE).2 (by decide) ⟨by omega, by omega⟩ rfl) ?_
    have y2 := tEb hE (j := p) (by omega) (by omega)
    refine gm_c_stat (mj := 77) (ix := 46) (pc := 114) (as := [gm_vi (M 2 p)]) (st := []) (d' := d - 1) (bc' := 0) (bs' := 0) (by decide +kernel) (by decide +kernel) (by decide +kernel) (by decide +kernel) (show 1 = gm_na 77 by decide +kernel) (fw_c1 fw_si) (show 1 ≤ gm_ml 77 by decide +kernel) (Nat.le_of_ble_eq_true rfl) (by omega) (Nat.zero_le _) (Nat.zero_le _) ?_
    refine tx_c77 ⟨by omega, by omega⟩ (fun j3 => ?_) (fun j3 => ?_)
    · show gm_Wp X LX d _ _ 76 117 _ [gm_vi 1] n K R _ Q
      have j3 : 97 ≤ M 2 p ∧ M 2 p ≤ 122 := j3
      refine fw_iffd (cc := .eq) (pc := 117) (off := 171) (by decide +kernel) (by decide) ⟨by decide, by decide⟩ (by decide) ?_
      refine gm_sz (gm_p_load (pc := 120) (i := .aload_n 0) (sr := 2) (j := 0) (by decide +kernel) rfl rfl rfl) ?_
      refine gm_sz (gm_p_dup (pc := 121) (by decide +kernel) fw_sr) ?_
      refine gm_sz (fw_gi (pc := 122) (ix := 15) (ci := 8) (j := 3) (x := p) (by decide +kernel) (tE216c hE) (by decide +kernel) (by decide +kernel) rfl) ?_
      refine gm_sz (gm_p_const (pc := 125) (i := .iconst 1) (v := gm_vi 1) (by decide +kernel) (by decide +kernel)) ?_
      refine gm_sz (gm_p_bin (pc := 126) (i := .iadd) (f := fun x y => x + y) (by decide +kernel) rfl) ?_
      refine gm_sz (fw_pi (pc := 127) (ix := 15) (ci := 8) (j := 3) (M' := cm M (p + 1) b w k v us lc D C) (by decide +kernel) (tE216c hE) (by decide +kernel) (by decide +kernel) (by decide +kernel) cm_p) ?_
      refine gm_sz (gm_p_goto (pc := 130) (off := (-36)) (by decide +kernel) (by decide)) ?_
      rw [tx_rt (by omega) (decide_eq_true (by omega))] at kq
      exact ih (by omega) kq
    · show gm_Wp X LX d _ _ 76 117 _ [gm_vi 0] n K R _ Q
      have j3 : ¬ (97 ≤ M 2 p ∧ M 2 p ≤ 122) := j3
      refine fw_iftd (cc := .eq) (pc := 117) (off := 171) (by decide +kernel) (by decide) ⟨by decide, by decide⟩ (by decide) ?_
      rw [tx_rf (fun h h2 => by have := of_decide_eq_true h2; omega)] at kq
      exact kq
theorem tx_n2 (hd : 1 ≤ d) (hE : tx_E n K R M e) : ∀ p, 0 ≤ p → p ≤ e → ∀ (v : Int) (z : Option gm_V), b ≤ p → 0 ≤ b → (v = -1 ∨ (0 ≤ v ∧ v < tx_t (p - b))) → (∀ z, gm_Wp X LX d bc bs 76 288 [some (gm_vr 216), z] [] n K R (cm M (tx_r (tx_d (M 2)) e p) b w k (tx_u (M 2) e 3 b (e - p).toNat p v) us lc D C) Q) → gm_Wp X LX d bc bs 76 160 [some (gm_vr 216), z] [] n K R (cm M p b w k v us lc D C) Q := by
  obtain ⟨-, he0, he4⟩ := tEe hE
  refine fw_ind (fun p hp0 hpe ih v z hbp hb0 hv kq => ?_)
  have htb := tx_tb (k := p - b)
  refine gm_sz (gm_p_load (pc := 160) (i := .aload_n 0) (sr := 2) (j := 0) (by decide +kernel) rfl rfl rfl) ?_
  refine gm_sz (fw_gi (pc := 161) (ix := 15) (ci := 8) (j := 3) (x := p) (by decide +kernel) (tE216c hE) (by decide +kernel) (by decide +kernel) rfl) ?_
  refine gm_sz (gm_p_load (pc := 164) (i := .aload_n 0) (sr := 2) (j := 0) (by decide +kernel) rfl rfl rfl) ?_
  refine gm_sz (fw_gi (pc := 165) (ix := 9) (ci := 8) (j := 2) (x := e) (by decide +kernel) (tE216c hE) (by decide +kernel) (by decide +kernel) (tEe hE).1) ?_
  refine fw_ic (cc := .ge) (pc := 168) (off := 120) (by decide +kernel) (by decide) ⟨by omega, by omega⟩ ⟨by omega, by omega⟩ (fun j1 => ?_) (fun j1 => ?_)
  · have j1 : e ≤ p := j1
    have kq := kq z
    rw [tx_rf (fun h h2 => by have := of_decide_eq_true h2; omega), tx_uf (fun h h2 => by have := of_decide_eq_true h2; omega)] at kq
    exact kq
  · have j1 : ¬ e ≤ p := j1
    refine gm_sz (gm_p_load (pc := 171) (i := .aload_n 0) (sr := 2) (j := 0) (by decide +kernel) rfl rfl rfl) ?_
    refine gm_sz (fw_gr (pc := 172) (ix := 30) (ci := 8) (j := 0) (r := 2) (by decide +kernel) (tE216c hE) (by decide +kernel) (by decide +kernel) (tEr hE).1) ?_
    refine gm_sz (gm_p_load (pc := 175) (i := .aload_n 0) (sr := 2) (j := 0) (by decide +kernel) rfl rfl rfl) ?_
    refine gm_sz (fw_gi (pc := 176) (ix := 15) (ci := 8) (j := 3) (x := p) (by decide +kernel) (tE216c hE) (by decide +kernel) (by decide +kernel) rfl) ?_
    refine gm_sz (fw_ba (pc := 179) (k := 2) (len := 400) (e0 := p) (x := M 2 p) (by decide +kernel) (tE2 hE).1 (tE2 hE).2 (by decide) ⟨by omega, by omega⟩ rfl) ?_
    have y2 := tEb hE (j := p) (by omega) (by omega)
    refine gm_c_stat (mj := 78) (ix := 50) (pc := 180) (as := [gm_vi (M 2 p)]) (st := []) (d' := d - 1) (bc' := 0) (bs' := 0) (by decide +kernel) (by decide +kernel) (by decide +kernel) (by decide +kernel) (show 1 = gm_na 78 by decide +kernel) (fw_c1 fw_si) (show 1 ≤ gm_ml 78 by decide +kernel) (Nat.le_of_ble_eq_true rfl) (by omega) (Nat.zero_le _) (Nat.zero_le _) ?_
    refine tx_c78 ⟨by omega, by omega⟩ (fun j3 => ?_) (fun j3 => ?_)
    · show gm_Wp X LX d _ _ 76 183 _ [gm_vi 1] n K R _ Q
      have j3 : 48 ≤ M 2 p ∧ M 2 p ≤ 57 := j3
      refine fw_iffd (cc := .eq) (pc := 183) (off := 105) (by decide +kernel) (by decide) ⟨by decide, by decide⟩ (by decide) ?_
      refine gm_sz (gm_p_load (pc := 186) (i := .aload_n 0) (sr := 2) (j := 0) (by decide +kernel) rfl rfl rfl) ?_
      refine gm_sz (fw_gi (pc := 187) (ix := 15) (ci := 8) (j := 3) (x := p) (by decide +kernel) (tE216c hE) (by decide +kernel) (by decide +kernel) rfl) ?_
      refine gm_sz (gm_p_load (pc := 190) (i := .aload_n 0) (sr := 2) (j := 0) (by decide +kernel) rfl rfl rfl) ?_
      refine gm_sz (fw_gi (pc := 191) (ix := 18) (ci := 8) (j := 4) (x := b) (by decide +kernel) (tE216c hE) (by decide +kernel) (by decide +kernel) rfl) ?_
      refine gm_sz (gm_p_bin (pc := 194) (i := .isub) (f := fun x y => x - y) (by decide +kernel) rfl) ?_
      refine gm_sz (gm_p_load (pc := 195) (i := .aload_n 0) (sr := 2) (j := 0) (by decide +kernel) rfl rfl rfl) ?_
      refine gm_sz (fw_gi (pc := 196) (ix := 34) (ci := 8) (j := 1) (x := 3) (by decide +kernel) (tE216c hE) (by decide +kernel) (by decide +kernel) (tEm hE).1) ?_
      refine fw_ic (cc := .ge) (pc := 199) (off := 15) (by decide +kernel) (by decide) ⟨by omega, by omega⟩ ⟨by decide, by decide⟩ (fun j4 => ?_) (fun j4 => ?_)
      · have j4 : 3 ≤ (p - b) := j4
        refine gm_sz (gm_p_const (pc := 214) (i := .iconst 0) (v := gm_vi 0) (by decide +kernel) (by decide +kernel)) ?_
        refine gm_sz (gm_p_stor (pc := 215) (i := .istore_n 1) (sr := 0) (j := 1) (by decide +kernel) rfl (show 2 ≤ _ from Nat.le_of_ble_eq_true rfl) rfl) ?_
        refine gm_sz (gm_p_load (pc := 216) (i := .aload_n 0) (sr := 2) (j := 0) (by decide +kernel) rfl rfl rfl) ?_
        refine gm_sz (gm_p_load (pc := 217) (i := .iload_n 1) (sr := 0) (j := 1) (by decide +kernel) rfl rfl rfl) ?_
        refine fw_iftd (cc := .eq) (pc := 218) (off := 26) (by decide +kernel) (by decide) ⟨by decide, by decide⟩ (by decide) ?_
        refine gm_sz (gm_p_const (pc := 244) (i := .iconst (-1)) (v := gm_vi (-1)) (by decide +kernel) (by decide +kernel)) ?_
        refine gm_sz (fw_pi (pc := 245) (ix := 27) (ci := 8) (j := 7) (M' := cm M p b w k (-1) us lc D C) (by decide +kernel) (tE216c hE) (by decide +kernel) (by decide +kernel) (by decide +kernel) cm_v) ?_
        refine gm_sz (gm_p_load (pc := 248) (i := .aload_n 0) (sr := 2) (j := 0) (by decide +kernel) rfl rfl rfl) ?_
        refine gm_sz (gm_p_dup (pc := 249) (by decide +kernel) fw_sr) ?_
        refine gm_sz (fw_gi (pc := 250) (ix := 15) (ci := 8) (j := 3) (x := p) (by decide +kernel) (tE216c hE) (by decide +kernel) (by decide +kernel) rfl) ?_
        refine gm_sz (gm_p_const (pc := 253) (i := .iconst 1) (v := gm_vi 1) (by decide +kernel) (by decide +kernel)) ?_
        refine gm_sz (gm_p_bin (pc := 254) (i := .iadd) (f := fun x y => x + y) (by decide +kernel) rfl) ?_
        refine gm_sz (fw_pi (pc := 255) (ix := 15) (ci := 8) (j := 3) (M' := cm M (p + 1) b w k (-1) us lc D C) (by decide +kernel) (tE216c hE) (by decide +kernel) (by decide +kernel) (by decide +kernel) cm_p) ?_
        refine gm_sz (gm_p_goto (pc := 258) (off := (-98)) (by decide +kernel) (by decide)) ?_
        have hdg : tx_d (M 2) p = true := decide_eq_true (by omega)
        rw [tx_rt (by omega) hdg, tx_ut (by omega) hdg] at kq
        rw [if_neg (show ¬ (p - b < 3 ∧ ¬ v = -1) by omega)] at kq
        exact ih (by omega) _ _ (by omega) hb0 (Or.inl rfl) kq
      · have j4 : ¬ 3 ≤ (p - b) := j4
        refine gm_sz (gm_p_load (pc := 202) (i := .aload_n 0) (sr := 2) (j := 0) (by decide +kernel) rfl rfl rfl) ?_
        refine gm_sz (fw_gi (pc := 203) (ix := 27) (ci := 8) (j := 7) (x := v) (by decide +kernel) (tE216c hE) (by decide +kernel) (by decide +kernel) rfl) ?_
        refine gm_sz (gm_p_const (pc := 206) (i := .iconst (-1)) (v := gm_vi (-1)) (by decide +kernel) (by decide +kernel)) ?_
        refine fw_ic (cc := .eq) (pc := 207) (off := 7) (by decide +kernel) (by decide) ⟨by omega, by omega⟩ ⟨by decide, by decide⟩ (fun j5 => ?_) (fun j5 => ?_)
        · have j5 : v = (-1) := j5
          refine gm_sz (gm_p_const (pc := 214) (i := .iconst 0) (v := gm_vi 0) (by decide +kernel) (by decide +kernel)) ?_
          refine gm_sz (gm_p_stor (pc := 215) (i := .istore_n 1) (sr := 0) (j := 1) (by decide +kernel) rfl (show 2 ≤ _ from Nat.le_of_ble_eq_true rfl) rfl) ?_
          refine gm_sz (gm_p_load (pc := 216) (i := .aload_n 0) (sr := 2) (j := 0) (by decide +kernel) rfl rfl rfl) ?_
          refine gm_sz (gm_p_load (pc := 217) (i := .iload_n 1) (sr := 0) (j := 1) (by decide +kernel) rfl rfl rfl) ?_
          refine fw_iftd (cc := .eq) (pc := 218) (off := 26) (by decide +kernel) (by decide) ⟨by decide, by decide⟩ (by decide) ?_
          refine gm_sz (gm_p_const (pc := 244) (i := .iconst (-1)) (v := gm_vi (-1)) (by decide +kernel) (by decide +kernel)) ?_
          refine gm_sz (fw_pi (pc := 245) (ix := 27) (ci := 8) (j := 7) (M' := cm M p b w k (-1) us lc D C) (by decide +kernel) (tE216c hE) (by decide +kernel) (by decide +kernel) (by decide +kernel) cm_v) ?_
          refine gm_sz (gm_p_load (pc := 248) (i := .aload_n 0) (sr := 2) (j := 0) (by decide +kernel) rfl rfl rfl) ?_
          refine gm_sz (gm_p_dup (pc := 249) (by decide +kernel) fw_sr) ?_
          refine gm_sz (fw_gi (pc := 250) (ix := 15) (ci := 8) (j := 3) (x := p) (by decide +kernel) (tE216c hE) (by decide +kernel) (by decide +kernel) rfl) ?_
          refine gm_sz (gm_p_const (pc := 253) (i := .iconst 1) (v := gm_vi 1) (by decide +kernel) (by decide +kernel)) ?_
          refine gm_sz (gm_p_bin (pc := 254) (i := .iadd) (f := fun x y => x + y) (by decide +kernel) rfl) ?_
          refine gm_sz (fw_pi (pc := 255) (ix := 15) (ci := 8) (j := 3) (M' := cm M (p + 1) b w k (-1) us lc D C) (by decide +kernel) (tE216c hE) (by decide +kernel) (by decide +kernel) (by decide +kernel) cm_p) ?_
          refine gm_sz (gm_p_goto (pc := 258) (off := (-98)) (by decide +kernel) (by decide)) ?_
          have hdg : tx_d (M 2) p = true := decide_eq_true (by omega)
          rw [tx_rt (by omega) hdg, tx_ut (by omega) hdg] at kq
          rw [if_neg (show ¬ (p - b < 3 ∧ ¬ v = -1) by omega)] at kq
          exact ih (by omega) _ _ (by omega) hb0 (Or.inl rfl) kq
        · have j5 : ¬ v = (-1) := j5
          refine gm_sz (gm_p_const (pc := 210) (i := .iconst 1) (v := gm_vi 1) (by decide +kernel) (by decide +kernel)) ?_
          refine gm_sz (gm_p_goto (pc := 211) (off := 4) (by decide +kernel) (by decide)) ?_
          refine gm_sz (gm_p_stor (pc := 215) (i := .istore_n 1) (sr := 0) (j := 1) (by decide +kernel) rfl (show 2 ≤ _ from Nat.le_of_ble_eq_true rfl) rfl) ?_
          refine gm_sz (gm_p_load (pc := 216) (i := .aload_n 0) (sr := 2) (j := 0) (by decide +kernel) rfl rfl rfl) ?_
          refine gm_sz (gm_p_load (pc := 217) (i := .iload_n 1) (sr := 0) (j := 1) (by decide +kernel) rfl rfl rfl) ?_
          refine fw_iffd (cc := .eq) (pc := 218) (off := 26) (by decide +kernel) (by decide) ⟨by decide, by decide⟩ (by decide) ?_
          refine gm_sz (gm_p_load (pc := 221) (i := .aload_n 0) (sr := 2) (j := 0) (by decide +kernel) rfl rfl rfl) ?_
          refine gm_sz (fw_gi (pc := 222) (ix := 27) (ci := 8) (j := 7) (x := v) (by decide +kernel) (tE216c hE) (by decide +kernel) (by decide +kernel) rfl) ?_
          refine gm_sz (gm_p_const (pc := 225) (i := .bipush 10) (v := gm_vi 10) (by decide +kernel) (by decide +kernel)) ?_
          refine gm_sz (gm_p_bin (pc := 227) (i := .imul) (f := fun x y => x * y) (by decide +kernel) rfl) ?_
          refine gm_sz (gm_p_load (pc := 228) (i := .aload_n 0) (sr := 2) (j := 0) (by decide +kernel) rfl rfl rfl) ?_
          refine gm_sz (fw_gr (pc := 229) (ix := 30) (ci := 8) (j := 0) (r := 2) (by decide +kernel) (tE216c hE) (by decide +kernel) (by decide +kernel) (tEr hE).1) ?_
          refine gm_sz (gm_p_load (pc := 232) (i := .aload_n 0) (sr := 2) (j := 0) (by decide +kernel) rfl rfl rfl) ?_
          refine gm_sz (fw_gi (pc := 233) (ix := 15) (ci := 8) (j := 3) (x := p) (by decide +kernel) (tE216c hE) (by decide +kernel) (by decide +kernel) rfl) ?_
          refine gm_sz (fw_ba (pc := 236) (k := 2) (len := 400) (e0 := p) (x := M 2 p) (by decide +kernel) (tE2 hE).1 (tE2 hE).2 (by decide) ⟨by omega, by omega⟩ rfl) ?_
          have y6 := tEb hE (j := p) (by omega) (by omega)
          refine gm_sz (gm_p_bin (pc := 237) (i := .iadd) (f := fun x y => x + y) (by decide +kernel) rfl) ?_
          refine gm_sz (gm_p_const (pc := 238) (i := .bipush 48) (v := gm_vi 48) (by decide +kernel) (by decide +kernel)) ?_
          refine gm_sz (gm_p_bin (pc := 240) (i := .isub) (f := fun x y => x - y) (by decide +kernel) rfl) ?_
          refine gm_sz (gm_p_goto (pc := 241) (off := 4) (by decide +kernel) (by decide)) ?_
          refine gm_sz (fw_pi (pc := 245) (ix := 27) (ci := 8) (j := 7) (M' := cm M p b w k (((v * 10) + (M 2 p)) - 48) us lc D C) (by decide +kernel) (tE216c hE) (by decide +kernel) (by decide +kernel) (by decide +kernel) cm_v) ?_
          refine gm_sz (gm_p_load (pc := 248) (i := .aload_n 0) (sr := 2) (j := 0) (by decide +kernel) rfl rfl rfl) ?_
          refine gm_sz (gm_p_dup (pc := 249) (by decide +kernel) fw_sr) ?_
          refine gm_sz (fw_gi (pc := 250) (ix := 15) (ci := 8) (j := 3) (x := p) (by decide +kernel) (tE216c hE) (by decide +kernel) (by decide +kernel) rfl) ?_
          refine gm_sz (gm_p_const (pc := 253) (i := .iconst 1) (v := gm_vi 1) (by decide +kernel) (by decide +kernel)) ?_
          refine gm_sz (gm_p_bin (pc := 254) (i := .iadd) (f := fun x y => x + y) (by decide +kernel) rfl) ?_
          refine gm_sz (fw_pi (pc := 255) (ix := 15) (ci := 8) (j := 3) (M' := cm M (p + 1) b w k (((v * 10) + (M 2 p)) - 48) us lc D C) (by decide +kernel) (tE216c hE) (by decide +kernel) (by decide +kernel) (by decide +kernel) cm_p) ?_
          refine gm_sz (gm_p_goto (pc := 258) (off := (-98)) (by decide +kernel) (by decide)) ?_
          have hdg : tx_d (M 2) p = true := decide_eq_true (by omega)
          rw [tx_rt (by omega) hdg, tx_ut (by omega) hdg] at kq
          rw [if_pos (show p - b < 3 ∧ ¬ v = -1 by omega)] at kq
          have t := tx_tv (v := v) (k := p - b) (c := M 2 p) (by omega) (by omega) (by omega)
          exact ih (by omega) _ _ (by omega) hb0 (Or.inr (by rw [show p + 1 - b = p - b + 1 by omega]; exact t)) kq
    · show gm_Wp X LX d _ _ 76 183 _ [gm_vi 0] n K R _ Q
      have j3 : ¬ (48 ≤ M 2 p ∧ M 2 p ≤ 57) := j3
      refine fw_iftd (cc := .eq) (pc := 183) (off := 105) (by decide +kernel) (by decide) ⟨by decide, by decide⟩ (by decide) ?_
      have kq := kq z
      rw [tx_rf (fun h h2 => by have := of_decide_eq_true h2; omega), tx_uf (fun h h2 => by have := of_decide_eq_true h2; omega)] at kq
      exact kq
/-- next, from a place p -/
theorem tx_nx (hd : 1 ≤ d) (hE : tx_E n K R M e) (hp : 0 ≤ p ∧ p ≤ e) (hq : Q (.inl none) n K R (ct M e (tx_g (M 2) e p) w us lc D C)) : gm_Wp X LX d bc bs 76 0 (gm_ent 76 [gm_vr 216]) [] n K R (cm M p b w k v us lc D C) Q := by
  obtain ⟨-, he0, he4⟩ := tEe hE
  refine tx_n0 hd hE p hp.1 hp.2 ?_
  obtain ⟨g1, g2, -⟩ := tx_gb (f := M 2) hp.2
  generalize tx_g (M 2) e p = q at *
  refine gm_sz (gm_p_load (pc := 38) (i := .aload_n 0) (sr := 2) (j := 0) (by decide +kernel) rfl rfl rfl) ?_
  refine gm_sz (gm_p_load (pc := 39) (i := .aload_n 0) (sr := 2) (j := 0) (by decide +kernel) rfl rfl rfl) ?_
  refine gm_sz (fw_gi (pc := 40) (ix := 15) (ci := 8) (j := 3) (x := q) (by decide +kernel) (tE216c hE) (by decide +kernel) (by decide +kernel) rfl) ?_
  refine gm_sz (fw_pi (pc := 43) (ix := 18) (ci := 8) (j := 4) (M' := cm M q q w k v us lc D C) (by decide +kernel) (tE216c hE) (by decide +kernel) (by decide +kernel) (by decide +kernel) cm_b) ?_
  refine gm_sz (gm_p_load (pc := 46) (i := .aload_n 0) (sr := 2) (j := 0) (by decide +kernel) rfl rfl rfl) ?_
  refine gm_sz (gm_p_const (pc := 47) (i := .iconst (-1)) (v := gm_vi (-1)) (by decide +kernel) (by decide +kernel)) ?_
  refine gm_sz (fw_pi (pc := 48) (ix := 27) (ci := 8) (j := 7) (M' := cm M q q w k (-1) us lc D C) (by decide +kernel) (tE216c hE) (by decide +kernel) (by decide +kernel) (by decide +kernel) cm_v) ?_
  refine gm_sz (gm_p_load (pc := 51) (i := .aload_n 0) (sr := 2) (j := 0) (by decide +kernel) rfl rfl rfl) ?_
  refine gm_sz (fw_gi (pc := 52) (ix := 15) (ci := 8) (j := 3) (x := q) (by decide +kernel) (tE216c hE) (by decide +kernel) (by decide +kernel) rfl) ?_
  refine gm_sz (gm_p_load (pc := 55) (i := .aload_n 0) (sr := 2) (j := 0) (by decide +kernel) rfl rfl rfl) ?_
  refine gm_sz (fw_gi (pc := 56) (ix := 9) (ci := 8) (j := 2) (x := e) (by decide +kernel) (tE216c hE) (by decide +kernel) (by decide +kernel) (tEe hE).1) ?_
  refine fw_ic (cc := .lt) (pc := 59) (off := 13) (by decide +kernel) (by decide) ⟨by omega, by omega⟩ ⟨by omega, by omega⟩ (fun j1 => ?_) (fun j1 => ?_)
  · have j1 : q < e := j1
    refine gm_sz (gm_p_load (pc := 72) (i := .aload_n 0) (sr := 2) (j := 0) (by decide +kernel) rfl rfl rfl) ?_
    refine gm_sz (fw_gr (pc := 73) (ix := 30) (ci := 8) (j := 0) (r := 2) (by decide +kernel) (tE216c hE) (by decide +kernel) (by decide +kernel) (tEr hE).1) ?_
    refine gm_sz (gm_p_load (pc := 76) (i := .aload_n 0) (sr := 2) (j := 0) (by decide +kernel) rfl rfl rfl) ?_
    refine gm_sz (fw_gi (pc := 77) (ix := 15) (ci := 8) (j := 3) (x := q) (by decide +kernel) (tE216c hE) (by decide +kernel) (by decide +kernel) rfl) ?_
    refine gm_sz (fw_ba (pc := 80) (k := 2) (len := 400) (e0 := q) (x := M 2 q) (by decide +kernel) (tE2 hE).1 (tE2 hE).2 (by decide) ⟨by omega, by omega⟩ rfl) ?_
    have y2 := tEb hE (j := q) (by omega) (by omega)
    refine gm_c_stat (mj := 77) (ix := 46) (pc := 81) (as := [gm_vi (M 2 q)]) (st := []) (d' := d - 1) (bc' := 0) (bs' := 0) (by decide +kernel) (by decide +kernel) (by decide +kernel) (by decide +kernel) (show 1 = gm_na 77 by decide +kernel) (fw_c1 fw_si) (show 1 ≤ gm_ml 77 by decide +kernel) (Nat.le_of_ble_eq_true rfl) (by omega) (Nat.zero_le _) (Nat.zero_le _) ?_
    refine tx_c77 ⟨by omega, by omega⟩ (fun j3 => ?_) (fun j3 => ?_)
    · show gm_Wp X LX d _ _ 76 84 _ [gm_vi 1] n K R _ Q
      have j3 : 97 ≤ M 2 q ∧ M 2 q ≤ 122 := j3
      refine fw_iffd (cc := .eq) (pc := 84) (off := 49) (by decide +kernel) (by decide) ⟨by decide, by decide⟩ (by decide) ?_
      refine gm_sz (gm_p_load (pc := 87) (i := .aload_n 0) (sr := 2) (j := 0) (by decide +kernel) rfl rfl rfl) ?_
      refine gm_sz (gm_p_const (pc := 88) (i := .sipush 257) (v := gm_vi 257) (by decide +kernel) (by decide +kernel)) ?_
      refine gm_sz (fw_pi (pc := 91) (ix := 24) (ci := 8) (j := 6) (M' := cm M q q w 257 (-1) us lc D C) (by decide +kernel) (tE216c hE) (by decide +kernel) (by decide +kernel) (by decide +kernel) cm_k) ?_
      refine tx_n1 hd hE q (by omega) (by omega) ?_
      obtain ⟨t1, t2, t3⟩ := tx_k1 (f := M 2) (e := e) (b := q) (m := 3) (by omega) (by omega)
      unfold ct at hq
      rw [t1, t2, t3] at hq
      exact gm_r_void (pc := 288) (by decide +kernel) (by decide +kernel) hq
    · show gm_Wp X LX d _ _ 76 84 _ [gm_vi 0] n K R _ Q
      have j3 : ¬ (97 ≤ M 2 q ∧ M 2 q ≤ 122) := j3
      refine fw_iftd (cc := .eq) (pc := 84) (off := 49) (by decide +kernel) (by decide) ⟨by decide, by decide⟩ (by decide) ?_
      refine gm_sz (gm_p_load (pc := 133) (i := .aload_n 0) (sr := 2) (j := 0) (by decide +kernel) rfl rfl rfl) ?_
      refine gm_sz (fw_gr (pc := 134) (ix := 30) (ci := 8) (j := 0) (r := 2) (by decide +kernel) (tE216c hE) (by decide +kernel) (by decide +kernel) (tEr hE).1) ?_
      refine gm_sz (gm_p_load (pc := 137) (i := .aload_n 0) (sr := 2) (j := 0) (by decide +kernel) rfl rfl rfl) ?_
      refine gm_sz (fw_gi (pc := 138) (ix := 15) (ci := 8) (j := 3) (x := q) (by decide +kernel) (tE216c hE) (by decide +kernel) (by decide +kernel) rfl) ?_
      refine gm_sz (fw_ba (pc := 141) (k := 2) (len := 400) (e0 := q) (x := M 2 q) (by decide +kernel) (tE2 hE).1 (tE2 hE).2 (by decide) ⟨by omega, by omega⟩ rfl) ?_
      have y4 := tEb hE (j := q) (by omega) (by omega)
      refine gm_c_stat (mj := 78) (ix := 50) (pc := 142) (as := [gm_vi (M 2 q)]) (st := []) (d' := d - 1) (bc' := 0) (bs' := 0) (by decide +kernel) (by decide +kernel) (by decide +kernel) (by decide +kernel) (show 1 = gm_na 78 by decide +kernel) (fw_c1 fw_si) (show 1 ≤ gm_ml 78 by decide +kernel) (Nat.le_of_ble_eq_true rfl) (by omega) (Nat.zero_le _) (Nat.zero_le _) ?_
      refine tx_c78 ⟨by omega, by omega⟩ (fun j5 => ?_) (fun j5 => ?_)
      · show gm_Wp X LX d _ _ 76 145 _ [gm_vi 1] n K R _ Q
        have j5 : 48 ≤ M 2 q ∧ M 2 q ≤ 57 := j5
        refine fw_iffd (cc := .eq) (pc := 145) (off := 116) (by decide +kernel) (by decide) ⟨by decide, by decide⟩ (by decide) ?_
        refine gm_sz (gm_p_load (pc := 148) (i := .aload_n 0) (sr := 2) (j := 0) (by decide +kernel) rfl rfl rfl) ?_
        refine gm_sz (gm_p_const (pc := 149) (i := .sipush 258) (v := gm_vi 258) (by decide +kernel) (by decide +kernel)) ?_
        refine gm_sz (fw_pi (pc := 152) (ix := 24) (ci := 8) (j := 6) (M' := cm M q q w 258 (-1) us lc D C) (by decide +kernel) (tE216c hE) (by decide +kernel) (by decide +kernel) (by decide +kernel) cm_k) ?_
        refine gm_sz (gm_p_load (pc := 155) (i := .aload_n 0) (sr := 2) (j := 0) (by decide +kernel) rfl rfl rfl) ?_
        refine gm_sz (gm_p_const (pc := 156) (i := .iconst 0) (v := gm_vi 0) (by decide +kernel) (by decide +kernel)) ?_
        refine gm_sz (fw_pi (pc := 157) (ix := 27) (ci := 8) (j := 7) (M' := cm M q q w 258 0 us lc D C) (by decide +kernel) (tE216c hE) (by decide +kernel) (by decide +kernel) (by decide +kernel) cm_v) ?_
        refine tx_n2 hd hE q (by omega) (by omega) 0 none (Int.le_refl _) (by omega) (Or.inr ⟨Int.le_refl _, by have := (tx_tb (k := q - q)).1; omega⟩) (fun z => ?_)
        obtain ⟨t1, t2, t3⟩ := tx_k2 (f := M 2) (e := e) (b := q) (m := 3) (by omega) (by omega)
        unfold ct at hq
        rw [t1, t2, t3] at hq
        exact gm_r_void (pc := 288) (by decide +kernel) (by decide +kernel) hq
      · show gm_Wp X LX d _ _ 76 145 _ [gm_vi 0] n K R _ Q
        have j5 : ¬ (48 ≤ M 2 q ∧ M 2 q ≤ 57) := j5
        refine fw_iftd (cc := .eq) (pc := 145) (off := 116) (by decide +kernel) (by decide) ⟨by decide, by decide⟩ (by decide) ?_
        refine gm_sz (gm_p_load (pc := 261) (i := .aload_n 0) (sr := 2) (j := 0) (by decide +kernel) rfl rfl rfl) ?_
        refine gm_sz (gm_p_load (pc := 262) (i := .aload_n 0) (sr := 2) (j := 0) (by decide +kernel) rfl rfl rfl) ?_
        refine gm_sz (fw_gr (pc := 263) (ix := 30) (ci := 8) (j := 0) (r := 2) (by decide +kernel) (tE216c hE) (by decide +kernel) (by decide +kernel) (tEr hE).1) ?_
        refine gm_sz (gm_p_load (pc := 266) (i := .aload_n 0) (sr := 2) (j := 0) (by decide +kernel) rfl rfl rfl) ?_
        refine gm_sz (fw_gi (pc := 267) (ix := 15) (ci := 8) (j := 3) (x := q) (by decide +kernel) (tE216c hE) (by decide +kernel) (by decide +kernel) rfl) ?_
        refine gm_sz (fw_ba (pc := 270) (k := 2) (len := 400) (e0 := q) (x := M 2 q) (by decide +kernel) (tE2 hE).1 (tE2 hE).2 (by decide) ⟨by omega, by omega⟩ rfl) ?_
        have y6 := tEb hE (j := q) (by omega) (by omega)
        refine gm_sz (gm_p_const (pc := 271) (i := .sipush 255) (v := gm_vi 255) (by decide +kernel) (by decide +kernel)) ?_
        refine gm_sz (gm_p_bin (pc := 274) (i := .iand) (by decide +kernel) rfl) ?_
        rw [show (Int32.ofInt (M 2 q) &&& Int32.ofInt 255).toInt = (M 2 q) % 256 from tx_by ⟨by omega, by omega⟩]
        refine gm_sz (fw_pi (pc := 275) (ix := 24) (ci := 8) (j := 6) (M' := cm M q q w ((M 2 q) % 256) (-1) us lc D C) (by decide +kernel) (tE216c hE) (by decide +kernel) (by decide +kernel) (by decide +kernel) cm_k) ?_
        refine gm_sz (gm_p_load (pc := 278) (i := .aload_n 0) (sr := 2) (j := 0) (by decide +kernel) rfl rfl rfl) ?_
        refine gm_sz (gm_p_dup (pc := 279) (by decide +kernel) fw_sr) ?_
        refine gm_sz (fw_gi (pc := 280) (ix := 15) (ci := 8) (j := 3) (x := q) (by decide +kernel) (tE216c hE) (by decide +kernel) (by decide +kernel) rfl) ?_
        refine gm_sz (gm_p_const (pc := 283) (i := .iconst 1) (v := gm_vi 1) (by decide +kernel) (by decide +kernel)) ?_
        refine gm_sz (gm_p_bin (pc := 284) (i := .iadd) (f := fun x y => x + y) (by decide +kernel) rfl) ?_
        refine gm_sz (fw_pi (pc := 285) (ix := 15) (ci := 8) (j := 3) (M' := cm M (q + 1) q w ((M 2 q) % 256) (-1) us lc D C) (by decide +kernel) (tE216c hE) (by decide +kernel) (by decide +kernel) (by decide +kernel) cm_p) ?_
        obtain ⟨t1, t2, t3⟩ := tx_k3 (f := M 2) (e := e) (b := q) (m := 3) (by omega) (by omega) (by omega)
        unfold ct at hq
        rw [t1, t2, t3] at hq
        exact gm_r_void (pc := 288) (by decide +kernel) (by decide +kernel) hq
  · have j1 : ¬ q < e := j1
    refine gm_sz (gm_p_load (pc := 62) (i := .aload_n 0) (sr := 2) (j := 0) (by decide +kernel) rfl rfl rfl) ?_
    refine gm_sz (gm_p_const (pc := 63) (i := .sipush 256) (v := gm_vi 256) (by decide +kernel) (by decide +kernel)) ?_
    refine gm_sz (fw_pi (pc := 66) (ix := 24) (ci := 8) (j := 6) (M' := cm M q q w 256 (-1) us lc D C) (by decide +kernel) (tE216c hE) (by decide +kernel) (by decide +kernel) (by decide +kernel) cm_k) ?_
    refine gm_sz (gm_p_goto (pc := 69) (off := 219) (by decide +kernel) (by decide)) ?_
    obtain ⟨t1, t2, t3⟩ := tx_k0 (f := M 2) (e := e) (b := q) (m := 3) (by omega)
    unfold ct at hq
    rw [t1, t2, t3] at hq
    exact gm_r_void (pc := 288) (by decide +kernel) (by decide +kernel) hq
theorem tx_c76 (hd : 1 ≤ d) (hE : tx_E n K R M e) (hb : 0 ≤ b ∧ b ≤ e) (hq : Q (.inl none) n K R (ct M e (tx_n (M 2) e b) w us lc D C)) : gm_Wp X LX d bc bs 76 0 (gm_ent 76 [gm_vr 216]) [] n K R (ct M e b w us lc D C) Q := by
  obtain ⟨h1, h2, -⟩ := tx_sb (f := M 2) hb.2
  exact tx_nx hd hE ⟨by omega, h2⟩ hq
theorem tx_c93 (hE : tx_E n K R M e) (hb : 0 ≤ b ∧ b ≤ e) (hq : Q (.inl (some (gm_vi 0))) n K R (ct M e b b us lc D C)) : gm_Wp X LX d bc bs 93 0 (gm_ent 93 [gm_vr 216]) [] n K R (ct M e b (-1) us lc D C) Q := by
  refine gm_sz (gm_p_load (pc := 0) (i := .aload_n 0) (sr := 2) (j := 0) (by decide +kernel) rfl rfl rfl) ?_
  refine gm_sz (fw_gi (pc := 1) (ix := 21) (ci := 8) (j := 5) (x := (-1)) (by decide +kernel) (tE216c hE) (by decide +kernel) (by decide +kernel) rfl) ?_
  refine gm_sz (gm_p_const (pc := 4) (i := .iconst (-1)) (v := gm_vi (-1)) (by decide +kernel) (by decide +kernel)) ?_
  refine fw_icfd (cc := .ne) (pc := 5) (off := 11) (by decide +kernel) (by decide) ⟨by decide, by decide⟩ ⟨by decide, by decide⟩ (by decide) ?_
  refine gm_sz (gm_p_load (pc := 8) (i := .aload_n 0) (sr := 2) (j := 0) (by decide +kernel) rfl rfl rfl) ?_
  refine gm_sz (gm_p_load (pc := 9) (i := .aload_n 0) (sr := 2) (j := 0) (by decide +kernel) rfl rfl rfl) ?_
  refine gm_sz (fw_gi (pc := 10) (ix := 18) (ci := 8) (j := 4) (x := b) (by decide +kernel) (tE216c hE) (by decide +kernel) (by decide +kernel) rfl) ?_
  refine gm_sz (fw_pi (pc := 13) (ix := 21) (ci := 8) (j := 5) (M' := ct M e b b us lc D C) (by decide +kernel) (tE216c hE) (by decide +kernel) (by decide +kernel) (by decide +kernel) ct_w) ?_
  refine gm_sz (gm_p_const (pc := 16) (i := .iconst 0) (v := gm_vi 0) (by decide +kernel) (by decide +kernel)) ?_
  exact gm_r_int (pc := 17) (by decide +kernel) (Or.inr ⟨(by decide +kernel), Or.inl rfl⟩) hq
theorem tx_c121 (hE : tx_E n K R M e) (hq : Q (.inl (some (gm_vi w))) n K R (ct M e b w us lc D C)) : gm_Wp X LX d bc bs 121 0 (gm_ent 121 [gm_vr 216]) [] n K R (ct M e b w us lc D C) Q := by
  refine gm_sz (gm_p_load (pc := 0) (i := .aload_n 0) (sr := 2) (j := 0) (by decide +kernel) rfl rfl rfl) ?_
  refine gm_sz (fw_gi (pc := 1) (ix := 21) (ci := 8) (j := 5) (x := w) (by decide +kernel) (tE216c hE) (by decide +kernel) (by decide +kernel) rfl) ?_
  exact gm_r_int (pc := 4) (by decide +kernel) (Or.inl (by decide +kernel)) hq
variable {c : Nat} {l : List Int}
theorem tx_w8 (hd : 5 ≤ d) (hE : tx_E n K R M e) (hc : c < 75) (hl : tx_o c = l) (hb : 0 ≤ b ∧ b ≤ e) (hk : tx_k (M 2) e b = 257) (hs : tx_s (M 2) e b - b = (l.length : Int)) (h1 : tx_is (M 2) e b l → Q (.inl (some (gm_vi 1))) n K R (ct M e b w us lc D C)) (h0 : ¬ tx_is (M 2) e b l → Q (.inl (some (gm_vi 0))) n K R (ct M e b w us lc D C)) : ∀ i, 0 ≤ i → i ≤ (l.length : Int) → (∀ j : Nat, (j : Int) < i → M 2 (b + j) = l.getD j 0) → gm_Wp X LX d bc bs 81 30 [some (gm_vr 216), some (gm_vo c), some (gm_vi i)] [] n K R (ct M e b w us lc D C) Q := by
  obtain ⟨-, he0, he4⟩ := tEe hE
  obtain ⟨s1, s2, -⟩ := tx_sb (f := M 2) hb.2
  have hsl := (tx_ol hl).1
  have hid : c < gm_sl.length := by rw [gm_sl75]; exact hc
  have hs9 := (gm_chk_s hid).1.2
  have hkb := tx_kc (f := M 2) (e := e) (b := b) (fun h => tEb hE hb.1 (by omega))
  refine fw_ind (fun i hi0 hil ih hall => ?_)
  refine gm_sz (gm_p_load (pc := 30) (i := .iload_n 2) (sr := 0) (j := 2) (by decide +kernel) rfl rfl rfl) ?_
  refine gm_sz (gm_p_load (pc := 31) (i := .aload_n 1) (sr := 2) (j := 1) (by decide +kernel) rfl rfl rfl) ?_
  refine gm_c_vstr (id := c) (mj := 82) (ix := 53) (pc := 32) (as := []) (st := [gm_vi i]) (d' := d - 1) (bc' := 0) (bs' := 0) (by decide +kernel) (by decide +kernel) (by decide +kernel) (by decide +kernel) hid (by decide +kernel) (show 0 = gm_na 82 by decide +kernel) fw_c0 (show 1 ≤ gm_ml 82 by decide +kernel) (Nat.le_of_ble_eq_true rfl) (by omega) (Nat.zero_le _) (Nat.zero_le _) ?_
  refine gm_w82 (by omega) hid ?_
  show gm_Wp X LX d _ _ 81 35 _ [gm_vi (gm_slen c : Int), gm_vi i] n K R _ Q
  refine fw_ic (cc := .ge) (pc := 35) (off := 44) (by decide +kernel) (by decide) ⟨by omega, by omega⟩ ⟨by omega, by omega⟩ (fun j1 => ?_) (fun j1 => ?_)
  · have j1 : (gm_slen c : Int) ≤ i := j1
    refine gm_sz (gm_p_const (pc := 79) (i := .iconst 1) (v := gm_vi 1) (by decide +kernel) (by decide +kernel)) ?_
    exact gm_r_int (pc := 80) (by decide +kernel) (Or.inr ⟨(by decide +kernel), Or.inr rfl⟩) (h1 ⟨hk, hs, fun j hj => hall j (by omega)⟩)
  · have j1 : ¬ (gm_slen c : Int) ≤ i := j1
    refine gm_sz (gm_p_load (pc := 38) (i := .aload_n 0) (sr := 2) (j := 0) (by decide +kernel) rfl rfl rfl) ?_
    refine gm_sz (fw_gi (pc := 39) (ix := 18) (ci := 8) (j := 4) (x := b) (by decide +kernel) (tE216c hE) (by decide +kernel) (by decide +kernel) rfl) ?_
    refine gm_sz (gm_p_load (pc := 42) (i := .iload_n 2) (sr := 0) (j := 2) (by decide +kernel) rfl rfl rfl) ?_
    refine gm_sz (gm_p_bin (pc := 43) (i := .iadd) (f := fun x y => x + y) (by decide +kernel) rfl) ?_
    refine gm_sz (gm_p_load (pc := 44) (i := .aload_n 0) (sr := 2) (j := 0) (by decide +kernel) rfl rfl rfl) ?_
    refine gm_sz (fw_gr (pc := 45) (ix := 30) (ci := 8) (j := 0) (r := 2) (by decide +kernel) (tE216c hE) (by decide +kernel) (by decide +kernel) (tEr hE).1) ?_
    refine gm_sz (fw_al (pc := 48) (k := 2) (len := 400) (by decide +kernel) (tE2 hE).1 (tE2 hE).2 (by decide)) ?_
    refine fw_icf (cc := .ge) (pc := 49) (off := 30) (by decide +kernel) (by decide) ⟨by omega, by omega⟩ ⟨by decide, by decide⟩ (show ¬ 400 ≤ (b + i) by omega) ?_
    refine gm_sz (gm_p_load (pc := 52) (i := .aload_n 0) (sr := 2) (j := 0) (by decide +kernel) rfl rfl rfl) ?_
    refine gm_sz (fw_gr (pc := 53) (ix := 30) (ci := 8) (j := 0) (r := 2) (by decide +kernel) (tE216c hE) (by decide +kernel) (by decide +kernel) (tEr hE).1) ?_
    refine gm_sz (gm_p_load (pc := 56) (i := .aload_n 0) (sr := 2) (j := 0) (by decide +kernel) rfl rfl rfl) ?_
    refine gm_sz (fw_gi (pc := 57) (ix := 18) (ci := 8) (j := 4) (x := b) (by decide +kernel) (tE216c hE) (by decide +kernel) (by decide +kernel) rfl) ?_
    refine gm_sz (gm_p_load (pc := 60) (i := .iload_n 2) (sr := 0) (j := 2) (by decide +kernel) rfl rfl rfl) ?_
    refine gm_sz (gm_p_bin (pc := 61) (i := .iadd) (f := fun x y => x + y) (by decide +kernel) rfl) ?_
    refine gm_sz (fw_ba (pc := 62) (k := 2) (len := 400) (e0 := b + i) (x := M 2 (b + i)) (by decide +kernel) (tE2 hE).1 (tE2 hE).2 (by decide) ⟨by omega, by omega⟩ rfl) ?_
    have y2 := tEb hE (j := b + i) (by omega) (by omega)
    refine gm_sz (gm_p_load (pc := 63) (i := .aload_n 1) (sr := 2) (j := 1) (by decide +kernel) rfl rfl rfl) ?_
    refine gm_sz (gm_p_load (pc := 64) (i := .iload_n 2) (sr := 0) (j := 2) (by decide +kernel) rfl rfl rfl) ?_
    refine gm_c_vstr (id := c) (mj := 84) (ix := 58) (pc := 65) (as := [gm_vi i]) (st := [gm_vi (M 2 (b + i))]) (d' := d - 1) (bc' := 0) (bs' := 0) (by decide +kernel) (by decide +kernel) (by decide +kernel) (by decide +kernel) hid (by decide +kernel) (show 1 = gm_na 84 by decide +kernel) (fw_c1 fw_si) (show 2 ≤ gm_ml 84 by decide +kernel) (Nat.le_of_ble_eq_true rfl) (by omega) (Nat.zero_le _) (Nat.zero_le _) ?_
    refine gm_w84 (by omega) hid ⟨by omega, by omega⟩ ?_
    show gm_Wp X LX d _ _ 81 68 _ [gm_vi (gm_chv c i.toNat), gm_vi (M 2 (b + i))] n K R _ Q
    have z3 := ((gm_chk_s hid).2 i.toNat (by omega)).2
    refine fw_ic (cc := .eq) (pc := 68) (off := 5) (by decide +kernel) (by decide) ⟨by omega, by omega⟩ ⟨by omega, by omega⟩ (fun j4 => ?_) (fun j4 => ?_)
    · have j4 : (M 2 (b + i)) = (gm_chv c i.toNat) := j4
      refine gm_sz (gm_p_iinc (pc := 73) (j := 2) (z := 1) (by decide +kernel) rfl) ?_
      refine gm_sz (gm_p_goto (pc := 76) (off := (-46)) (by decide +kernel) (by decide)) ?_
      refine ih (by omega) (fun j hj => ?_)
      by_cases hji : (j : Int) = i
      · rw [hji, j4, (tx_ol hl).2 i.toNat (by omega), show i.toNat = j by omega]
      · exact hall j (by omega)
    · have j4 : ¬ (M 2 (b + i)) = (gm_chv c i.toNat) := j4
      refine gm_sz (gm_p_const (pc := 71) (i := .iconst 0) (v := gm_vi 0) (by decide +kernel) (by decide +kernel)) ?_
      refine gm_r_int (pc := 72) (by decide +kernel) (Or.inr ⟨(by decide +kernel), Or.inl rfl⟩) (h0 fun hh => ?_)
      have e1 := hh.2.2 i.toNat (by omega)
      rw [show ((i.toNat : Nat) : Int) = i by omega, ← (tx_ol hl).2 i.toNat (by omega)] at e1
      exact j4 e1
/-- isWord -/
theorem tx_c81 (hd : 5 ≤ d) (hE : tx_E n K R M e) (hc : c < 75) (hl : tx_o c = l) (hb : 0 ≤ b ∧ b ≤ e) (h1 : tx_is (M 2) e b l → Q (.inl (some (gm_vi 1))) n K R (ct M e b w us lc D C)) (h0 : ¬ tx_is (M 2) e b l → Q (.inl (some (gm_vi 0))) n K R (ct M e b w us lc D C)) : gm_Wp X LX d bc bs 81 0 (gm_ent 81 [gm_vr 216, gm_vo c]) [] n K R (ct M e b w us lc D C) Q := by
  obtain ⟨-, he0, he4⟩ := tEe hE
  obtain ⟨s1, s2, -⟩ := tx_sb (f := M 2) hb.2
  have hsl := (tx_ol hl).1
  have hid : c < gm_sl.length := by rw [gm_sl75]; exact hc
  have hs9 := (gm_chk_s hid).1.2
  have hkb := tx_kc (f := M 2) (e := e) (b := b) (fun h => tEb hE hb.1 (by omega))
  refine gm_sz (gm_p_load (pc := 0) (i := .aload_n 0) (sr := 2) (j := 0) (by decide +kernel) rfl rfl rfl) ?_
  refine gm_sz (fw_gi (pc := 1) (ix := 24) (ci := 8) (j := 6) (x := tx_k (M 2) e b) (by decide +kernel) (tE216c hE) (by decide +kernel) (by decide +kernel) rfl) ?_
  refine gm_sz (gm_p_const (pc := 4) (i := .sipush 257) (v := gm_vi 257) (by decide +kernel) (by decide +kernel)) ?_
  refine fw_ic (cc := .ne) (pc := 7) (off := 19) (by decide +kernel) (by decide) ⟨by omega, by omega⟩ ⟨by decide, by decide⟩ (fun j1 => ?_) (fun j1 => ?_)
  · have j1 : ¬ (tx_k (M 2) e b) = 257 := j1
    refine gm_sz (gm_p_const (pc := 26) (i := .iconst 0) (v := gm_vi 0) (by decide +kernel) (by decide +kernel)) ?_
    exact gm_r_int (pc := 27) (by decide +kernel) (Or.inr ⟨(by decide +kernel), Or.inl rfl⟩) (h0 fun hh => by have t1 := hh.1; have t2 := hh.2.1; omega)
  · have j1 : (tx_k (M 2) e b) = 257 := Classical.not_not.mp j1
    refine gm_sz (gm_p_load (pc := 10) (i := .aload_n 0) (sr := 2) (j := 0) (by decide +kernel) rfl rfl rfl) ?_
    refine gm_sz (fw_gi (pc := 11) (ix := 15) (ci := 8) (j := 3) (x := tx_s (M 2) e b) (by decide +kernel) (tE216c hE) (by decide +kernel) (by decide +kernel) rfl) ?_
    refine gm_sz (gm_p_load (pc := 14) (i := .aload_n 0) (sr := 2) (j := 0) (by decide +kernel) rfl rfl rfl) ?_
    refine gm_sz (fw_gi (pc := 15) (ix := 18) (ci := 8) (j := 4) (x := b) (by decide +kernel) (tE216c hE) (by decide +kernel) (by decide +kernel) rfl) ?_
    refine gm_sz (gm_p_bin (pc := 18) (i := .isub) (f := fun x y => x - y) (by decide +kernel) rfl) ?_
    refine gm_sz (gm_p_load (pc := 19) (i := .aload_n 1) (sr := 2) (j := 1) (by decide +kernel) rfl rfl rfl) ?_
    refine gm_c_vstr (id := c) (mj := 82) (ix := 53) (pc := 20) (as := []) (st := [gm_vi ((tx_s (M 2) e b) - b)]) (d' := d - 1) (bc' := 0) (bs' := 0) (by decide +kernel) (by decide +kernel) (by decide +kernel) (by decide +kernel) hid (by decide +kernel) (show 0 = gm_na 82 by decide +kernel) fw_c0 (show 1 ≤ gm_ml 82 by decide +kernel) (Nat.le_of_ble_eq_true rfl) (by omega) (Nat.zero_le _) (Nat.zero_le _) ?_
    refine gm_w82 (by omega) hid ?_
    show gm_Wp X LX d _ _ 81 23 _ [gm_vi (gm_slen c : Int), gm_vi ((tx_s (M 2) e b) - b)] n K R _ Q
    refine fw_ic (cc := .eq) (pc := 23) (off := 5) (by decide +kernel) (by decide) ⟨by omega, by omega⟩ ⟨by omega, by omega⟩ (fun j2 => ?_) (fun j2 => ?_)
    · have j2 : ((tx_s (M 2) e b) - b) = (gm_slen c : Int) := j2
      refine gm_sz (gm_p_const (pc := 28) (i := .iconst 0) (v := gm_vi 0) (by decide +kernel) (by decide +kernel)) ?_
      refine gm_sz (gm_p_stor (pc := 29) (i := .istore_n 2) (sr := 0) (j := 2) (by decide +kernel) rfl (show 3 ≤ _ from Nat.le_of_ble_eq_true rfl) rfl) ?_
      exact tx_w8 hd hE hc hl hb (by omega) (by omega) h1 h0 0 (Int.le_refl _) (by omega) (fun j hj => absurd hj (by omega))
    · have j2 : ¬ ((tx_s (M 2) e b) - b) = (gm_slen c : Int) := j2
      refine gm_sz (gm_p_const (pc := 26) (i := .iconst 0) (v := gm_vi 0) (by decide +kernel) (by decide +kernel)) ?_
      exact gm_r_int (pc := 27) (by decide +kernel) (Or.inr ⟨(by decide +kernel), Or.inl rfl⟩) (h0 fun hh => by have t1 := hh.1; have t2 := hh.2.1; omega)
/-- takeWord -/
theorem tx_c95 (hd : 6 ≤ d) (hE : tx_E n K R M e) (hc : c < 75) (hl : tx_o c = l) (hb : 0 ≤ b ∧ b ≤ e) (h1 : tx_is (M 2) e b l → Q (.inl (some (gm_vi 1))) n K R (ct M e (tx_n (M 2) e b) w us lc D C)) (h0 : ¬ tx_is (M 2) e b l → Q (.inl (some (gm_vi 0))) n K R (ct M e b w us lc D C)) : gm_Wp X LX d bc bs 95 0 (gm_ent 95 [gm_vr 216, gm_vo c]) [] n K R (ct M e b w us lc D C) Q := by
  obtain ⟨-, he0, he4⟩ := tEe hE
  refine gm_sz (gm_p_load (pc := 0) (i := .aload_n 0) (sr := 2) (j := 0) (by decide +kernel) rfl rfl rfl) ?_
  refine gm_sz (gm_p_load (pc := 1) (i := .aload_n 1) (sr := 2) (j := 1) (by decide +kernel) rfl rfl rfl) ?_
  refine gm_c_virt (k := 216) (ci := 8) (mj := 81) (ix := 62) (pc := 2) (as := [gm_vo c]) (st := []) (d' := d - 1) (bc' := 0) (bs' := 0) (by decide +kernel) (by decide +kernel) (by decide +kernel) (by decide +kernel) (tE216c hE).1 (tE216c hE).2 (by decide) (by decide +kernel) (show 1 = gm_na 81 by decide +kernel) (fw_c1 fw_so) (show 2 ≤ gm_ml 81 by decide +kernel) (Nat.le_of_ble_eq_true rfl) (by omega) (Nat.zero_le _) (Nat.zero_le _) ?_
  refine tx_c81 (by omega) hE hc hl hb (fun j1 => ?_) (fun j1 => ?_)
  · show gm_Wp X LX d _ _ 95 5 _ [gm_vi 1] n K R _ Q
    have j1 : tx_is (M 2) e b l := j1
    refine gm_sz (gm_p_stor (pc := 5) (i := .istore_n 2) (sr := 0) (j := 2) (by decide +kernel) rfl (show 3 ≤ _ from Nat.le_of_ble_eq_true rfl) rfl) ?_
    refine gm_sz (gm_p_load (pc := 6) (i := .iload_n 2) (sr := 0) (j := 2) (by decide +kernel) rfl rfl rfl) ?_
    refine fw_iffd (cc := .eq) (pc := 7) (off := 7) (by decide +kernel) (by decide) ⟨by decide, by decide⟩ (by decide) ?_
    refine gm_sz (gm_p_load (pc := 10) (i := .aload_n 0) (sr := 2) (j := 0) (by decide +kernel) rfl rfl rfl) ?_
    refine gm_c_virt (k := 216) (ci := 8) (mj := 76) (ix := 43) (pc := 11) (as := []) (st := []) (d' := d - 1) (bc' := 0) (bs' := 0) (by decide +kernel) (by decide +kernel) (by decide +kernel) (by decide +kernel) (tE216c hE).1 (tE216c hE).2 (by decide) (by decide +kernel) (show 0 = gm_na 76 by decide +kernel) fw_c0 (show 1 ≤ gm_ml 76 by decide +kernel) (Nat.le_of_ble_eq_true rfl) (by omega) (Nat.zero_le _) (Nat.zero_le _) ?_
    refine tx_c76 (by omega) hE hb ?_
    show gm_Wp X LX d _ _ 95 14 _ [] n K R _ Q
    have g2 : 0 ≤ tx_n (M 2) e b ∧ tx_n (M 2) e b ≤ e := by have := tx_nb (f := M 2) (b := b) hb.2; omega
    refine gm_sz (gm_p_load (pc := 14) (i := .iload_n 2) (sr := 0) (j := 2) (by decide +kernel) rfl rfl rfl) ?_
    exact gm_r_int (pc := 15) (by decide +kernel) (Or.inr ⟨(by decide +kernel), Or.inr rfl⟩) (h1 j1)
  · show gm_Wp X LX d _ _ 95 5 _ [gm_vi 0] n K R _ Q
    have j1 : ¬ tx_is (M 2) e b l := j1
    refine gm_sz (gm_p_stor (pc := 5) (i := .istore_n 2) (sr := 0) (j := 2) (by decide +kernel) rfl (show 3 ≤ _ from Nat.le_of_ble_eq_true rfl) rfl) ?_
    refine gm_sz (gm_p_load (pc := 6) (i := .iload_n 2) (sr := 0) (j := 2) (by decide +kernel) rfl rfl rfl) ?_
    refine fw_iftd (cc := .eq) (pc := 7) (off := 7) (by decide +kernel) (by decide) ⟨by decide, by decide⟩ (by decide) ?_
    refine gm_sz (gm_p_load (pc := 14) (i := .iload_n 2) (sr := 0) (j := 2) (by decide +kernel) rfl rfl rfl) ?_
    exact gm_r_int (pc := 15) (by decide +kernel) (Or.inr ⟨(by decide +kernel), Or.inl rfl⟩) (h0 j1)
/-- needSign -/
theorem tx_c98 (hd : 2 ≤ d) (hE : tx_E n K R M e) (hx : gm_ir x) (hb : 0 ≤ b ∧ b ≤ e) (h1 : tx_k (M 2) e b = x → Q (.inl (some (gm_vi 1))) n K R (ct M e (tx_n (M 2) e b) (-1) us lc D C)) (h0 : ¬ tx_k (M 2) e b = x → Q (.inl (some (gm_vi 0))) n K R (ct M e b b us lc D C)) : gm_Wp X LX d bc bs 98 0 (gm_ent 98 [gm_vr 216, gm_vi x]) [] n K R (ct M e b (-1) us lc D C) Q := by
  obtain ⟨-, he0, he4⟩ := tEe hE
  obtain ⟨hx1, hx2⟩ := hx
  have hkb := tx_kc (f := M 2) (e := e) (b := b) (fun h => tEb hE hb.1 (by omega))
  have hvb := tx_vb (f := M 2) (e := e) (m := 3) (b := b) (by decide)
  refine gm_sz (gm_p_load (pc := 0) (i := .aload_n 0) (sr := 2) (j := 0) (by decide +kernel) rfl rfl rfl) ?_
  refine gm_sz (fw_gi (pc := 1) (ix := 24) (ci := 8) (j := 6) (x := tx_k (M 2) e b) (by decide +kernel) (tE216c hE) (by decide +kernel) (by decide +kernel) rfl) ?_
  refine gm_sz (gm_p_load (pc := 4) (i := .iload_n 1) (sr := 0) (j := 1) (by decide +kernel) rfl rfl rfl) ?_
  refine fw_ic (cc := .eq) (pc := 5) (off := 8) (by decide +kernel) (by decide) ⟨by omega, by omega⟩ ⟨by omega, by omega⟩ (fun j1 => ?_) (fun j1 => ?_)
  · have j1 : (tx_k (M 2) e b) = x := j1
    refine gm_sz (gm_p_load (pc := 13) (i := .aload_n 0) (sr := 2) (j := 0) (by decide +kernel) rfl rfl rfl) ?_
    refine gm_c_virt (k := 216) (ci := 8) (mj := 76) (ix := 43) (pc := 14) (as := []) (st := []) (d' := d - 1) (bc' := 0) (bs' := 0) (by decide +kernel) (by decide +kernel) (by decide +kernel) (by decide +kernel) (tE216c hE).1 (tE216c hE).2 (by decide) (by decide +kernel) (show 0 = gm_na 76 by decide +kernel) fw_c0 (show 1 ≤ gm_ml 76 by decide +kernel) (Nat.le_of_ble_eq_true rfl) (by omega) (Nat.zero_le _) (Nat.zero_le _) ?_
    refine tx_c76 (by omega) hE hb ?_
    show gm_Wp X LX d _ _ 98 17 _ [] n K R _ Q
    have g2 : 0 ≤ tx_n (M 2) e b ∧ tx_n (M 2) e b ≤ e := by have := tx_nb (f := M 2) (b := b) hb.2; omega
    refine gm_sz (gm_p_const (pc := 17) (i := .iconst 1) (v := gm_vi 1) (by decide +kernel) (by decide +kernel)) ?_
    exact gm_r_int (pc := 18) (by decide +kernel) (Or.inr ⟨(by decide +kernel), Or.inr rfl⟩) (h1 j1)
  · have j1 : ¬ (tx_k (M 2) e b) = x := j1
    refine gm_sz (gm_p_load (pc := 8) (i := .aload_n 0) (sr := 2) (j := 0) (by decide +kernel) rfl rfl rfl) ?_
    refine gm_c_virt (k := 216) (ci := 8) (mj := 93) (ix := 69) (pc := 9) (as := []) (st := []) (d' := d - 1) (bc' := 0) (bs' := 0) (by decide +kernel) (by decide +kernel) (by decide +kernel) (by decide +kernel) (tE216c hE).1 (tE216c hE).2 (by decide) (by decide +kernel) (show 0 = gm_na 93 by decide +kernel) fw_c0 (show 1 ≤ gm_ml 93 by decide +kernel) (Nat.le_of_ble_eq_true rfl) (by omega) (Nat.zero_le _) (Nat.zero_le _) ?_
    refine tx_c93 hE hb ?_
    show gm_Wp X LX d _ _ 98 12 _ [gm_vi 0] n K R _ Q
    exact gm_r_int (pc := 12) (by decide +kernel) (Or.inr ⟨(by decide +kernel), Or.inl rfl⟩) (h0 j1)
/-- needNumber -/
theorem tx_c94 {lo hi : Int} (hd : 2 ≤ d) (hE : tx_E n K R M e) (hlo : gm_ir lo) (hhi : gm_ir hi) (hb : 0 ≤ b ∧ b ≤ e) (h1 : tx_k (M 2) e b = 258 → lo ≤ tx_v (M 2) e 3 b → tx_v (M 2) e 3 b ≤ hi → Q (.inl (some (gm_vi (tx_v (M 2) e 3 b)))) n K R (ct M e (tx_n (M 2) e b) (-1) us lc D C)) (h0 : ¬ (tx_k (M 2) e b = 258 ∧ lo ≤ tx_v (M 2) e 3 b ∧ tx_v (M 2) e 3 b ≤ hi) → Q (.inl (some (gm_vi (-1)))) n K R (ct M e b b us lc D C)) : gm_Wp X LX d bc bs 94 0 (gm_ent 94 [gm_vr 216, gm_vi lo, gm_vi hi]) [] n K R (ct M e b (-1) us lc D C) Q := by
  obtain ⟨-, he0, he4⟩ := tEe hE
  obtain ⟨hlo1, hlo2⟩ := hlo
  obtain ⟨hhi1, hhi2⟩ := hhi
  have hkb := tx_kc (f := M 2) (e := e) (b := b) (fun h => tEb hE hb.1 (by omega))
  have hvb := tx_vb (f := M 2) (e := e) (m := 3) (b := b) (by decide)
  refine gm_sz (gm_p_load (pc := 0) (i := .aload_n 0) (sr := 2) (j := 0) (by decide +kernel) rfl rfl rfl) ?_
  refine gm_sz (fw_gi (pc := 1) (ix := 27) (ci := 8) (j := 7) (x := tx_v (M 2) e 3 b) (by decide +kernel) (tE216c hE) (by decide +kernel) (by decide +kernel) rfl) ?_
  refine gm_sz (gm_p_stor (pc := 4) (i := .istore_n 3) (sr := 0) (j := 3) (by decide +kernel) rfl (show 4 ≤ _ from Nat.le_of_ble_eq_true rfl) rfl) ?_
  refine gm_sz (gm_p_load (pc := 5) (i := .aload_n 0) (sr := 2) (j := 0) (by decide +kernel) rfl rfl rfl) ?_
  refine gm_sz (fw_gi (pc := 6) (ix := 24) (ci := 8) (j := 6) (x := tx_k (M 2) e b) (by decide +kernel) (tE216c hE) (by decide +kernel) (by decide +kernel) rfl) ?_
  refine gm_sz (gm_p_const (pc := 9) (i := .sipush 258) (v := gm_vi 258) (by decide +kernel) (by decide +kernel)) ?_
  refine fw_ic (cc := .ne) (pc := 12) (off := 13) (by decide +kernel) (by decide) ⟨by omega, by omega⟩ ⟨by decide, by decide⟩ (fun j1 => ?_) (fun j1 => ?_)
  · have j1 : ¬ (tx_k (M 2) e b) = 258 := j1
    refine gm_sz (gm_p_load (pc := 25) (i := .aload_n 0) (sr := 2) (j := 0) (by decide +kernel) rfl rfl rfl) ?_
    refine gm_c_virt (k := 216) (ci := 8) (mj := 93) (ix := 69) (pc := 26) (as := []) (st := []) (d' := d - 1) (bc' := 0) (bs' := 0) (by decide +kernel) (by decide +kernel) (by decide +kernel) (by decide +kernel) (tE216c hE).1 (tE216c hE).2 (by decide) (by decide +kernel) (show 0 = gm_na 93 by decide +kernel) fw_c0 (show 1 ≤ gm_ml 93 by decide +kernel) (Nat.le_of_ble_eq_true rfl) (by omega) (Nat.zero_le _) (Nat.zero_le _) ?_
    refine tx_c93 hE hb ?_
    show gm_Wp X LX d _ _ 94 29 _ [gm_vi 0] n K R _ Q
    refine gm_sz (gm_p_pop (pc := 29) (by decide +kernel) fw_si) ?_
    refine gm_sz (gm_p_const (pc := 30) (i := .iconst (-1)) (v := gm_vi (-1)) (by decide +kernel) (by decide +kernel)) ?_
    exact gm_r_int (pc := 31) (by decide +kernel) (Or.inl (by decide +kernel)) (h0 (by omega))
  · have j1 : (tx_k (M 2) e b) = 258 := Classical.not_not.mp j1
    refine gm_sz (gm_p_load (pc := 15) (i := .iload_n 3) (sr := 0) (j := 3) (by decide +kernel) rfl rfl rfl) ?_
    refine gm_sz (gm_p_load (pc := 16) (i := .iload_n 1) (sr := 0) (j := 1) (by decide +kernel) rfl rfl rfl) ?_
    refine fw_ic (cc := .lt) (pc := 17) (off := 8) (by decide +kernel) (by decide) ⟨by omega, by omega⟩ ⟨by omega, by omega⟩ (fun j2 => ?_) (fun j2 => ?_)
    · have j2 : (tx_v (M 2) e 3 b) < lo := j2
      refine gm_sz (gm_p_load (pc := 25) (i := .aload_n 0) (sr := 2) (j := 0) (by decide +kernel) rfl rfl rfl) ?_
      refine gm_c_virt (k := 216) (ci := 8) (mj := 93) (ix := 69) (pc := 26) (as := []) (st := []) (d' := d - 1) (bc' := 0) (bs' := 0) (by decide +kernel) (by decide +kernel) (by decide +kernel) (by decide +kernel) (tE216c hE).1 (tE216c hE).2 (by decide) (by decide +kernel) (show 0 = gm_na 93 by decide +kernel) fw_c0 (show 1 ≤ gm_ml 93 by decide +kernel) (Nat.le_of_ble_eq_true rfl) (by omega) (Nat.zero_le _) (Nat.zero_le _) ?_
      refine tx_c93 hE hb ?_
      show gm_Wp X LX d _ _ 94 29 _ [gm_vi 0] n K R _ Q
      refine gm_sz (gm_p_pop (pc := 29) (by decide +kernel) fw_si) ?_
      refine gm_sz (gm_p_const (pc := 30) (i := .iconst (-1)) (v := gm_vi (-1)) (by decide +kernel) (by decide +kernel)) ?_
      exact gm_r_int (pc := 31) (by decide +kernel) (Or.inl (by decide +kernel)) (h0 (by omega))
    · have j2 : ¬ (tx_v (M 2) e 3 b) < lo := j2
      refine gm_sz (gm_p_load (pc := 20) (i := .iload_n 3) (sr := 0) (j := 3) (by decide +kernel) rfl rfl rfl) ?_
      refine gm_sz (gm_p_load (pc := 21) (i := .iload_n 2) (sr := 0) (j := 2) (by decide +kernel) rfl rfl rfl) ?_
      refine fw_ic (cc := .le) (pc := 22) (off := 10) (by decide +kernel) (by decide) ⟨by omega, by omega⟩ ⟨by omega, by omega⟩ (fun j3 => ?_) (fun j3 => ?_)
      · have j3 : (tx_v (M 2) e 3 b) ≤ hi := j3
        refine gm_sz (gm_p_load (pc := 32) (i := .aload_n 0) (sr := 2) (j := 0) (by decide +kernel) rfl rfl rfl) ?_
        refine gm_c_virt (k := 216) (ci := 8) (mj := 76) (ix := 43) (pc := 33) (as := []) (st := []) (d' := d - 1) (bc' := 0) (bs' := 0) (by decide +kernel) (by decide +kernel) (by decide +kernel) (by decide +kernel) (tE216c hE).1 (tE216c hE).2 (by decide) (by decide +kernel) (show 0 = gm_na 76 by decide +kernel) fw_c0 (show 1 ≤ gm_ml 76 by decide +kernel) (Nat.le_of_ble_eq_true rfl) (by omega) (Nat.zero_le _) (Nat.zero_le _) ?_
        refine tx_c76 (by omega) hE hb ?_
        show gm_Wp X LX d _ _ 94 36 _ [] n K R _ Q
        have g4 : 0 ≤ tx_n (M 2) e b ∧ tx_n (M 2) e b ≤ e := by have := tx_nb (f := M 2) (b := b) hb.2; omega
        refine gm_sz (gm_p_load (pc := 36) (i := .iload_n 3) (sr := 0) (j := 3) (by decide +kernel) rfl rfl rfl) ?_
        exact gm_r_int (pc := 37) (by decide +kernel) (Or.inl (by decide +kernel)) (h1 (by omega) (by omega) (by omega))
      · have j3 : ¬ (tx_v (M 2) e 3 b) ≤ hi := j3
        refine gm_sz (gm_p_load (pc := 25) (i := .aload_n 0) (sr := 2) (j := 0) (by decide +kernel) rfl rfl rfl) ?_
        refine gm_c_virt (k := 216) (ci := 8) (mj := 93) (ix := 69) (pc := 26) (as := []) (st := []) (d' := d - 1) (bc' := 0) (bs' := 0) (by decide +kernel) (by decide +kernel) (by decide +kernel) (by decide +kernel) (tE216c hE).1 (tE216c hE).2 (by decide) (by decide +kernel) (show 0 = gm_na 93 by decide +kernel) fw_c0 (show 1 ≤ gm_ml 93 by decide +kernel) (Nat.le_of_ble_eq_true rfl) (by omega) (Nat.zero_le _) (Nat.zero_le _) ?_
        refine tx_c93 hE hb ?_
        show gm_Wp X LX d _ _ 94 29 _ [gm_vi 0] n K R _ Q
        refine gm_sz (gm_p_pop (pc := 29) (by decide +kernel) fw_si) ?_
        refine gm_sz (gm_p_const (pc := 30) (i := .iconst (-1)) (v := gm_vi (-1)) (by decide +kernel) (by decide +kernel)) ?_
        exact gm_r_int (pc := 31) (by decide +kernel) (Or.inl (by decide +kernel)) (h0 (by omega))
end WD
/-! words -/
end
/-! 79e.gr -/
section
/-! WHAT A TEXT OF A LAW IS, by tokens: (true, where it ends) or (false, where it is wrong). -/
noncomputable def tif {α : Type} (P : Prop) (a b : α) : α := @ite α P (Classical.propDecidable P) a b
theorem tif_t {α : Type} {P : Prop} {a b : α} (h : P) : tif P a b = a := if_pos h
theorem tif_f {α : Type} {P : Prop} {a b : α} (h : ¬ P) : tif P a b = b := if_neg h
noncomputable def wo_fast : List Int := [(102 : Int), (97 : Int), (115 : Int), (116 : Int)]
noncomputable def wo_slow : List Int := [(115 : Int), (108 : Int), (111 : Int), (119 : Int)]
noncomputable def wo_open : List Int := [(111 : Int), (112 : Int), (101 : Int), (110 : Int)]
noncomputable def wo_if : List Int := [(105 : Int), (102 : Int)]
noncomputable def wo_not : List Int := [(110 : Int), (111 : Int), (116 : Int)]
noncomputable def wo_side : List Int := [(115 : Int), (105 : Int), (100 : Int), (101 : Int)]
noncomputable def wo_first : List Int := [(102 : Int), (105 : Int), (114 : Int), (115 : Int), (116 : Int)]
noncomputable def wo_and : List Int := [(97 : Int), (110 : Int), (100 : Int)]
noncomputable def wo_or : List Int := [(111 : Int), (114 : Int)]
noncomputable def wo_lane : List Int := [(108 : Int), (97 : Int), (110 : Int), (101 : Int)]
noncomputable def wo_row : List Int := [(114 : Int), (111 : Int), (119 : Int)]
noncomputable def wo_year : List Int := [(121 : Int), (101 : Int), (97 : Int), (114 : Int)]
noncomputable def wo_heat : List Int := [(104 : Int), (101 : Int), (97 : Int), (116 : Int)]
noncomputable def wo_speed : List Int := [(115 : Int), (112 : Int), (101 : Int), (101 : Int), (100 : Int)]
noncomputable def wo_person : List Int := [(112 : Int), (101 : Int), (114 : Int), (115 : Int), (111 : Int), (110 : Int)]
noncomputable def wo_age : List Int := [(97 : Int), (103 : Int), (101 : Int)]
noncomputable def wo_deep : List Int := [(100 : Int), (101 : Int), (101 : Int), (112 : Int)]
section GR
variable (f : Int → Int) (e : Int)
noncomputable def g_fact (b : Int) : Prop := tx_is f e b wo_lane ∨ tx_is f e b wo_row ∨ tx_is f e b wo_year ∨ tx_is f e b wo_heat ∨ tx_is f e b wo_speed ∨ tx_is f e b wo_person ∨ tx_is f e b wo_age ∨ tx_is f e b wo_deep
noncomputable def g_pt (b : Int) : Prop := (tx_k f e b = 258 ∧ ¬ tx_v f e 3 b = -1) ∨ g_fact f e b
noncomputable def g_sum : Nat → Int → Bool × Int
  | 0, b => (false, b)
  | t + 1, b => tif (g_pt f e b) (tif (tx_k f e (tx_n f e b) = 43) (g_sum t (tx_n f e (tx_n f e b))) (true, tx_n f e b)) (false, b)
noncomputable def g_atm (A C : Int → Bool × Int) (ok : Prop) (b : Int) : Bool × Int :=
  tif (tx_is f e b wo_not ∨ tx_k f e b = 40)
    (tif ok (tif (tx_is f e b wo_not) (A (tx_n f e b)) (tif ((C (tx_n f e b)).1 = true) (tif (tx_k f e (C (tx_n f e b)).2 = 41) (true, tx_n f e (C (tx_n f e b)).2) (false, (C (tx_n f e b)).2)) (C (tx_n f e b)))) (false, b))
    (tif (tx_is f e b wo_side ∨ tx_is f e b wo_first) (true, tx_n f e b)
      (tif ((g_sum f e 400 b).1 = true) (tif (tx_k f e (g_sum f e 400 b).2 = 60 ∨ tx_k f e (g_sum f e 400 b).2 = 62) (g_sum f e 400 (tx_n f e (g_sum f e 400 b).2)) (false, (g_sum f e 400 b).2)) (g_sum f e 400 b)))
noncomputable def g_all (A : Int → Bool × Int) : Nat → Int → Bool × Int
  | 0, b => (true, b)
  | t + 1, b => tif ((A b).1 = true) (tif (tx_is f e (A b).2 wo_and) (g_all A t (tx_n f e (A b).2)) (true, (A b).2)) (A b)
noncomputable def g_cnd (A : Int → Bool × Int) : Nat → Int → Bool × Int
  | 0, b => (false, b)
  | t + 1, b => tif ((g_all f e A 400 b).1 = true) (tif (tx_is f e (g_all f e A 400 b).2 wo_or) (g_cnd A t (tx_n f e (g_all f e A 400 b).2)) (true, (g_all f e A 400 b).2)) (g_all f e A 400 b)
noncomputable def g_at : Nat → Int → Bool × Int
  | 0 => g_atm f e (fun b => (false, b)) (fun b => (false, b)) False
  | k + 1 => g_atm f e (g_at k) (g_cnd f e (g_at k) 400) True
noncomputable def g_cd (k : Nat) : Int → Bool × Int := g_cnd f e (g_at f e k) 400
noncomputable def g_nm (b : Int) : Prop := tx_k f e b = 258 ∧ 0 ≤ tx_v f e 3 b ∧ tx_v f e 3 b ≤ 20
noncomputable def g_if (b : Int) : Bool × Int := tif (tx_is f e b wo_if) (g_cd f e 6 (tx_n f e b)) (true, b)
noncomputable def g_line (b : Int) : Bool × Int :=
  tif (tx_is f e b wo_open) (g_if f e (tx_n f e b)) (tif (tx_is f e b wo_fast ∨ tx_is f e b wo_slow) (tif (g_nm f e (tx_n f e b)) (g_if f e (tx_n f e (tx_n f e b))) (false, tx_n f e b)) (false, b))
noncomputable def g_txt : Nat → Int → Bool × Int
  | 0, b => (false, b)
  | t + 1, b => tif ((g_line f e b).1 = true) (tif (tx_k f e (g_line f e b).2 = 256) (true, 12 - (t : Int)) (tif (tx_k f e (g_line f e b).2 = 59) (g_txt t (tx_n f e (g_line f e b).2)) (false, (g_line f e b).2))) (false, (g_line f e b).2)
/-- (true, how many LINES) or (false, the wrong byte) -/
noncomputable def g_law : Bool × Int := tif (tx_k f e (tx_g f e 0) = 256) (true, 0) (g_txt f e 12 (tx_g f e 0))
/-- it ends behind where it began, in the text -/
noncomputable def g_in (A : Int → Bool × Int) : Prop := ∀ b, 0 ≤ b → b ≤ e → b ≤ (A b).2 ∧ (A b).2 ≤ e ∧ ((A b).1 = true → b + 1 ≤ (A b).2)
end GR
section GI
variable {f : Int → Int} {e : Int}
theorem g_kis {b : Int} {l : List Int} (h : tx_is f e b l) : tx_k f e b = 257 := h.1
theorem g_fk {b : Int} (h : g_fact f e b) : tx_k f e b = 257 := by
  rcases h with h | h | h | h | h | h | h | h <;> exact h.1
theorem g_pk {b : Int} (h : g_pt f e b) : b < e := tx_kne (f := f) (by
  rcases h with h | h
  · omega
  · have := g_fk h
    omega)
theorem g_isb {b : Int} {l : List Int} (h : tx_is f e b l) : b < e := tx_kne (f := f) (by have := h.1; omega)
theorem g_sum_in : ∀ t, g_in e (g_sum f e t) := by
  intro t
  induction t with
  | zero => exact fun b h0 h1 => ⟨Int.le_refl _, h1, fun h => by cases h⟩
  | succ t ih =>
    intro b h0 h1
    unfold g_sum
    by_cases h : g_pt f e b
    · rw [tif_t h]
      obtain ⟨a1, a2, a3⟩ := tx_nb (f := f) h1
      have a3 := a3 (g_pk h)
      by_cases h2 : tx_k f e (tx_n f e b) = 43
      · rw [tif_t h2]
        obtain ⟨c1, c2, -⟩ := tx_nb (f := f) a2
        obtain ⟨d1, d2, d3⟩ := ih (tx_n f e (tx_n f e b)) (by omega) c2
        exact ⟨by omega, d2, fun h => by omega⟩
      · rw [tif_f h2]
        exact ⟨by show b ≤ tx_n f e b; omega, a2, fun _ => a3⟩
    · rw [tif_f h]
      exact ⟨Int.le_refl _, h1, fun h => by cases h⟩
theorem g_all_in {A : Int → Bool × Int} (hA : g_in e A) : ∀ t b, 0 ≤ b → b ≤ e → b ≤ (g_all f e A t b).2 ∧ (g_all f e A t b).2 ≤ e ∧ (1 ≤ t → (g_all f e A t b).1 = true → b + 1 ≤ (g_all f e A t b).2) := by
  intro t
  induction t with
  | zero => exact fun b h0 h1 => ⟨Int.le_refl _, h1, fun h => by omega⟩
  | succ t ih =>
    intro b h0 h1
    unfold g_all
    obtain ⟨a1, a2, a3⟩ := hA b h0 h1
    by_cases h : (A b).1 = true
    · rw [tif_t h]
      have a3 := a3 h
      by_cases h2 : tx_is f e (A b).2 wo_and
      · rw [tif_t h2]
        obtain ⟨c1, c2, -⟩ := tx_nb (f := f) a2
        obtain ⟨d1, d2, -⟩ := ih (tx_n f e (A b).2) (by omega) c2
        exact ⟨by omega, d2, fun _ _ => by omega⟩
      · rw [tif_f h2]
        exact ⟨by show b ≤ (A b).2; omega, a2, fun _ _ => a3⟩
    · rw [tif_f h]
      exact ⟨a1, a2, fun _ h2 => absurd h2 h⟩
theorem g_cnd_in {A : Int → Bool × Int} (hA : g_in e A) : ∀ t, g_in e (g_cnd f e A t) := by
  intro t
  induction t with
  | zero => exact fun b h0 h1 => ⟨Int.le_refl _, h1, fun h => by cases h⟩
  | succ t ih =>
    intro b h0 h1
    unfold g_cnd
    obtain ⟨a1, a2, a3⟩ := g_all_in (f := f) hA 400 b h0 h1
    by_cases h : (g_all f e A 400 b).1 = true
    · rw [tif_t h]
      have a3 := a3 (by decide) h
      by_cases h2 : tx_is f e (g_all f e A 400 b).2 wo_or
      · rw [tif_t h2]
        obtain ⟨c1, c2, -⟩ := tx_nb (f := f) a2
        obtain ⟨d1, d2, -⟩ := ih (tx_n f e (g_all f e A 400 b).2) (by omega) c2
        exact ⟨by omega, d2, fun _ => by omega⟩
      · rw [tif_f h2]
        exact ⟨by show b ≤ (g_all f e A 400 b).2; omega, a2, fun _ => a3⟩
    · rw [tif_f h]
      exact ⟨a1, a2, fun h2 => absurd h2 h⟩
theorem g_atm_in {A C : Int → Bool × Int} {ok : Prop} (hA : g_in e A) (hC : g_in e C) : g_in e (g_atm f e A C ok) := by
  intro b h0 h1
  unfold g_atm
  obtain ⟨n1, n2, n3⟩ := tx_nb (f := f) h1
  by_cases h : tx_is f e b wo_not ∨ tx_k f e b = 40
  · rw [tif_t h]
    have n3 := n3 (by rcases h with h | h; · exact g_isb h
                      · exact tx_kne (f := f) (by omega))
    by_cases h2 : ok
    · rw [tif_t h2]
      by_cases h3 : tx_is f e b wo_not
      · rw [tif_t h3]
        obtain ⟨a1, a2, a3⟩ := hA _ (by omega) n2
        exact ⟨by omega, a2, fun _ => by omega⟩
      · rw [tif_f h3]
        obtain ⟨a1, a2, a3⟩ := hC _ (by omega) n2
        by_cases h4 : (C (tx_n f e b)).1 = true
        · rw [tif_t h4]
          by_cases h5 : tx_k f e (C (tx_n f e b)).2 = 41
          · rw [tif_t h5]
            obtain ⟨c1, c2, -⟩ := tx_nb (f := f) a2
            exact ⟨by show b ≤ tx_n f e (C (tx_n f e b)).2; omega, c2, fun _ => by show b + 1 ≤ tx_n f e (C (tx_n f e b)).2; omega⟩
          · rw [tif_f h5]
            exact ⟨by show b ≤ (C (tx_n f e b)).2; omega, a2, fun h => by cases h⟩
        · rw [tif_f h4]
          exact ⟨by omega, a2, fun h => absurd h h4⟩
    · rw [tif_f h2]
      exact ⟨Int.le_refl _, h1, fun h => by cases h⟩
  · rw [tif_f h]
    by_cases h2 : tx_is f e b wo_side ∨ tx_is f e b wo_first
    · rw [tif_t h2]
      have n3 := n3 (by rcases h2 with h | h <;> exact g_isb h)
      exact ⟨n1, n2, fun _ => n3⟩
    · rw [tif_f h2]
      obtain ⟨a1, a2, a3⟩ := g_sum_in (f := f) 400 b h0 h1
      by_cases h3 : (g_sum f e 400 b).1 = true
      · rw [tif_t h3]
        have a3 := a3 h3
        by_cases h4 : tx_k f e (g_sum f e 400 b).2 = 60 ∨ tx_k f e (g_sum f e 400 b).2 = 62
        · rw [tif_t h4]
          obtain ⟨c1, c2, -⟩ := tx_nb (f := f) a2
          obtain ⟨d1, d2, -⟩ := g_sum_in (f := f) 400 (tx_n f e (g_sum f e 400 b).2) (by omega) c2
          exact ⟨by omega, d2, fun _ => by omega⟩
        · rw [tif_f h4]
          exact ⟨a1, a2, fun h => by cases h⟩
      · rw [tif_f h3]
        exact ⟨a1, a2, fun h => absurd h h3⟩
theorem g_no_in : g_in e (fun b => (false, b)) := fun b _ h1 => ⟨Int.le_refl _, h1, fun h => by cases h⟩
theorem g_at_in : ∀ k, g_in e (g_at f e k) := by
  intro k
  induction k with
  | zero => exact g_atm_in g_no_in g_no_in
  | succ k ih => exact g_atm_in ih (g_cnd_in ih 400)
theorem g_cd_in (k : Nat) : g_in e (g_cd f e k) := g_cnd_in (g_at_in k) 400
theorem g_if_in {b : Int} (h0 : 0 ≤ b) (h1 : b ≤ e) : b ≤ (g_if f e b).2 ∧ (g_if f e b).2 ≤ e := by
  unfold g_if
  by_cases h : tx_is f e b wo_if
  · rw [tif_t h]
    obtain ⟨n1, n2, -⟩ := tx_nb (f := f) h1
    obtain ⟨a1, a2, -⟩ := g_cd_in (f := f) 6 (tx_n f e b) (by omega) n2
    exact ⟨by omega, a2⟩
  · rw [tif_f h]
    exact ⟨Int.le_refl _, h1⟩
theorem g_line_in {b : Int} (h0 : 0 ≤ b) (h1 : b ≤ e) : b ≤ (g_line f e b).2 ∧ (g_line f e b).2 ≤ e := by
  unfold g_line
  obtain ⟨n1, n2, -⟩ := tx_nb (f := f) h1
  obtain ⟨m1, m2, -⟩ := tx_nb (f := f) n2
  by_cases h : tx_is f e b wo_open
  · rw [tif_t h]
    obtain ⟨a1, a2⟩ := g_if_in (f := f) (b := tx_n f e b) (by omega) n2
    exact ⟨by omega, a2⟩
  · rw [tif_f h]
    by_cases h2 : tx_is f e b wo_fast ∨ tx_is f e b wo_slow
    · rw [tif_t h2]
      by_cases h3 : g_nm f e (tx_n f e b)
      · rw [tif_t h3]
        obtain ⟨a1, a2⟩ := g_if_in (f := f) (b := tx_n f e (tx_n f e b)) (by omega) m2
        exact ⟨by omega, a2⟩
      · rw [tif_f h3]
        exact ⟨n1, n2⟩
    · rw [tif_f h2]
      exact ⟨Int.le_refl _, h1⟩
end GI
end
/-! 79f.cl -/
section
/-! THE CLASS'S READER OF A LAW, method by method (laid by wip/pp/p5c.py). -/
/-- what is kept of codes and LINES -/
noncomputable def ctk (us lc : Int) (D C : Int → Int) : Prop := ((0 ≤ us ∧ us ≤ 400) ∧ 0 ≤ lc ∧ lc ≤ 12) ∧ (∀ j, 0 ≤ j → j < 48 → 0 ≤ D j ∧ D j ≤ 400) ∧ ∀ j, 0 ≤ j → j < 400 → gm_ir (C j)
/-- a method of one number that says whether G stands at the token -/
noncomputable def cA (X : Int → Int) (LX n : Nat) (K : gm_K) (R : gm_R) (M : gm_M) (e lc : Int) (D : Int → Int) (mi : Nat) (vs : List gm_V) (G : Int → Bool × Int) (dn : Nat) : Prop := ∀ (d bc bs : Nat) (b us : Int) (C : Int → Int) (Q : gm_Q), dn ≤ d → 0 ≤ b ∧ b ≤ e → ctk us lc D C → (∀ us2 C2, ctk us2 lc D C2 → (G b).1 = true → Q (.inl (some (gm_vi 1))) n K R (ct M e (G b).2 (-1) us2 lc D C2)) → (∀ us2 C2, ctk us2 lc D C2 → ¬ (G b).1 = true → Q (.inl (some (gm_vi 0))) n K R (ct M e (G b).2 (G b).2 us2 lc D C2)) → gm_Wp X LX d bc bs mi 0 (gm_ent mi vs) [] n K R (ct M e b (-1) us lc D C) Q
section CL
variable {X : Int → Int} {LX d bc bs n : Nat} {K : gm_K} {R : gm_R} {M : gm_M} {Q : gm_Q} {e b w us lc x : Int} {D C : Int → Int}
theorem g_sum0 {f : Int → Int} {t : Nat} (h : ¬ g_pt f e b) : g_sum f e (t + 1) b = (false, b) := tif_f h
theorem g_sum1 {f : Int → Int} {t : Nat} (h : g_pt f e b) (h2 : ¬ tx_k f e (tx_n f e b) = 43) : g_sum f e (t + 1) b = (true, tx_n f e b) := by
  unfold g_sum
  rw [tif_t h, tif_f h2]
theorem g_sum2 {f : Int → Int} {t : Nat} (h : g_pt f e b) (h2 : tx_k f e (tx_n f e b) = 43) : g_sum f e (t + 1) b = g_sum f e t (tx_n f e (tx_n f e b)) := by
  show tif (g_pt f e b) _ _ = _
  rw [tif_t h, tif_t h2]
section GA
variable {f : Int → Int} {A A2 : Int → Bool × Int} {ok : Prop} {t : Nat}
theorem g_a0 (h : tx_is f e b wo_not ∨ tx_k f e b = 40) (h2 : ¬ ok) : g_atm f e A A2 ok b = (false, b) := by unfold g_atm; rw [tif_t h, tif_f h2]
theorem g_a1 (h : tx_is f e b wo_not) (h2 : ok) : g_atm f e A A2 ok b = A (tx_n f e b) := by unfold g_atm; rw [tif_t (Or.inl h), tif_t h2, tif_t h]
theorem g_a2 (h : ¬ tx_is f e b wo_not) (h0 : tx_k f e b = 40) (h2 : ok) (h3 : ¬ (A2 (tx_n f e b)).1 = true) : g_atm f e A A2 ok b = A2 (tx_n f e b) := by unfold g_atm; rw [tif_t (Or.inr h0), tif_t h2, tif_f h, tif_f h3]
theorem g_a3 (h : ¬ tx_is f e b wo_not) (h0 : tx_k f e b = 40) (h2 : ok) (h3 : (A2 (tx_n f e b)).1 = true) (h4 : tx_k f e (A2 (tx_n f e b)).2 = 41) : g_atm f e A A2 ok b = (true, tx_n f e (A2 (tx_n f e b)).2) := by unfold g_atm; rw [tif_t (Or.inr h0), tif_t h2, tif_f h, tif_t h3, tif_t h4]
theorem g_a4 (h : ¬ tx_is f e b wo_not) (h0 : tx_k f e b = 40) (h2 : ok) (h3 : (A2 (tx_n f e b)).1 = true) (h4 : ¬ tx_k f e (A2 (tx_n f e b)).2 = 41) : g_atm f e A A2 ok b = (false, (A2 (tx_n f e b)).2) := by unfold g_atm; rw [tif_t (Or.inr h0), tif_t h2, tif_f h, tif_t h3, tif_f h4]
theorem g_a5 (h : ¬ tx_is f e b wo_not) (h0 : ¬ tx_k f e b = 40) (h2 : tx_is f e b wo_side ∨ tx_is f e b wo_first) : g_atm f e A A2 ok b = (true, tx_n f e b) := by unfold g_atm; rw [tif_f (fun hh => hh.elim h h0), tif_t h2]
theorem g_a6 (h : ¬ tx_is f e b wo_not) (h0 : ¬ tx_k f e b = 40) (h2 : ¬ tx_is f e b wo_side) (h3 : ¬ tx_is f e b wo_first) (h4 : ¬ (g_sum f e 400 b).1 = true) : g_atm f e A A2 ok b = g_sum f e 400 b := by unfold g_atm; rw [tif_f (fun hh => hh.elim h h0), tif_f (fun hh => hh.elim h2 h3), tif_f h4]
theorem g_a7 (h : ¬ tx_is f e b wo_not) (h0 : ¬ tx_k f e b = 40) (h2 : ¬ tx_is f e b wo_side) (h3 : ¬ tx_is f e b wo_first) (h4 : (g_sum f e 400 b).1 = true) (h5 : ¬ (tx_k f e (g_sum f e 400 b).2 = 60 ∨ tx_k f e (g_sum f e 400 b).2 = 62)) : g_atm f e A A2 ok b = (false, (g_sum f e 400 b).2) := by unfold g_atm; rw [tif_f (fun hh => hh.elim h h0), tif_f (fun hh => hh.elim h2 h3), tif_t h4, tif_f h5]
theorem g_a8 (h : ¬ tx_is f e b wo_not) (h0 : ¬ tx_k f e b = 40) (h2 : ¬ tx_is f e b wo_side) (h3 : ¬ tx_is f e b wo_first) (h4 : (g_sum f e 400 b).1 = true) (h5 : tx_k f e (g_sum f e 400 b).2 = 60 ∨ tx_k f e (g_sum f e 400 b).2 = 62) : g_atm f e A A2 ok b = g_sum f e 400 (tx_n f e (g_sum f e 400 b).2) := by unfold g_atm; rw [tif_f (fun hh => hh.elim h h0), tif_f (fun hh => hh.elim h2 h3), tif_t h4, tif_t h5]
theorem g_l0 (h : ¬ (A b).1 = true) : g_all f e A (t + 1) b = A b := tif_f h
theorem g_l1 (h : (A b).1 = true) (h2 : ¬ tx_is f e (A b).2 wo_and) : g_all f e A (t + 1) b = (true, (A b).2) := by unfold g_all; rw [tif_t h, tif_f h2]
theorem g_l2 (h : (A b).1 = true) (h2 : tx_is f e (A b).2 wo_and) : g_all f e A (t + 1) b = g_all f e A t (tx_n f e (A b).2) := by
  show tif ((A b).1 = true) _ _ = _
  rw [tif_t h, tif_t h2]
theorem g_d0 (h : ¬ (g_all f e A 400 b).1 = true) : g_cnd f e A (t + 1) b = g_all f e A 400 b := tif_f h
theorem g_d1 (h : (g_all f e A 400 b).1 = true) (h2 : ¬ tx_is f e (g_all f e A 400 b).2 wo_or) : g_cnd f e A (t + 1) b = (true, (g_all f e A 400 b).2) := by unfold g_cnd; rw [tif_t h, tif_f h2]
theorem g_d2 (h : (g_all f e A 400 b).1 = true) (h2 : tx_is f e (g_all f e A 400 b).2 wo_or) : g_cnd f e A (t + 1) b = g_cnd f e A t (tx_n f e (g_all f e A 400 b).2) := by
  show tif ((g_all f e A 400 b).1 = true) _ _ = _
  rw [tif_t h, tif_t h2]
end GA
end CL
end
/-! 79g.cx -/
section
/-! THE CLASS'S READER OF A LAW: LINES, the text (laid by wip/pp/p5c.py). -/
section CX
variable {X : Int → Int} {LX d bc bs n : Nat} {K : gm_K} {R : gm_R} {M : gm_M} {Q : gm_Q} {e b w us lc x i c : Int} {D C : Int → Int}
theorem tx_c102 (hE : tx_E n K R M e) (hl : 0 ≤ lc ∧ lc < 12) (hq : Q (.inl (some (gm_vi (lc + 1 - 1)))) n K R (ct M e b w us (lc + 1) D C)) : gm_Wp X LX d bc bs 102 0 (gm_ent 102 [gm_vr 217]) [] n K R (ct M e b w us lc D C) Q := by
  refine gm_sz (gm_p_load (pc := 0) (i := .aload_n 0) (sr := 2) (j := 0) (by decide +kernel) rfl rfl rfl) ?_
  refine gm_sz (fw_gi (pc := 1) (ix := 9) (ci := 2) (j := 3) (x := lc) (by decide +kernel) (tE217c hE) (by decide +kernel) (by decide +kernel) rfl) ?_
  refine gm_sz (gm_p_load (pc := 4) (i := .aload_n 0) (sr := 2) (j := 0) (by decide +kernel) rfl rfl rfl) ?_
  refine gm_sz (fw_gi (pc := 5) (ix := 15) (ci := 2) (j := 0) (x := 12) (by decide +kernel) (tE217c hE) (by decide +kernel) (by decide +kernel) (tEm hE).2.1) ?_
  refine fw_ict (cc := .lt) (pc := 8) (off := 5) (by decide +kernel) (by decide) ⟨by omega, by omega⟩ ⟨by decide, by decide⟩ (show lc < 12 by omega) ?_
  refine gm_sz (gm_p_load (pc := 13) (i := .aload_n 0) (sr := 2) (j := 0) (by decide +kernel) rfl rfl rfl) ?_
  refine gm_sz (gm_p_dup (pc := 14) (by decide +kernel) fw_sr) ?_
  refine gm_sz (fw_gi (pc := 15) (ix := 9) (ci := 2) (j := 3) (x := lc) (by decide +kernel) (tE217c hE) (by decide +kernel) (by decide +kernel) rfl) ?_
  refine gm_sz (gm_p_const (pc := 18) (i := .iconst 1) (v := gm_vi 1) (by decide +kernel) (by decide +kernel)) ?_
  refine gm_sz (gm_p_bin (pc := 19) (i := .iadd) (f := fun x y => x + y) (by decide +kernel) rfl) ?_
  refine gm_sz (fw_pi (pc := 20) (ix := 9) (ci := 2) (j := 3) (M' := ct M e b w us (lc + 1) D C) (by decide +kernel) (tE217c hE) (by decide +kernel) (by decide +kernel) (by decide +kernel) ct_lc) ?_
  refine gm_sz (gm_p_load (pc := 23) (i := .aload_n 0) (sr := 2) (j := 0) (by decide +kernel) rfl rfl rfl) ?_
  refine gm_sz (fw_gi (pc := 24) (ix := 9) (ci := 2) (j := 3) (x := lc + 1) (by decide +kernel) (tE217c hE) (by decide +kernel) (by decide +kernel) rfl) ?_
  refine gm_sz (gm_p_const (pc := 27) (i := .iconst 1) (v := gm_vi 1) (by decide +kernel) (by decide +kernel)) ?_
  refine gm_sz (gm_p_bin (pc := 28) (i := .isub) (f := fun x y => x - y) (by decide +kernel) rfl) ?_
  exact gm_r_int (pc := 29) (by decide +kernel) (Or.inl (by decide +kernel)) hq
theorem tx_c45 (hE : tx_E n K R M e) (hl : 0 ≤ lc ∧ lc ≤ 12) (hi : 0 ≤ i ∧ i < lc) (hc : 0 ≤ c ∧ c < 4) (hq : Q (.inl none) n K R (ct M e b w us lc (fun t => if t = i * 4 + c then x else D t) C)) : gm_Wp X LX d bc bs 45 0 (gm_ent 45 [gm_vr 217, gm_vi i, gm_vi c, gm_vi x]) [] n K R (ct M e b w us lc D C) Q := by
  refine gm_sz (gm_p_load (pc := 0) (i := .iload_n 1) (sr := 0) (j := 1) (by decide +kernel) rfl rfl rfl) ?_
  refine fw_iff (cc := .lt) (pc := 1) (off := 37) (by decide +kernel) (by decide) ⟨by omega, by omega⟩ (show ¬ i < 0 by omega) ?_
  refine gm_sz (gm_p_load (pc := 4) (i := .iload_n 1) (sr := 0) (j := 1) (by decide +kernel) rfl rfl rfl) ?_
  refine gm_sz (gm_p_load (pc := 5) (i := .aload_n 0) (sr := 2) (j := 0) (by decide +kernel) rfl rfl rfl) ?_
  refine gm_sz (fw_gi (pc := 6) (ix := 9) (ci := 2) (j := 3) (x := lc) (by decide +kernel) (tE217c hE) (by decide +kernel) (by decide +kernel) rfl) ?_
  refine fw_icf (cc := .ge) (pc := 9) (off := 29) (by decide +kernel) (by decide) ⟨by omega, by omega⟩ ⟨by omega, by omega⟩ (show ¬ lc ≤ i by omega) ?_
  refine gm_sz (gm_p_load (pc := 12) (i := .iload_n 2) (sr := 0) (j := 2) (by decide +kernel) rfl rfl rfl) ?_
  refine fw_iff (cc := .lt) (pc := 13) (off := 25) (by decide +kernel) (by decide) ⟨by omega, by omega⟩ (show ¬ c < 0 by omega) ?_
  refine gm_sz (gm_p_load (pc := 16) (i := .iload_n 2) (sr := 0) (j := 2) (by decide +kernel) rfl rfl rfl) ?_
  refine gm_sz (gm_p_load (pc := 17) (i := .aload_n 0) (sr := 2) (j := 0) (by decide +kernel) rfl rfl rfl) ?_
  refine gm_sz (fw_gi (pc := 18) (ix := 18) (ci := 2) (j := 1) (x := 4) (by decide +kernel) (tE217c hE) (by decide +kernel) (by decide +kernel) (tEm hE).2.2.1) ?_
  refine fw_icf (cc := .ge) (pc := 21) (off := 17) (by decide +kernel) (by decide) ⟨by omega, by omega⟩ ⟨by decide, by decide⟩ (show ¬ 4 ≤ c by omega) ?_
  refine gm_sz (gm_p_load (pc := 24) (i := .aload_n 0) (sr := 2) (j := 0) (by decide +kernel) rfl rfl rfl) ?_
  refine gm_sz (fw_gr (pc := 25) (ix := 21) (ci := 2) (j := 2) (r := 218) (by decide +kernel) (tE217c hE) (by decide +kernel) (by decide +kernel) (tEr hE).2.2.2.2) ?_
  refine gm_sz (gm_p_load (pc := 28) (i := .iload_n 1) (sr := 0) (j := 1) (by decide +kernel) rfl rfl rfl) ?_
  refine gm_sz (gm_p_load (pc := 29) (i := .aload_n 0) (sr := 2) (j := 0) (by decide +kernel) rfl rfl rfl) ?_
  refine gm_sz (fw_gi (pc := 30) (ix := 18) (ci := 2) (j := 1) (x := 4) (by decide +kernel) (tE217c hE) (by decide +kernel) (by decide +kernel) (tEm hE).2.2.1) ?_
  refine gm_sz (gm_p_bin (pc := 33) (i := .imul) (f := fun x y => x * y) (by decide +kernel) rfl) ?_
  refine gm_sz (gm_p_load (pc := 34) (i := .iload_n 2) (sr := 0) (j := 2) (by decide +kernel) rfl rfl rfl) ?_
  refine gm_sz (gm_p_bin (pc := 35) (i := .iadd) (f := fun x y => x + y) (by decide +kernel) rfl) ?_
  refine gm_sz (gm_p_load (pc := 36) (i := .iload_n 3) (sr := 0) (j := 3) (by decide +kernel) rfl rfl rfl) ?_
  refine gm_sz (fw_is (pc := 37) (k := 218) (len := 48) (e0 := (i * 4) + c) (x := x) (M' := ct M e b w us lc (fun z => if z = (i * 4) + c then x else D z) C) (by decide +kernel) (tE218 hE).1 (tE218 hE).2 (by decide) ⟨by omega, by omega⟩ ct_D) ?_
  exact gm_r_void (pc := 38) (by decide +kernel) (by decide +kernel) hq
section GB
variable {f : Int → Int}
theorem g_f1 (h : tx_is f e b wo_if) : g_if f e b = g_cd f e 6 (tx_n f e b) := tif_t h
theorem g_f0 (h : ¬ tx_is f e b wo_if) : g_if f e b = (true, b) := tif_f h
theorem g_n1 (h : tx_is f e b wo_open) : g_line f e b = g_if f e (tx_n f e b) := tif_t h
theorem g_ex {l l2 : List Int} (h : tx_is f e b l) (hl : l.getD 0 0 ≠ l2.getD 0 0 ∧ 0 < l.length ∧ 0 < l2.length) : ¬ tx_is f e b l2 := fun h2 => hl.1 ((h.2.2 0 hl.2.1).symm.trans (h2.2.2 0 hl.2.2))
theorem g_n2 (h : tx_is f e b wo_fast ∨ tx_is f e b wo_slow) (h2 : g_nm f e (tx_n f e b)) : g_line f e b = g_if f e (tx_n f e (tx_n f e b)) := by
  unfold g_line
  rw [tif_f (by rcases h with h | h <;> exact g_ex h (by decide)), tif_t h, tif_t h2]
theorem g_n3 (h : tx_is f e b wo_fast ∨ tx_is f e b wo_slow) (h2 : ¬ g_nm f e (tx_n f e b)) : g_line f e b = (false, tx_n f e b) := by
  unfold g_line
  rw [tif_f (by rcases h with h | h <;> exact g_ex h (by decide)), tif_t h, tif_f h2]
theorem g_n0 (h : ¬ (tx_is f e b wo_fast ∨ tx_is f e b wo_slow)) (h2 : ¬ tx_is f e b wo_open) : g_line f e b = (false, b) := by
  unfold g_line
  rw [tif_f h2, tif_f h]
end GB
/-- readLine -/
noncomputable def cL (X : Int → Int) (LX n : Nat) (K : gm_K) (R : gm_R) (M : gm_M) (e : Int) : Prop := ∀ (d bc bs : Nat) (b us lc : Int) (D C : Int → Int) (Q : gm_Q), 23 ≤ d → 0 ≤ b ∧ b ≤ e → lc < 12 → ctk us lc D C → (∀ us2 D2 C2, ctk us2 (lc + 1) D2 C2 → (g_line (M 2) e b).1 = true → Q (.inl (some (gm_vi 1))) n K R (ct M e (g_line (M 2) e b).2 (-1) us2 (lc + 1) D2 C2)) → (∀ us2 D2 C2, ctk us2 lc D2 C2 → ¬ (g_line (M 2) e b).1 = true → Q (.inl (some (gm_vi 0))) n K R (ct M e (g_line (M 2) e b).2 (g_line (M 2) e b).2 us2 lc D2 C2)) → gm_Wp X LX d bc bs 79 0 (gm_ent 79 [gm_vr 215]) [] n K R (ct M e b (-1) us lc D C) Q
end CX
end
/-! 79h.cy -/
section
/-! THE CLASS'S READER OF A LAW: the whole text (laid by wip/pp/p5c.py). -/
section CY
variable {X : Int → Int} {LX d bc bs n : Nat} {K : gm_K} {R : gm_R} {M : gm_M} {Q : gm_Q} {e e0 b w us lc x p k v : Int} {D C : Int → Int}
theorem cm_len : gm_uM (cm M p b w k v us lc D C) 216 ((2 : Nat) : Int) x = cm (gm_uM M 216 2 x) p b w k v us lc D C := by
  show gm_uM (cm M p b w k v us lc D C) 216 2 x = _
  funext a j
  by_cases ha : a = 216 <;> by_cases hj : j = 2 <;> simp [gm_uM, cm, ha, hj]
theorem tx_E2 (h : tx_E n K R M e) (h0 : 0 ≤ e0 ∧ e0 ≤ 400) : tx_E n K R (gm_uM M 216 2 e0) e0 := by
  have f2 : ∀ j, gm_uM M 216 2 e0 2 j = M 2 j := fun j => uM_ne (by omega)
  refine ⟨h.1, ⟨h.2.1.1, (uM_ne (by omega)).trans h.2.1.2.1, (uM_ne (by omega)).trans h.2.1.2.2.1, (uM_ne (by omega)).trans h.2.1.2.2.2.1, (uM_ne (by omega)).trans h.2.1.2.2.2.2⟩, ⟨uM_at, h0⟩, fun j h1 h2 => ?_⟩
  rw [f2]
  exact h.2.2.2 j h1 h2
theorem tx_c75 (hd : 2 ≤ d) (hE : tx_E n K R M e) (h0 : 0 ≤ e0 ∧ e0 ≤ 400) (hq : Q (.inl none) n K R (ct (gm_uM M 216 2 e0) e0 (tx_g (M 2) e0 0) (-1) us lc D C)) : gm_Wp X LX d bc bs 75 0 (gm_ent 75 [gm_vr 216, gm_vi e0]) [] n K R (cm M p b w k v us lc D C) Q := by
  have hE2 := tx_E2 hE h0
  refine gm_sz (gm_p_load (pc := 0) (i := .aload_n 0) (sr := 2) (j := 0) (by decide +kernel) rfl rfl rfl) ?_
  refine gm_sz (gm_p_load (pc := 1) (i := .iload_n 1) (sr := 0) (j := 1) (by decide +kernel) rfl rfl rfl) ?_
  refine gm_sz (gm_p_load (pc := 2) (i := .aload_n 0) (sr := 2) (j := 0) (by decide +kernel) rfl rfl rfl) ?_
  refine gm_sz (fw_gr (pc := 3) (ix := 30) (ci := 8) (j := 0) (r := 2) (by decide +kernel) (tE216c hE) (by decide +kernel) (by decide +kernel) (tEr hE).1) ?_
  refine gm_sz (fw_al (pc := 6) (k := 2) (len := 400) (by decide +kernel) (tE2 hE).1 (tE2 hE).2 (by decide)) ?_
  refine gm_sz (gm_p_min (pc := 7) (ix := 37) (x := e0) (y := 400) (by decide +kernel) (by decide +kernel) (gm_w_id (by omega) (by omega)) (gm_w_id (by omega) (by omega)) (Nat.le_of_ble_eq_true rfl) (by omega)) ?_
  rw [show min e0 400 = e0 by omega]
  refine gm_sz (fw_pi (pc := 10) (ix := 9) (ci := 8) (j := 2) (M' := cm (gm_uM M 216 2 e0) p b w k v us lc D C) (by decide +kernel) (tE216c hE) (by decide +kernel) (by decide +kernel) (by decide +kernel) cm_len) ?_
  refine gm_sz (gm_p_load (pc := 13) (i := .aload_n 0) (sr := 2) (j := 0) (by decide +kernel) rfl rfl rfl) ?_
  refine gm_sz (gm_p_const (pc := 14) (i := .iconst 0) (v := gm_vi 0) (by decide +kernel) (by decide +kernel)) ?_
  refine gm_sz (fw_pi (pc := 15) (ix := 15) (ci := 8) (j := 3) (M' := cm (gm_uM M 216 2 e0) 0 b w k v us lc D C) (by decide +kernel) (tE216c hE) (by decide +kernel) (by decide +kernel) (by decide +kernel) cm_p) ?_
  refine gm_sz (gm_p_load (pc := 18) (i := .aload_n 0) (sr := 2) (j := 0) (by decide +kernel) rfl rfl rfl) ?_
  refine gm_sz (gm_p_const (pc := 19) (i := .iconst (-1)) (v := gm_vi (-1)) (by decide +kernel) (by decide +kernel)) ?_
  refine gm_sz (fw_pi (pc := 20) (ix := 21) (ci := 8) (j := 5) (M' := cm (gm_uM M 216 2 e0) 0 b (-1) k v us lc D C) (by decide +kernel) (tE216c hE) (by decide +kernel) (by decide +kernel) (by decide +kernel) cm_w) ?_
  refine gm_sz (gm_p_load (pc := 23) (i := .aload_n 0) (sr := 2) (j := 0) (by decide +kernel) rfl rfl rfl) ?_
  refine gm_c_virt (k := 216) (ci := 8) (mj := 76) (ix := 43) (pc := 24) (as := []) (st := []) (d' := d - 1) (bc' := 0) (bs' := 0) (by decide +kernel) (by decide +kernel) (by decide +kernel) (by decide +kernel) (tE216c hE).1 (tE216c hE).2 (by decide) (by decide +kernel) (show 0 = gm_na 76 by decide +kernel) fw_c0 (show 1 ≤ gm_ml 76 by decide +kernel) (Nat.le_of_ble_eq_true rfl) (by omega) (Nat.zero_le _) (Nat.zero_le _) ?_
  refine tx_nx (by omega) hE2 ⟨Int.le_refl _, h0.1⟩ ?_
  show gm_Wp X LX d _ _ 75 27 _ [] n K R _ Q
  exact gm_r_void (pc := 27) (by decide +kernel) (by decide +kernel) (by rw [show (gm_uM M 216 2 e0) 2 = M 2 from funext fun j => uM_ne (by omega)]; exact hq)
section GT
variable {f : Int → Int} {t : Nat}
theorem g_t0 (h : ¬ (g_line f e b).1 = true) : g_txt f e (t + 1) b = (false, (g_line f e b).2) := tif_f h
theorem g_t1 (h : (g_line f e b).1 = true) (h2 : tx_k f e (g_line f e b).2 = 256) : g_txt f e (t + 1) b = (true, 12 - (t : Int)) := by unfold g_txt; rw [tif_t h, tif_t h2]
theorem g_t2 (h : (g_line f e b).1 = true) (h2 : ¬ tx_k f e (g_line f e b).2 = 256) (h3 : ¬ tx_k f e (g_line f e b).2 = 59) : g_txt f e (t + 1) b = (false, (g_line f e b).2) := by unfold g_txt; rw [tif_t h, tif_f h2, tif_f h3]
theorem g_t3 (h : (g_line f e b).1 = true) (h2 : ¬ tx_k f e (g_line f e b).2 = 256) (h3 : tx_k f e (g_line f e b).2 = 59) : g_txt f e (t + 1) b = g_txt f e t (tx_n f e (g_line f e b).2) := by
  show tif ((g_line f e b).1 = true) _ _ = _
  rw [tif_t h, tif_f h2, tif_t h3]
end GT
theorem tx_EF (hF : gm_Fx p2_O 245 K R M) : tx_E 245 K R M (M 216 2) := by
  have kd : ∀ k e, p2_O.1 k = some e → (1 ≤ k ∧ k ≤ 245) ∧ K k = e := fun k e h => ⟨⟨(hF.1 k e h).1, (hF.1 k e h).2.1⟩, (hF.1 k e h).2.2⟩
  have rf : ∀ k j r, p2_O.2.1 k j = some r → R k j = r := fun k j r h => (hF.2.1 k j r h).2
  have ty : ∀ k j a b, gm_tyr p2_O k j j = some (a, b) → a ≤ M k j ∧ M k j ≤ b := fun k j a b h => ((gm_tyr_s hF h).2 j (Int.le_refl _) (Int.le_refl _)).2
  have t1 := ty 216 1 3 3 (by decide +kernel)
  have t2 := ty 217 0 12 12 (by decide +kernel)
  have t3 := ty 217 1 4 4 (by decide +kernel)
  have t4 := ty 215 1 12 12 (by decide +kernel)
  have t5 := ty 216 2 0 400 (by decide +kernel)
  exact ⟨⟨⟨kd 2 _ (by decide +kernel), kd 215 _ (by decide +kernel), kd 216 _ (by decide +kernel)⟩, kd 217 _ (by decide +kernel), kd 218 _ (by decide +kernel), kd 219 _ (by decide +kernel)⟩, ⟨⟨rf 216 0 _ (by decide +kernel), rf 215 0 _ (by decide +kernel), rf 215 2 _ (by decide +kernel), rf 215 3 _ (by decide +kernel), rf 217 2 _ (by decide +kernel)⟩, by omega, by omega, by omega, by omega⟩, ⟨rfl, t5⟩, fun j h1 h2 => ((gm_tyr_s hF (show gm_tyr p2_O 2 0 399 = some (-128, 127) by decide +kernel)).2 j h1 (by omega)).2⟩
theorem g_w0 {f : Int → Int} (h : tx_k f e (tx_g f e 0) = 256) : g_law f e = (true, 0) := tif_t h
theorem g_w1 {f : Int → Int} (h : ¬ tx_k f e (tx_g f e 0) = 256) : g_law f e = g_txt f e 12 (tx_g f e 0) := tif_f h
end CY
end
/-! 79i.rw -/
section
/-! THE REFERENCE'S READER: its memory, what always holds, words (laid by wip/pp/p5r.py). -/
/-- the reader's memory: point, begin, deep, steps; the world -/
noncomputable def rm (M : gm_M) (pt bg dp st : Int) (W : Int → Int) : gm_M := fun a j => if a = 226 then (if j = 9 then pt else if j = 11 then bg else if j = 12 then dp else if j = 15 then st else M a j) else if a = 227 then W j else M a j
section RM
variable {M : gm_M} {pt bg dp st x j0 : Int} {W : Int → Int}
theorem rm_pt : gm_uM (rm M pt bg dp st W) 226 ((9 : Nat) : Int) x = rm M x bg dp st W := by
  show gm_uM (rm M pt bg dp st W) 226 9 x = rm M x bg dp st W
  funext a j
  by_cases ha : a = 226 <;> by_cases hj : j = 9 <;> simp [gm_uM, rm, ha, hj]
theorem rm_bg : gm_uM (rm M pt bg dp st W) 226 ((11 : Nat) : Int) x = rm M pt x dp st W := by
  show gm_uM (rm M pt bg dp st W) 226 11 x = rm M pt x dp st W
  funext a j
  by_cases ha : a = 226 <;> by_cases hj : j = 11 <;> simp [gm_uM, rm, ha, hj]
theorem rm_dp : gm_uM (rm M pt bg dp st W) 226 ((12 : Nat) : Int) x = rm M pt bg x st W := by
  show gm_uM (rm M pt bg dp st W) 226 12 x = rm M pt bg x st W
  funext a j
  by_cases ha : a = 226 <;> by_cases hj : j = 12 <;> simp [gm_uM, rm, ha, hj]
theorem rm_st : gm_uM (rm M pt bg dp st W) 226 ((15 : Nat) : Int) x = rm M pt bg dp x W := by
  show gm_uM (rm M pt bg dp st W) 226 15 x = rm M pt bg dp x W
  funext a j
  by_cases ha : a = 226 <;> by_cases hj : j = 15 <;> simp [gm_uM, rm, ha, hj]
theorem rm_W : gm_uM (rm M pt bg dp st W) 227 j0 x = rm M pt bg dp st (fun z => if z = j0 then x else W z) := by
  funext a j
  by_cases ha : a = 227 <;> by_cases hj : j = j0 <;> simp [gm_uM, rm, ha, hj]
theorem rm_id : rm M (M 226 9) (M 226 11) (M 226 12) (M 226 15) (M 227) = M := by
  funext a j
  unfold rm
  by_cases h1 : a = 226
  · subst h1
    by_cases g1 : j = 9
    · subst g1; rfl
    by_cases g2 : j = 11
    · subst g2; rfl
    by_cases g3 : j = 12
    · subst g3; rfl
    by_cases g4 : j = 15
    · subst g4; rfl
    rw [if_pos rfl, if_neg g1, if_neg g2, if_neg g3, if_neg g4]
  rw [if_neg h1]
  by_cases h2 : a = 227
  · subst h2; rfl
  rw [if_neg h2]
end RM
/-- what stays while a text is read -/
noncomputable def tR (n : Nat) (K : gm_K) (R : gm_R) (M : gm_M) (e : Int) : Prop := (((1 ≤ 226 ∧ 226 ≤ n) ∧ K 226 = (15, 0)) ∧ ((1 ≤ 227 ∧ 227 ≤ n) ∧ K 227 = (0, 2093)) ∧ (1 ≤ 231 ∧ 231 ≤ n) ∧ K 231 = (1, 400)) ∧ (R 226 1 = 227 ∧ R 226 7 = 231) ∧ (M 226 10 = e ∧ 0 ≤ e ∧ e ≤ 400) ∧ ∀ j, 0 ≤ j → j < 400 → -128 ≤ M 231 j ∧ M 231 j ≤ 127
section TR
variable {n : Nat} {K : gm_K} {R : gm_R} {M : gm_M} {e : Int}
theorem tR226 (h : tR n K R M e) : (1 ≤ 226 ∧ 226 ≤ n) ∧ (K 226).1 = 11 + 4 := ⟨h.1.1.1, by rw [h.1.1.2]⟩
theorem tR227 (h : tR n K R M e) : (1 ≤ 227 ∧ 227 ≤ n) ∧ K 227 = (0, 2093) := h.1.2.1
theorem tR231 (h : tR n K R M e) : (1 ≤ 231 ∧ 231 ≤ n) ∧ K 231 = (1, 400) := h.1.2.2
theorem tRr (h : tR n K R M e) : R 226 1 = 227 ∧ R 226 7 = 231 := h.2.1
theorem tRe (h : tR n K R M e) : M 226 10 = e ∧ 0 ≤ e ∧ e ≤ 400 := h.2.2.1
theorem tRb (h : tR n K R M e) {j : Int} (h1 : 0 ≤ j) (h2 : j < 400) : -128 ≤ M 231 j ∧ M 231 j ≤ 127 := h.2.2.2 j h1 h2
end TR
section RW
variable {X : Int → Int} {LX d bc bs n : Nat} {K : gm_K} {R : gm_R} {M : gm_M} {Q : gm_Q} {e pt bg dp st lo hi b : Int} {W : Int → Int} {c : Nat} {l : List Int}
theorem tr_c246 (hE : tR n K R M e) (hl : gm_ir lo) (hh : gm_ir hi) (hp : 0 ≤ pt ∧ pt ≤ e) (h1 : pt < e → lo ≤ M 231 pt → M 231 pt ≤ hi → Q (.inl (some (gm_vi 1))) n K R (rm M pt bg dp st W)) (h0 : ¬ (pt < e ∧ lo ≤ M 231 pt ∧ M 231 pt ≤ hi) → Q (.inl (some (gm_vi 0))) n K R (rm M pt bg dp st W)) : gm_Wp X LX d bc bs 246 0 (gm_ent 246 [gm_vr 226, gm_vi lo, gm_vi hi]) [] n K R (rm M pt bg dp st W) Q := by
  obtain ⟨-, he0, he4⟩ := tRe hE
  obtain ⟨hl1, hl2⟩ := hl
  obtain ⟨hh1, hh2⟩ := hh
  refine gm_sz (gm_p_load (pc := 0) (i := .aload_n 0) (sr := 2) (j := 0) (by decide +kernel) rfl rfl rfl) ?_
  refine gm_sz (fw_gi (pc := 1) (ix := 106) (ci := 11) (j := 9) (x := pt) (by decide +kernel) (tR226 hE) (by decide +kernel) (by decide +kernel) rfl) ?_
  refine gm_sz (gm_p_load (pc := 4) (i := .aload_n 0) (sr := 2) (j := 0) (by decide +kernel) rfl rfl rfl) ?_
  refine gm_sz (fw_gi (pc := 5) (ix := 109) (ci := 11) (j := 10) (x := e) (by decide +kernel) (tR226 hE) (by decide +kernel) (by decide +kernel) (tRe hE).1) ?_
  refine fw_ic (cc := .ge) (pc := 8) (off := 33) (by decide +kernel) (by decide) ⟨by omega, by omega⟩ ⟨by omega, by omega⟩ (fun j1 => ?_) (fun j1 => ?_)
  · have j1 : e ≤ pt := j1
    refine gm_sz (gm_p_const (pc := 41) (i := .iconst 0) (v := gm_vi 0) (by decide +kernel) (by decide +kernel)) ?_
    exact gm_r_int (pc := 42) (by decide +kernel) (Or.inr ⟨(by decide +kernel), Or.inl rfl⟩) (h0 (by omega))
  · have j1 : ¬ e ≤ pt := j1
    refine gm_sz (gm_p_load (pc := 11) (i := .aload_n 0) (sr := 2) (j := 0) (by decide +kernel) rfl rfl rfl) ?_
    refine gm_sz (fw_gr (pc := 12) (ix := 26) (ci := 11) (j := 7) (r := 231) (by decide +kernel) (tR226 hE) (by decide +kernel) (by decide +kernel) (tRr hE).2) ?_
    refine gm_sz (gm_p_load (pc := 15) (i := .aload_n 0) (sr := 2) (j := 0) (by decide +kernel) rfl rfl rfl) ?_
    refine gm_sz (fw_gi (pc := 16) (ix := 106) (ci := 11) (j := 9) (x := pt) (by decide +kernel) (tR226 hE) (by decide +kernel) (by decide +kernel) rfl) ?_
    refine gm_sz (fw_ba (pc := 19) (k := 231) (len := 400) (e0 := pt) (x := M 231 pt) (by decide +kernel) (tR231 hE).1 (tR231 hE).2 (by decide) ⟨by omega, by omega⟩ rfl) ?_
    have y2 := tRb hE (j := pt) (by omega) (by omega)
    refine gm_sz (gm_p_load (pc := 20) (i := .iload_n 1) (sr := 0) (j := 1) (by decide +kernel) rfl rfl rfl) ?_
    refine fw_ic (cc := .lt) (pc := 21) (off := 20) (by decide +kernel) (by decide) ⟨by omega, by omega⟩ ⟨by omega, by omega⟩ (fun j3 => ?_) (fun j3 => ?_)
    · have j3 : (M 231 pt) < lo := j3
      refine gm_sz (gm_p_const (pc := 41) (i := .iconst 0) (v := gm_vi 0) (by decide +kernel) (by decide +kernel)) ?_
      exact gm_r_int (pc := 42) (by decide +kernel) (Or.inr ⟨(by decide +kernel), Or.inl rfl⟩) (h0 (by omega))
    · have j3 : ¬ (M 231 pt) < lo := j3
      refine gm_sz (gm_p_load (pc := 24) (i := .aload_n 0) (sr := 2) (j := 0) (by decide +kernel) rfl rfl rfl) ?_
      refine gm_sz (fw_gr (pc := 25) (ix := 26) (ci := 11) (j := 7) (r := 231) (by decide +kernel) (tR226 hE) (by decide +kernel) (by decide +kernel) (tRr hE).2) ?_
      refine gm_sz (gm_p_load (pc := 28) (i := .aload_n 0) (sr := 2) (j := 0) (by decide +kernel) rfl rfl rfl) ?_
      refine gm_sz (fw_gi (pc := 29) (ix := 106) (ci := 11) (j := 9) (x := pt) (by decide +kernel) (tR226 hE) (by decide +kernel) (by decide +kernel) rfl) ?_
      refine gm_sz (fw_ba (pc := 32) (k := 231) (len := 400) (e0 := pt) (x := M 231 pt) (by decide +kernel) (tR231 hE).1 (tR231 hE).2 (by decide) ⟨by omega, by omega⟩ rfl) ?_
      have y4 := tRb hE (j := pt) (by omega) (by omega)
      refine gm_sz (gm_p_load (pc := 33) (i := .iload_n 2) (sr := 0) (j := 2) (by decide +kernel) rfl rfl rfl) ?_
      refine fw_ic (cc := .gt) (pc := 34) (off := 7) (by decide +kernel) (by decide) ⟨by omega, by omega⟩ ⟨by omega, by omega⟩ (fun j5 => ?_) (fun j5 => ?_)
      · have j5 : hi < (M 231 pt) := j5
        refine gm_sz (gm_p_const (pc := 41) (i := .iconst 0) (v := gm_vi 0) (by decide +kernel) (by decide +kernel)) ?_
        exact gm_r_int (pc := 42) (by decide +kernel) (Or.inr ⟨(by decide +kernel), Or.inl rfl⟩) (h0 (by omega))
      · have j5 : ¬ hi < (M 231 pt) := j5
        refine gm_sz (gm_p_const (pc := 37) (i := .iconst 1) (v := gm_vi 1) (by decide +kernel) (by decide +kernel)) ?_
        refine gm_sz (gm_p_goto (pc := 38) (off := 4) (by decide +kernel) (by decide)) ?_
        exact gm_r_int (pc := 42) (by decide +kernel) (Or.inr ⟨(by decide +kernel), Or.inr rfl⟩) (h1 (by omega) (by omega) (by omega))
theorem tx_gi {f : Int → Int} {e p : Int} (h : p ≤ e) : tx_g f e (tx_g f e p) = tx_g f e p := tx_gg (tx_gb (f := f) h).2.2
theorem tr_n0 (hd : 1 ≤ d) (hE : tR n K R M e) : ∀ pt, 0 ≤ pt → pt ≤ e → gm_Wp X LX d bc bs 245 24 [some (gm_vr 226)] [] n K R (rm M (tx_g (M 231) e pt) bg dp st W) Q → gm_Wp X LX d bc bs 245 0 [some (gm_vr 226)] [] n K R (rm M pt bg dp st W) Q := by
  obtain ⟨-, he0, he4⟩ := tRe hE
  refine fw_ind (fun pt hp0 hpe ih kq => ?_)
  have hp : 0 ≤ pt ∧ pt ≤ e := ⟨hp0, hpe⟩
  refine gm_sz (gm_p_load (pc := 0) (i := .aload_n 0) (sr := 2) (j := 0) (by decide +kernel) rfl rfl rfl) ?_
  refine gm_sz (gm_p_const (pc := 1) (i := .bipush 32) (v := gm_vi 32) (by decide +kernel) (by decide +kernel)) ?_
  refine gm_sz (gm_p_const (pc := 3) (i := .bipush 32) (v := gm_vi 32) (by decide +kernel) (by decide +kernel)) ?_
  refine gm_c_virt (k := 226) (ci := 11) (mj := 246) (ix := 112) (pc := 5) (as := [gm_vi 32, gm_vi 32]) (st := []) (d' := d - 1) (bc' := 0) (bs' := 0) (by decide +kernel) (by decide +kernel) (by decide +kernel) (by decide +kernel) (tR226 hE).1 (tR226 hE).2 (by decide) (by decide +kernel) (show 2 = gm_na 246 by decide +kernel) (fw_c2 fw_si fw_si) (show 3 ≤ gm_ml 246 by decide +kernel) (Nat.le_of_ble_eq_true rfl) (by omega) (Nat.zero_le _) (Nat.zero_le _) ?_
  refine tr_c246 hE ⟨by decide, by decide⟩ ⟨by decide, by decide⟩ hp (fun j1 j2 j3 => ?_) (fun j1 => ?_)
  · show gm_Wp X LX d _ _ 245 8 _ [gm_vi 1] n K R _ Q
    have j1 : pt < e := j1
    have j2 : 32 ≤ M 231 pt := j2
    have j3 : M 231 pt ≤ 32 := j3
    refine fw_iffd (cc := .eq) (pc := 8) (off := 16) (by decide +kernel) (by decide) ⟨by decide, by decide⟩ (by decide) ?_
    refine gm_sz (gm_p_load (pc := 11) (i := .aload_n 0) (sr := 2) (j := 0) (by decide +kernel) rfl rfl rfl) ?_
    refine gm_sz (gm_p_dup (pc := 12) (by decide +kernel) fw_sr) ?_
    refine gm_sz (fw_gi (pc := 13) (ix := 106) (ci := 11) (j := 9) (x := pt) (by decide +kernel) (tR226 hE) (by decide +kernel) (by decide +kernel) rfl) ?_
    refine gm_sz (gm_p_const (pc := 16) (i := .iconst 1) (v := gm_vi 1) (by decide +kernel) (by decide +kernel)) ?_
    refine gm_sz (gm_p_bin (pc := 17) (i := .iadd) (f := fun x y => x + y) (by decide +kernel) rfl) ?_
    refine gm_sz (fw_pi (pc := 18) (ix := 106) (ci := 11) (j := 9) (M' := rm M (pt + 1) bg dp st W) (by decide +kernel) (tR226 hE) (by decide +kernel) (by decide +kernel) (by decide +kernel) rm_pt) ?_
    refine gm_sz (gm_p_goto (pc := 21) (off := (-21)) (by decide +kernel) (by decide)) ?_
    rw [tx_gt (by omega) (by omega)] at kq
    exact ih (by omega) kq
  · show gm_Wp X LX d _ _ 245 8 _ [gm_vi 0] n K R _ Q
    have j1 : ¬ (pt < e ∧ 32 ≤ M 231 pt ∧ M 231 pt ≤ 32) := j1
    refine fw_iftd (cc := .eq) (pc := 8) (off := 16) (by decide +kernel) (by decide) ⟨by decide, by decide⟩ (by decide) ?_
    rw [tx_gg (fun h => by omega)] at kq
    exact kq
theorem tr_c245 (hd : 1 ≤ d) (hE : tR n K R M e) (hp : 0 ≤ pt ∧ pt ≤ e) (hg : tx_g (M 231) e pt = b) (hq : Q (.inl none) n K R (rm M b b dp st W)) : gm_Wp X LX d bc bs 245 0 (gm_ent 245 [gm_vr 226]) [] n K R (rm M pt bg dp st W) Q := by
  subst hg
  refine tr_n0 hd hE pt hp.1 hp.2 ?_
  refine gm_sz (gm_p_load (pc := 24) (i := .aload_n 0) (sr := 2) (j := 0) (by decide +kernel) rfl rfl rfl) ?_
  refine gm_sz (gm_p_load (pc := 25) (i := .aload_n 0) (sr := 2) (j := 0) (by decide +kernel) rfl rfl rfl) ?_
  refine gm_sz (fw_gi (pc := 26) (ix := 106) (ci := 11) (j := 9) (x := tx_g (M 231) e pt) (by decide +kernel) (tR226 hE) (by decide +kernel) (by decide +kernel) rfl) ?_
  refine gm_sz (fw_pi (pc := 29) (ix := 116) (ci := 11) (j := 11) (M' := rm M (tx_g (M 231) e pt) (tx_g (M 231) e pt) dp st W) (by decide +kernel) (tR226 hE) (by decide +kernel) (by decide +kernel) (by decide +kernel) rm_bg) ?_
  exact gm_r_void (pc := 32) (by decide +kernel) (by decide +kernel) hq
theorem tr_n1 (hd : 1 ≤ d) (hE : tR n K R M e) : ∀ pt, 0 ≤ pt → pt ≤ e → gm_Wp X LX d bc bs 248 28 [some (gm_vr 226)] [] n K R (rm M (tx_r (tx_l (M 231)) e pt) bg dp st W) Q → gm_Wp X LX d bc bs 248 4 [some (gm_vr 226)] [] n K R (rm M pt bg dp st W) Q := by
  obtain ⟨-, he0, he4⟩ := tRe hE
  refine fw_ind (fun pt hp0 hpe ih kq => ?_)
  have hp : 0 ≤ pt ∧ pt ≤ e := ⟨hp0, hpe⟩
  refine gm_sz (gm_p_load (pc := 4) (i := .aload_n 0) (sr := 2) (j := 0) (by decide +kernel) rfl rfl rfl) ?_
  refine gm_sz (gm_p_const (pc := 5) (i := .bipush 97) (v := gm_vi 97) (by decide +kernel) (by decide +kernel)) ?_
  refine gm_sz (gm_p_const (pc := 7) (i := .bipush 122) (v := gm_vi 122) (by decide +kernel) (by decide +kernel)) ?_
  refine gm_c_virt (k := 226) (ci := 11) (mj := 246) (ix := 112) (pc := 9) (as := [gm_vi 97, gm_vi 122]) (st := []) (d' := d - 1) (bc' := 0) (bs' := 0) (by decide +kernel) (by decide +kernel) (by decide +kernel) (by decide +kernel) (tR226 hE).1 (tR226 hE).2 (by decide) (by decide +kernel) (show 2 = gm_na 246 by decide +kernel) (fw_c2 fw_si fw_si) (show 3 ≤ gm_ml 246 by decide +kernel) (Nat.le_of_ble_eq_true rfl) (by omega) (Nat.zero_le _) (Nat.zero_le _) ?_
  refine tr_c246 hE ⟨by decide, by decide⟩ ⟨by decide, by decide⟩ hp (fun j1 j2 j3 => ?_) (fun j1 => ?_)
  · show gm_Wp X LX d _ _ 248 12 _ [gm_vi 1] n K R _ Q
    have j1 : pt < e := j1
    have j2 : 97 ≤ M 231 pt := j2
    have j3 : M 231 pt ≤ 122 := j3
    refine fw_iffd (cc := .eq) (pc := 12) (off := 16) (by decide +kernel) (by decide) ⟨by decide, by decide⟩ (by decide) ?_
    refine gm_sz (gm_p_load (pc := 15) (i := .aload_n 0) (sr := 2) (j := 0) (by decide +kernel) rfl rfl rfl) ?_
    refine gm_sz (gm_p_dup (pc := 16) (by decide +kernel) fw_sr) ?_
    refine gm_sz (fw_gi (pc := 17) (ix := 106) (ci := 11) (j := 9) (x := pt) (by decide +kernel) (tR226 hE) (by decide +kernel) (by decide +kernel) rfl) ?_
    refine gm_sz (gm_p_const (pc := 20) (i := .iconst 1) (v := gm_vi 1) (by decide +kernel) (by decide +kernel)) ?_
    refine gm_sz (gm_p_bin (pc := 21) (i := .iadd) (f := fun x y => x + y) (by decide +kernel) rfl) ?_
    refine gm_sz (fw_pi (pc := 22) (ix := 106) (ci := 11) (j := 9) (M' := rm M (pt + 1) bg dp st W) (by decide +kernel) (tR226 hE) (by decide +kernel) (by decide +kernel) (by decide +kernel) rm_pt) ?_
    refine gm_sz (gm_p_goto (pc := 25) (off := (-21)) (by decide +kernel) (by decide)) ?_
    rw [tx_rt (by omega) (decide_eq_true (by omega))] at kq
    exact ih (by omega) kq
  · show gm_Wp X LX d _ _ 248 12 _ [gm_vi 0] n K R _ Q
    have j1 : ¬ (pt < e ∧ 97 ≤ M 231 pt ∧ M 231 pt ≤ 122) := j1
    refine fw_iftd (cc := .eq) (pc := 12) (off := 16) (by decide +kernel) (by decide) ⟨by decide, by decide⟩ (by decide) ?_
    rw [tx_rf (fun h h2 => by have := of_decide_eq_true h2; omega)] at kq
    exact kq
theorem tr_c248 (hd : 2 ≤ d) (hE : tR n K R M e) (hp : 0 ≤ pt ∧ pt ≤ e) (hg : tx_g (M 231) e pt = b) (hq : Q (.inl none) n K R (rm M (tx_r (tx_l (M 231)) e b) b dp st W)) : gm_Wp X LX d bc bs 248 0 (gm_ent 248 [gm_vr 226]) [] n K R (rm M pt bg dp st W) Q := by
  subst hg
  obtain ⟨-, he0, he4⟩ := tRe hE
  refine gm_sz (gm_p_load (pc := 0) (i := .aload_n 0) (sr := 2) (j := 0) (by decide +kernel) rfl rfl rfl) ?_
  refine gm_c_virt (k := 226) (ci := 11) (mj := 245) (ix := 119) (pc := 1) (as := []) (st := []) (d' := d - 1) (bc' := 0) (bs' := 0) (by decide +kernel) (by decide +kernel) (by decide +kernel) (by decide +kernel) (tR226 hE).1 (tR226 hE).2 (by decide) (by decide +kernel) (show 0 = gm_na 245 by decide +kernel) fw_c0 (show 1 ≤ gm_ml 245 by decide +kernel) (Nat.le_of_ble_eq_true rfl) (by omega) (Nat.zero_le _) (Nat.zero_le _) ?_
  refine tr_c245 (by omega) hE hp rfl ?_
  show gm_Wp X LX d _ _ 248 4 _ [] n K R _ Q
  have g1 : 0 ≤ tx_g (M 231) e pt ∧ tx_g (M 231) e pt ≤ e := by have := tx_gb (f := M 231) hp.2; have := hp.1; omega
  have q2 : tx_g (M 231) e (tx_g (M 231) e pt) = tx_g (M 231) e pt := by rw [← (rfl : tx_g (M 231) e pt = tx_g (M 231) e pt)]; exact tx_gi hp.2
  exact tr_n1 (by omega) hE _ g1.1 g1.2 (gm_r_void (pc := 28) (by decide +kernel) (by decide +kernel) hq)
theorem tr_w8 (hd : 5 ≤ d) (hE : tR n K R M e) (hc : c < 75) (hl : tx_o c = l) (hb : 0 ≤ bg ∧ pt ≤ e) (hs : pt - bg = (l.length : Int)) (h1 : (pt - bg = (l.length : Int) ∧ ∀ i : Nat, i < l.length → M 231 (bg + i) = l.getD i 0) → Q (.inl (some (gm_vi 1))) n K R (rm M pt bg dp st W)) (h0 : ¬ (pt - bg = (l.length : Int) ∧ ∀ i : Nat, i < l.length → M 231 (bg + i) = l.getD i 0) → Q (.inl (some (gm_vi 0))) n K R (rm M pt bg dp st W)) : ∀ i, 0 ≤ i → i ≤ (l.length : Int) → (∀ j : Nat, (j : Int) < i → M 231 (bg + j) = l.getD j 0) → gm_Wp X LX d bc bs 250 24 [some (gm_vr 226), some (gm_vo c), some (gm_vi 1), some (gm_vi i)] [] n K R (rm M pt bg dp st W) Q := by
  obtain ⟨-, he0, he4⟩ := tRe hE
  have hsl := (tx_ol hl).1
  have hid : c < gm_sl.length := by rw [gm_sl75]; exact hc
  have hs9 := (gm_chk_s hid).1.2
  refine fw_ind (fun i hi0 hil ih hall => ?_)
  refine gm_sz (gm_p_load (pc := 24) (i := .iload_n 2) (sr := 0) (j := 2) (by decide +kernel) rfl rfl rfl) ?_
  refine fw_iffd (cc := .eq) (pc := 25) (off := 42) (by decide +kernel) (by decide) ⟨by decide, by decide⟩ (by decide) ?_
  refine gm_sz (gm_p_load (pc := 28) (i := .iload_n 3) (sr := 0) (j := 3) (by decide +kernel) rfl rfl rfl) ?_
  refine gm_sz (gm_p_load (pc := 29) (i := .aload_n 1) (sr := 2) (j := 1) (by decide +kernel) rfl rfl rfl) ?_
  refine gm_c_vstr (id := c) (mj := 82) (ix := 122) (pc := 30) (as := []) (st := [gm_vi i]) (d' := d - 1) (bc' := 0) (bs' := 0) (by decide +kernel) (by decide +kernel) (by decide +kernel) (by decide +kernel) hid (by decide +kernel) (show 0 = gm_na 82 by decide +kernel) fw_c0 (show 1 ≤ gm_ml 82 by decide +kernel) (Nat.le_of_ble_eq_true rfl) (by omega) (Nat.zero_le _) (Nat.zero_le _) ?_
  refine gm_w82 (by omega) hid ?_
  show gm_Wp X LX d _ _ 250 33 _ [gm_vi (gm_slen c : Int), gm_vi i] n K R _ Q
  refine fw_ic (cc := .ge) (pc := 33) (off := 34) (by decide +kernel) (by decide) ⟨by omega, by omega⟩ ⟨by omega, by omega⟩ (fun j1 => ?_) (fun j1 => ?_)
  · have j1 : (gm_slen c : Int) ≤ i := j1
    refine gm_sz (gm_p_load (pc := 67) (i := .iload_n 2) (sr := 0) (j := 2) (by decide +kernel) rfl rfl rfl) ?_
    exact gm_r_int (pc := 68) (by decide +kernel) (Or.inr ⟨(by decide +kernel), Or.inr rfl⟩) (h1 ⟨hs, fun j hj => hall j (by omega)⟩)
  · have j1 : ¬ (gm_slen c : Int) ≤ i := j1
    refine gm_sz (gm_p_load (pc := 36) (i := .aload_n 0) (sr := 2) (j := 0) (by decide +kernel) rfl rfl rfl) ?_
    refine gm_sz (fw_gr (pc := 37) (ix := 26) (ci := 11) (j := 7) (r := 231) (by decide +kernel) (tR226 hE) (by decide +kernel) (by decide +kernel) (tRr hE).2) ?_
    refine gm_sz (gm_p_load (pc := 40) (i := .aload_n 0) (sr := 2) (j := 0) (by decide +kernel) rfl rfl rfl) ?_
    refine gm_sz (fw_gi (pc := 41) (ix := 116) (ci := 11) (j := 11) (x := bg) (by decide +kernel) (tR226 hE) (by decide +kernel) (by decide +kernel) rfl) ?_
    refine gm_sz (gm_p_load (pc := 44) (i := .iload_n 3) (sr := 0) (j := 3) (by decide +kernel) rfl rfl rfl) ?_
    refine gm_sz (gm_p_bin (pc := 45) (i := .iadd) (f := fun x y => x + y) (by decide +kernel) rfl) ?_
    refine gm_sz (fw_ba (pc := 46) (k := 231) (len := 400) (e0 := bg + i) (x := M 231 (bg + i)) (by decide +kernel) (tR231 hE).1 (tR231 hE).2 (by decide) ⟨by omega, by omega⟩ rfl) ?_
    have y2 := tRb hE (j := bg + i) (by omega) (by omega)
    refine gm_sz (gm_p_load (pc := 47) (i := .aload_n 1) (sr := 2) (j := 1) (by decide +kernel) rfl rfl rfl) ?_
    refine gm_sz (gm_p_load (pc := 48) (i := .iload_n 3) (sr := 0) (j := 3) (by decide +kernel) rfl rfl rfl) ?_
    refine gm_c_vstr (id := c) (mj := 84) (ix := 127) (pc := 49) (as := [gm_vi i]) (st := [gm_vi (M 231 (bg + i))]) (d' := d - 1) (bc' := 0) (bs' := 0) (by decide +kernel) (by decide +kernel) (by decide +kernel) (by decide +kernel) hid (by decide +kernel) (show 1 = gm_na 84 by decide +kernel) (fw_c1 fw_si) (show 2 ≤ gm_ml 84 by decide +kernel) (Nat.le_of_ble_eq_true rfl) (by omega) (Nat.zero_le _) (Nat.zero_le _) ?_
    refine gm_w84 (by omega) hid ⟨by omega, by omega⟩ ?_
    show gm_Wp X LX d _ _ 250 52 _ [gm_vi (gm_chv c i.toNat), gm_vi (M 231 (bg + i))] n K R _ Q
    have z3 := ((gm_chk_s hid).2 i.toNat (by omega)).2
    refine fw_ic (cc := .ne) (pc := 52) (off := 7) (by decide +kernel) (by decide) ⟨by omega, by omega⟩ ⟨by omega, by omega⟩ (fun j4 => ?_) (fun j4 => ?_)
    · have j4 : ¬ (M 231 (bg + i)) = (gm_chv c i.toNat) := j4
      refine gm_sz (gm_p_const (pc := 59) (i := .iconst 0) (v := gm_vi 0) (by decide +kernel) (by decide +kernel)) ?_
      refine gm_sz (gm_p_stor (pc := 60) (i := .istore_n 2) (sr := 0) (j := 2) (by decide +kernel) rfl (show 3 ≤ _ from Nat.le_of_ble_eq_true rfl) rfl) ?_
      refine gm_sz (gm_p_iinc (pc := 61) (j := 3) (z := 1) (by decide +kernel) rfl) ?_
      refine gm_sz (gm_p_goto (pc := 64) (off := (-40)) (by decide +kernel) (by decide)) ?_
      refine gm_sz (gm_p_load (pc := 24) (i := .iload_n 2) (sr := 0) (j := 2) (by decide +kernel) rfl rfl rfl) ?_
      refine fw_iftd (cc := .eq) (pc := 25) (off := 42) (by decide +kernel) (by decide) ⟨by decide, by decide⟩ (by decide) ?_
      refine gm_sz (gm_p_load (pc := 67) (i := .iload_n 2) (sr := 0) (j := 2) (by decide +kernel) rfl rfl rfl) ?_
      refine gm_r_int (pc := 68) (by decide +kernel) (Or.inr ⟨(by decide +kernel), Or.inl rfl⟩) (h0 fun hh => ?_)
      have e1 := hh.2 i.toNat (by omega)
      rw [show ((i.toNat : Nat) : Int) = i by omega, ← (tx_ol hl).2 i.toNat (by omega)] at e1
      exact j4 e1
    · have j4 : (M 231 (bg + i)) = (gm_chv c i.toNat) := Classical.not_not.mp j4
      refine gm_sz (gm_p_const (pc := 55) (i := .iconst 1) (v := gm_vi 1) (by decide +kernel) (by decide +kernel)) ?_
      refine gm_sz (gm_p_goto (pc := 56) (off := 4) (by decide +kernel) (by decide)) ?_
      refine gm_sz (gm_p_stor (pc := 60) (i := .istore_n 2) (sr := 0) (j := 2) (by decide +kernel) rfl (show 3 ≤ _ from Nat.le_of_ble_eq_true rfl) rfl) ?_
      refine gm_sz (gm_p_iinc (pc := 61) (j := 3) (z := 1) (by decide +kernel) rfl) ?_
      refine gm_sz (gm_p_goto (pc := 64) (off := (-40)) (by decide +kernel) (by decide)) ?_
      refine ih (by omega) (fun j hj => ?_)
      by_cases hji : (j : Int) = i
      · rw [hji, j4, (tx_ol hl).2 i.toNat (by omega), show i.toNat = j by omega]
      · exact hall j (by omega)
theorem tr_c250 (hd : 5 ≤ d) (hE : tR n K R M e) (hc : c < 75) (hl : tx_o c = l) (hb : 0 ≤ bg ∧ bg ≤ pt ∧ pt ≤ e) (h1 : (pt - bg = (l.length : Int) ∧ ∀ i : Nat, i < l.length → M 231 (bg + i) = l.getD i 0) → Q (.inl (some (gm_vi 1))) n K R (rm M pt bg dp st W)) (h0 : ¬ (pt - bg = (l.length : Int) ∧ ∀ i : Nat, i < l.length → M 231 (bg + i) = l.getD i 0) → Q (.inl (some (gm_vi 0))) n K R (rm M pt bg dp st W)) : gm_Wp X LX d bc bs 250 0 (gm_ent 250 [gm_vr 226, gm_vo c]) [] n K R (rm M pt bg dp st W) Q := by
  obtain ⟨-, he0, he4⟩ := tRe hE
  have hsl := (tx_ol hl).1
  have hid : c < gm_sl.length := by rw [gm_sl75]; exact hc
  have hs9 := (gm_chk_s hid).1.2
  refine gm_sz (gm_p_load (pc := 0) (i := .aload_n 0) (sr := 2) (j := 0) (by decide +kernel) rfl rfl rfl) ?_
  refine gm_sz (fw_gi (pc := 1) (ix := 106) (ci := 11) (j := 9) (x := pt) (by decide +kernel) (tR226 hE) (by decide +kernel) (by decide +kernel) rfl) ?_
  refine gm_sz (gm_p_load (pc := 4) (i := .aload_n 0) (sr := 2) (j := 0) (by decide +kernel) rfl rfl rfl) ?_
  refine gm_sz (fw_gi (pc := 5) (ix := 116) (ci := 11) (j := 11) (x := bg) (by decide +kernel) (tR226 hE) (by decide +kernel) (by decide +kernel) rfl) ?_
  refine gm_sz (gm_p_bin (pc := 8) (i := .isub) (f := fun x y => x - y) (by decide +kernel) rfl) ?_
  refine gm_sz (gm_p_load (pc := 9) (i := .aload_n 1) (sr := 2) (j := 1) (by decide +kernel) rfl rfl rfl) ?_
  refine gm_c_vstr (id := c) (mj := 82) (ix := 122) (pc := 10) (as := []) (st := [gm_vi (pt - bg)]) (d' := d - 1) (bc' := 0) (bs' := 0) (by decide +kernel) (by decide +kernel) (by decide +kernel) (by decide +kernel) hid (by decide +kernel) (show 0 = gm_na 82 by decide +kernel) fw_c0 (show 1 ≤ gm_ml 82 by decide +kernel) (Nat.le_of_ble_eq_true rfl) (by omega) (Nat.zero_le _) (Nat.zero_le _) ?_
  refine gm_w82 (by omega) hid ?_
  show gm_Wp X LX d _ _ 250 13 _ [gm_vi (gm_slen c : Int), gm_vi (pt - bg)] n K R _ Q
  refine fw_ic (cc := .ne) (pc := 13) (off := 7) (by decide +kernel) (by decide) ⟨by omega, by omega⟩ ⟨by omega, by omega⟩ (fun j1 => ?_) (fun j1 => ?_)
  · have j1 : ¬ (pt - bg) = (gm_slen c : Int) := j1
    refine gm_sz (gm_p_const (pc := 20) (i := .iconst 0) (v := gm_vi 0) (by decide +kernel) (by decide +kernel)) ?_
    refine gm_sz (gm_p_stor (pc := 21) (i := .istore_n 2) (sr := 0) (j := 2) (by decide +kernel) rfl (show 3 ≤ _ from Nat.le_of_ble_eq_true rfl) rfl) ?_
    refine gm_sz (gm_p_const (pc := 22) (i := .iconst 0) (v := gm_vi 0) (by decide +kernel) (by decide +kernel)) ?_
    refine gm_sz (gm_p_stor (pc := 23) (i := .istore_n 3) (sr := 0) (j := 3) (by decide +kernel) rfl (show 4 ≤ _ from Nat.le_of_ble_eq_true rfl) rfl) ?_
    refine gm_sz (gm_p_load (pc := 24) (i := .iload_n 2) (sr := 0) (j := 2) (by decide +kernel) rfl rfl rfl) ?_
    refine fw_iftd (cc := .eq) (pc := 25) (off := 42) (by decide +kernel) (by decide) ⟨by decide, by decide⟩ (by decide) ?_
    refine gm_sz (gm_p_load (pc := 67) (i := .iload_n 2) (sr := 0) (j := 2) (by decide +kernel) rfl rfl rfl) ?_
    exact gm_r_int (pc := 68) (by decide +kernel) (Or.inr ⟨(by decide +kernel), Or.inl rfl⟩) (h0 fun hh => j1 (by have := hh.1; omega))
  · have j1 : (pt - bg) = (gm_slen c : Int) := Classical.not_not.mp j1
    refine gm_sz (gm_p_const (pc := 16) (i := .iconst 1) (v := gm_vi 1) (by decide +kernel) (by decide +kernel)) ?_
    refine gm_sz (gm_p_goto (pc := 17) (off := 4) (by decide +kernel) (by decide)) ?_
    refine gm_sz (gm_p_stor (pc := 21) (i := .istore_n 2) (sr := 0) (j := 2) (by decide +kernel) rfl (show 3 ≤ _ from Nat.le_of_ble_eq_true rfl) rfl) ?_
    refine gm_sz (gm_p_const (pc := 22) (i := .iconst 0) (v := gm_vi 0) (by decide +kernel) (by decide +kernel)) ?_
    refine gm_sz (gm_p_stor (pc := 23) (i := .istore_n 3) (sr := 0) (j := 3) (by decide +kernel) rfl (show 4 ≤ _ from Nat.le_of_ble_eq_true rfl) rfl) ?_
    exact tr_w8 hd hE hc hl ⟨hb.1, hb.2.2⟩ (by omega) h1 h0 0 (Int.le_refl _) (by omega) (fun j hj => absurd hj (by omega))
/-- the letters from b on are a word -/
theorem tr_is (hb : 0 ≤ b ∧ b ≤ e) (hn : 0 < l.length) : (tx_r (tx_l (M 231)) e b - b = (l.length : Int) ∧ ∀ i : Nat, i < l.length → M 231 (b + i) = l.getD i 0) ↔ tx_is (M 231) e b l := by
  by_cases h0 : b < e ∧ (97 ≤ M 231 b ∧ M 231 b ≤ 122)
  · obtain ⟨t1, t2, -⟩ := tx_k1 (f := M 231) (m := 0) h0.1 h0.2
    unfold tx_is
    rw [t1, t2]
    exact ⟨fun h => ⟨rfl, h.1, h.2⟩, fun h => ⟨h.2.1, h.2.2⟩⟩
  · have e1 : tx_r (tx_l (M 231)) e b = b := tx_rf (fun h h2 => h0 ⟨h, of_decide_eq_true h2⟩)
    rw [e1]
    refine ⟨fun h => absurd h.1 (by omega), fun h => ?_⟩
    exfalso
    have h1 := h.1
    have h2 := tx_kne (f := M 231) (e := e) (b := b) (by omega)
    by_cases h4 : 48 ≤ M 231 b ∧ M 231 b ≤ 57
    · have := (tx_k2 (m := 0) h2 h4).1
      omega
    · have := (tx_k3 (f := M 231) (m := 0) h2 (fun h => h0 ⟨h2, h⟩) h4).1
      omega
theorem tx_s1 {f : Int → Int} (h : tx_is f e b l) : tx_s f e b = tx_r (tx_l f) e b := by
  have h1 := h.1
  have h2 := tx_kne (f := f) (e := e) (b := b) (by omega)
  by_cases h3 : 97 ≤ f b ∧ f b ≤ 122
  · exact (tx_k1 (m := 0) h2 h3).2.1
  exfalso
  by_cases h4 : 48 ≤ f b ∧ f b ≤ 57
  · have := (tx_k2 (m := 0) h2 h4).1
    omega
  · have := tx_k3 (f := f) (m := 0) h2 h3 h4
    have h5 := h.2.1
    rw [this.2.1] at h5
    have h6 := this.1
    omega
theorem tr_c269 (hd : 6 ≤ d) (hE : tR n K R M e) (hc : c < 75) (hl : tx_o c = l) (hn : 0 < l.length) (hp : 0 ≤ pt ∧ pt ≤ e) (hg : tx_g (M 231) e pt = b) (h1 : tx_is (M 231) e b l → Q (.inl (some (gm_vi 1))) n K R (rm M (tx_s (M 231) e b) b dp st W)) (h0 : ¬ tx_is (M 231) e b l → Q (.inl (some (gm_vi 0))) n K R (rm M b b dp st W)) : gm_Wp X LX d bc bs 269 0 (gm_ent 269 [gm_vr 226, gm_vo c]) [] n K R (rm M pt bg dp st W) Q := by
  subst hg
  obtain ⟨-, he0, he4⟩ := tRe hE
  refine gm_sz (gm_p_load (pc := 0) (i := .aload_n 0) (sr := 2) (j := 0) (by decide +kernel) rfl rfl rfl) ?_
  refine gm_c_virt (k := 226) (ci := 11) (mj := 248) (ix := 131) (pc := 1) (as := []) (st := []) (d' := d - 1) (bc' := 0) (bs' := 0) (by decide +kernel) (by decide +kernel) (by decide +kernel) (by decide +kernel) (tR226 hE).1 (tR226 hE).2 (by decide) (by decide +kernel) (show 0 = gm_na 248 by decide +kernel) fw_c0 (show 1 ≤ gm_ml 248 by decide +kernel) (Nat.le_of_ble_eq_true rfl) (by omega) (Nat.zero_le _) (Nat.zero_le _) ?_
  refine tr_c248 (by omega) hE hp rfl ?_
  show gm_Wp X LX d _ _ 269 4 _ [] n K R _ Q
  have g1 : 0 ≤ tx_g (M 231) e pt ∧ tx_g (M 231) e pt ≤ e := by have := tx_gb (f := M 231) hp.2; have := hp.1; omega
  have q3 : tx_g (M 231) e (tx_g (M 231) e pt) = tx_g (M 231) e pt := by rw [← (rfl : tx_g (M 231) e pt = tx_g (M 231) e pt)]; exact tx_gi hp.2
  have g2 : 0 ≤ tx_r (tx_l (M 231)) e (tx_g (M 231) e pt) ∧ tx_r (tx_l (M 231)) e (tx_g (M 231) e pt) ≤ e := by have := tx_rb (q := tx_l (M 231)) (e := e) _ (tx_g (M 231) e pt) rfl g1.2; omega
  refine gm_sz (gm_p_load (pc := 4) (i := .aload_n 0) (sr := 2) (j := 0) (by decide +kernel) rfl rfl rfl) ?_
  refine gm_sz (gm_p_load (pc := 5) (i := .aload_n 1) (sr := 2) (j := 1) (by decide +kernel) rfl rfl rfl) ?_
  refine gm_c_virt (k := 226) (ci := 11) (mj := 250) (ix := 134) (pc := 6) (as := [gm_vo c]) (st := []) (d' := d - 1) (bc' := 0) (bs' := 0) (by decide +kernel) (by decide +kernel) (by decide +kernel) (by decide +kernel) (tR226 hE).1 (tR226 hE).2 (by decide) (by decide +kernel) (show 1 = gm_na 250 by decide +kernel) (fw_c1 fw_so) (show 2 ≤ gm_ml 250 by decide +kernel) (Nat.le_of_ble_eq_true rfl) (by omega) (Nat.zero_le _) (Nat.zero_le _) ?_
  refine tr_c250 (by omega) hE hc hl ⟨g1.1, (tx_rb (q := tx_l (M 231)) (e := e) _ (tx_g (M 231) e pt) rfl g1.2).1, (tx_rb (q := tx_l (M 231)) (e := e) _ (tx_g (M 231) e pt) rfl g1.2).2.1⟩ (fun j4 => ?_) (fun j4 => ?_)
  · show gm_Wp X LX d _ _ 269 9 _ [gm_vi 1] n K R _ Q
    have j4 : tx_is (M 231) e (tx_g (M 231) e pt) l := (tr_is g1 hn).mp j4
    have q5 : tx_g (M 231) e (tx_r (tx_l (M 231)) e (tx_g (M 231) e pt)) = tx_n (M 231) e (tx_g (M 231) e pt) := by rw [← tx_s1 j4]; rfl
    have g7 : 0 ≤ tx_n (M 231) e (tx_g (M 231) e pt) ∧ tx_n (M 231) e (tx_g (M 231) e pt) ≤ e := by have := tx_nb (f := M 231) (b := tx_g (M 231) e pt) g1.2; have := g1.1; omega
    have g6 : tx_g (M 231) e pt + 1 ≤ tx_r (tx_l (M 231)) e (tx_g (M 231) e pt) := by have := (tx_sb (f := M 231) g1.2).2.2 (g_isb j4); rwa [tx_s1 j4] at this
    refine fw_iffd (cc := .eq) (pc := 9) (off := 5) (by decide +kernel) (by decide) ⟨by decide, by decide⟩ (by decide) ?_
    refine gm_sz (gm_p_const (pc := 12) (i := .iconst 1) (v := gm_vi 1) (by decide +kernel) (by decide +kernel)) ?_
    have h1 := h1 j4
    rw [tx_s1 j4] at h1
    exact gm_r_int (pc := 13) (by decide +kernel) (Or.inr ⟨(by decide +kernel), Or.inr rfl⟩) h1
  · show gm_Wp X LX d _ _ 269 9 _ [gm_vi 0] n K R _ Q
    have j4 : ¬ tx_is (M 231) e (tx_g (M 231) e pt) l := fun hh => j4 ((tr_is g1 hn).mpr hh)
    refine fw_iftd (cc := .eq) (pc := 9) (off := 5) (by decide +kernel) (by decide) ⟨by decide, by decide⟩ (by decide) ?_
    refine gm_sz (gm_p_load (pc := 14) (i := .aload_n 0) (sr := 2) (j := 0) (by decide +kernel) rfl rfl rfl) ?_
    refine gm_sz (gm_p_load (pc := 15) (i := .aload_n 0) (sr := 2) (j := 0) (by decide +kernel) rfl rfl rfl) ?_
    refine gm_sz (fw_gi (pc := 16) (ix := 116) (ci := 11) (j := 11) (x := tx_g (M 231) e pt) (by decide +kernel) (tR226 hE) (by decide +kernel) (by decide +kernel) rfl) ?_
    refine gm_sz (fw_pi (pc := 19) (ix := 106) (ci := 11) (j := 9) (M' := rm M (tx_g (M 231) e pt) (tx_g (M 231) e pt) dp st W) (by decide +kernel) (tR226 hE) (by decide +kernel) (by decide +kernel) (by decide +kernel) rm_pt) ?_
    refine gm_sz (gm_p_const (pc := 22) (i := .iconst 0) (v := gm_vi 0) (by decide +kernel) (by decide +kernel)) ?_
    exact gm_r_int (pc := 23) (by decide +kernel) (Or.inr ⟨(by decide +kernel), Or.inl rfl⟩) (h0 j4)
theorem tr_c278 {x : Int} (hd : 2 ≤ d) (hE : tR n K R M e) (hx : 0 ≤ x ∧ x < 97 ∧ ¬ (48 ≤ x ∧ x ≤ 57)) (hp : 0 ≤ pt ∧ pt ≤ e) (hg : tx_g (M 231) e pt = b) (h1 : tx_k (M 231) e b = x → Q (.inl (some (gm_vi 1))) n K R (rm M (tx_s (M 231) e b) b dp st W)) (h0 : ¬ tx_k (M 231) e b = x → Q (.inl (some (gm_vi 0))) n K R (rm M b b dp st W)) : gm_Wp X LX d bc bs 278 0 (gm_ent 278 [gm_vr 226, gm_vi x]) [] n K R (rm M pt bg dp st W) Q := by
  subst hg
  obtain ⟨-, he0, he4⟩ := tRe hE
  obtain ⟨hx1, hx2, hx3⟩ := hx
  refine gm_sz (gm_p_load (pc := 0) (i := .aload_n 0) (sr := 2) (j := 0) (by decide +kernel) rfl rfl rfl) ?_
  refine gm_c_virt (k := 226) (ci := 11) (mj := 245) (ix := 119) (pc := 1) (as := []) (st := []) (d' := d - 1) (bc' := 0) (bs' := 0) (by decide +kernel) (by decide +kernel) (by decide +kernel) (by decide +kernel) (tR226 hE).1 (tR226 hE).2 (by decide) (by decide +kernel) (show 0 = gm_na 245 by decide +kernel) fw_c0 (show 1 ≤ gm_ml 245 by decide +kernel) (Nat.le_of_ble_eq_true rfl) (by omega) (Nat.zero_le _) (Nat.zero_le _) ?_
  refine tr_c245 (by omega) hE hp rfl ?_
  show gm_Wp X LX d _ _ 278 4 _ [] n K R _ Q
  have g1 : 0 ≤ tx_g (M 231) e pt ∧ tx_g (M 231) e pt ≤ e := by have := tx_gb (f := M 231) hp.2; have := hp.1; omega
  have q2 : tx_g (M 231) e (tx_g (M 231) e pt) = tx_g (M 231) e pt := by rw [← (rfl : tx_g (M 231) e pt = tx_g (M 231) e pt)]; exact tx_gi hp.2
  refine gm_sz (gm_p_load (pc := 4) (i := .aload_n 0) (sr := 2) (j := 0) (by decide +kernel) rfl rfl rfl) ?_
  refine gm_sz (gm_p_load (pc := 5) (i := .iload_n 1) (sr := 0) (j := 1) (by decide +kernel) rfl rfl rfl) ?_
  refine gm_sz (gm_p_load (pc := 6) (i := .iload_n 1) (sr := 0) (j := 1) (by decide +kernel) rfl rfl rfl) ?_
  refine gm_c_virt (k := 226) (ci := 11) (mj := 246) (ix := 112) (pc := 7) (as := [gm_vi x, gm_vi x]) (st := []) (d' := d - 1) (bc' := 0) (bs' := 0) (by decide +kernel) (by decide +kernel) (by decide +kernel) (by decide +kernel) (tR226 hE).1 (tR226 hE).2 (by decide) (by decide +kernel) (show 2 = gm_na 246 by decide +kernel) (fw_c2 fw_si fw_si) (show 3 ≤ gm_ml 246 by decide +kernel) (Nat.le_of_ble_eq_true rfl) (by omega) (Nat.zero_le _) (Nat.zero_le _) ?_
  refine tr_c246 hE ⟨by omega, by omega⟩ ⟨by omega, by omega⟩ g1 (fun j3 j4 j5 => ?_) (fun j3 => ?_)
  · show gm_Wp X LX d _ _ 278 10 _ [gm_vi 1] n K R _ Q
    have j3 : tx_g (M 231) e pt < e := j3
    have j4 : x ≤ M 231 (tx_g (M 231) e pt) := j4
    have j5 : M 231 (tx_g (M 231) e pt) ≤ x := j5
    refine fw_iftd (cc := .ne) (pc := 10) (off := 5) (by decide +kernel) (by decide) ⟨by decide, by decide⟩ (by decide) ?_
    refine gm_sz (gm_p_load (pc := 15) (i := .aload_n 0) (sr := 2) (j := 0) (by decide +kernel) rfl rfl rfl) ?_
    refine gm_sz (gm_p_dup (pc := 16) (by decide +kernel) fw_sr) ?_
    refine gm_sz (fw_gi (pc := 17) (ix := 106) (ci := 11) (j := 9) (x := tx_g (M 231) e pt) (by decide +kernel) (tR226 hE) (by decide +kernel) (by decide +kernel) rfl) ?_
    refine gm_sz (gm_p_const (pc := 20) (i := .iconst 1) (v := gm_vi 1) (by decide +kernel) (by decide +kernel)) ?_
    refine gm_sz (gm_p_bin (pc := 21) (i := .iadd) (f := fun x y => x + y) (by decide +kernel) rfl) ?_
    refine gm_sz (fw_pi (pc := 22) (ix := 106) (ci := 11) (j := 9) (M' := rm M ((tx_g (M 231) e pt) + 1) (tx_g (M 231) e pt) dp st W) (by decide +kernel) (tR226 hE) (by decide +kernel) (by decide +kernel) (by decide +kernel) rm_pt) ?_
    refine gm_sz (gm_p_const (pc := 25) (i := .iconst 1) (v := gm_vi 1) (by decide +kernel) (by decide +kernel)) ?_
    have t1 := (tx_ksg (f := M 231) (e := e) (b := tx_g (M 231) e pt) (c := x) (fun h => tRb hE (by omega) (by omega)) ⟨by omega, by omega, by omega⟩).mpr ⟨by omega, by omega⟩
    have h1 := h1 t1
    rw [(tx_k3 (f := M 231) (m := 0) (b := tx_g (M 231) e pt) (e := e) (by omega) (by omega) (by omega)).2.1] at h1
    exact gm_r_int (pc := 26) (by decide +kernel) (Or.inr ⟨(by decide +kernel), Or.inr rfl⟩) h1
  · show gm_Wp X LX d _ _ 278 10 _ [gm_vi 0] n K R _ Q
    have j3 : ¬ (tx_g (M 231) e pt < e ∧ x ≤ M 231 (tx_g (M 231) e pt) ∧ M 231 (tx_g (M 231) e pt) ≤ x) := j3
    refine fw_iffd (cc := .ne) (pc := 10) (off := 5) (by decide +kernel) (by decide) ⟨by decide, by decide⟩ (by decide) ?_
    refine gm_sz (gm_p_const (pc := 13) (i := .iconst 0) (v := gm_vi 0) (by decide +kernel) (by decide +kernel)) ?_
    exact gm_r_int (pc := 14) (by decide +kernel) (Or.inr ⟨(by decide +kernel), Or.inl rfl⟩) (h0 fun hh => by have := (tx_ksg (f := M 231) (e := e) (b := tx_g (M 231) e pt) (c := x) (fun h => tRb hE (by omega) (by omega)) ⟨by omega, by omega, by omega⟩).mp hh; omega)
/-- figures, from p on: v is what the first m of them say -/
theorem tr_n2 {m B : Int} (hd : 1 ≤ d) (hE : tR n K R M e) (hm : 1 ≤ m ∧ m ≤ 4) (hlo : gm_ir lo) (hhi : gm_ir hi) (hB : 0 ≤ B) : ∀ pt, 0 ≤ pt → pt ≤ e → ∀ v, B ≤ pt → (0 ≤ v ∧ v < tx_t (if pt - B ≤ m then pt - B else m)) → (∀ v2 p2, B ≤ p2 → p2 ≤ e → p2 = tx_r (tx_d (M 231)) e pt → (0 ≤ v2 ∧ v2 < 10000) → (if p2 - B ≤ m then v2 else -1) = tx_u (M 231) e m B (e - pt).toNat pt (if pt - B ≤ m then v else -1) → gm_Wp X LX d bc bs 256 69 [some (gm_vr 226), some (gm_vi lo), some (gm_vi hi), some (gm_vi m), some (gm_vi v2)] [] n K R (rm M p2 B dp st W) Q) → gm_Wp X LX d bc bs 256 7 [some (gm_vr 226), some (gm_vi lo), some (gm_vi hi), some (gm_vi m), some (gm_vi v)] [] n K R (rm M pt B dp st W) Q := by
  obtain ⟨-, he0, he4⟩ := tRe hE
  refine fw_ind (fun pt hp0 hpe ih v hbp hv kq => ?_)
  have hp : 0 ≤ pt ∧ pt ≤ e := ⟨hp0, hpe⟩
  have htb := tx_tb (k := if pt - B ≤ m then pt - B else m)
  refine gm_sz (gm_p_load (pc := 7) (i := .aload_n 0) (sr := 2) (j := 0) (by decide +kernel) rfl rfl rfl) ?_
  refine gm_sz (gm_p_const (pc := 8) (i := .bipush 48) (v := gm_vi 48) (by decide +kernel) (by decide +kernel)) ?_
  refine gm_sz (gm_p_const (pc := 10) (i := .bipush 57) (v := gm_vi 57) (by decide +kernel) (by decide +kernel)) ?_
  refine gm_c_virt (k := 226) (ci := 11) (mj := 246) (ix := 112) (pc := 12) (as := [gm_vi 48, gm_vi 57]) (st := []) (d' := d - 1) (bc' := 0) (bs' := 0) (by decide +kernel) (by decide +kernel) (by decide +kernel) (by decide +kernel) (tR226 hE).1 (tR226 hE).2 (by decide) (by decide +kernel) (show 2 = gm_na 246 by decide +kernel) (fw_c2 fw_si fw_si) (show 3 ≤ gm_ml 246 by decide +kernel) (Nat.le_of_ble_eq_true rfl) (by omega) (Nat.zero_le _) (Nat.zero_le _) ?_
  refine tr_c246 hE ⟨by decide, by decide⟩ ⟨by decide, by decide⟩ hp (fun j1 j2 j3 => ?_) (fun j1 => ?_)
  · show gm_Wp X LX d _ _ 256 15 _ [gm_vi 1] n K R _ Q
    have j1 : pt < e := j1
    have j2 : 48 ≤ M 231 pt := j2
    have j3 : M 231 pt ≤ 57 := j3
    refine fw_iffd (cc := .eq) (pc := 15) (off := 54) (by decide +kernel) (by decide) ⟨by decide, by decide⟩ (by decide) ?_
    refine gm_sz (gm_p_load (pc := 18) (i := .aload_n 0) (sr := 2) (j := 0) (by decide +kernel) rfl rfl rfl) ?_
    refine gm_sz (fw_gi (pc := 19) (ix := 106) (ci := 11) (j := 9) (x := pt) (by decide +kernel) (tR226 hE) (by decide +kernel) (by decide +kernel) rfl) ?_
    refine gm_sz (gm_p_load (pc := 22) (i := .aload_n 0) (sr := 2) (j := 0) (by decide +kernel) rfl rfl rfl) ?_
    refine gm_sz (fw_gi (pc := 23) (ix := 116) (ci := 11) (j := 11) (x := B) (by decide +kernel) (tR226 hE) (by decide +kernel) (by decide +kernel) rfl) ?_
    refine gm_sz (gm_p_bin (pc := 26) (i := .isub) (f := fun x y => x - y) (by decide +kernel) rfl) ?_
    refine gm_sz (gm_p_load (pc := 27) (i := .iload_n 3) (sr := 0) (j := 3) (by decide +kernel) rfl rfl rfl) ?_
    refine fw_ic (cc := .ge) (pc := 28) (off := 24) (by decide +kernel) (by decide) ⟨by omega, by omega⟩ ⟨by omega, by omega⟩ (fun j4 => ?_) (fun j4 => ?_)
    · have j4 : m ≤ (pt - B) := j4
      refine gm_sz (gm_p_load (pc := 52) (i := .iload 4) (sr := 0) (j := 4) (by decide +kernel) rfl rfl rfl) ?_
      refine gm_sz (gm_p_stor (pc := 54) (i := .istore 4) (sr := 0) (j := 4) (by decide +kernel) rfl (show 5 ≤ _ from Nat.le_of_ble_eq_true rfl) rfl) ?_
      refine gm_sz (gm_p_load (pc := 56) (i := .aload_n 0) (sr := 2) (j := 0) (by decide +kernel) rfl rfl rfl) ?_
      refine gm_sz (gm_p_dup (pc := 57) (by decide +kernel) fw_sr) ?_
      refine gm_sz (fw_gi (pc := 58) (ix := 106) (ci := 11) (j := 9) (x := pt) (by decide +kernel) (tR226 hE) (by decide +kernel) (by decide +kernel) rfl) ?_
      refine gm_sz (gm_p_const (pc := 61) (i := .iconst 1) (v := gm_vi 1) (by decide +kernel) (by decide +kernel)) ?_
      refine gm_sz (gm_p_bin (pc := 62) (i := .iadd) (f := fun x y => x + y) (by decide +kernel) rfl) ?_
      refine gm_sz (fw_pi (pc := 63) (ix := 106) (ci := 11) (j := 9) (M' := rm M (pt + 1) B dp st W) (by decide +kernel) (tR226 hE) (by decide +kernel) (by decide +kernel) (by decide +kernel) rm_pt) ?_
      refine gm_sz (gm_p_goto (pc := 66) (off := (-59)) (by decide +kernel) (by decide)) ?_
      have hdg : tx_d (M 231) pt = true := decide_eq_true (by omega)
      rw [tx_rt (by omega) hdg, tx_ut (by omega) hdg] at kq
      rw [if_neg (show ¬ (pt - B < m ∧ ¬ (if pt - B ≤ m then v else -1) = -1) by omega)] at kq
      refine ih (by omega) v (by omega) ?_ ?_
      · rw [if_neg (show ¬ pt + 1 - B ≤ m by omega)]
        by_cases hc : pt - B ≤ m
        · rw [if_pos hc, show pt - B = m by omega] at hv
          exact hv
        · rw [if_neg hc] at hv
          exact hv
      · rw [if_neg (show ¬ pt + 1 - B ≤ m by omega)]
        exact kq
    · have j4 : ¬ m ≤ (pt - B) := j4
      refine gm_sz (gm_p_const (pc := 31) (i := .bipush 10) (v := gm_vi 10) (by decide +kernel) (by decide +kernel)) ?_
      refine gm_sz (gm_p_load (pc := 33) (i := .iload 4) (sr := 0) (j := 4) (by decide +kernel) rfl rfl rfl) ?_
      refine gm_sz (gm_p_bin (pc := 35) (i := .imul) (f := fun x y => x * y) (by decide +kernel) rfl) ?_
      refine gm_sz (gm_p_load (pc := 36) (i := .aload_n 0) (sr := 2) (j := 0) (by decide +kernel) rfl rfl rfl) ?_
      refine gm_sz (fw_gr (pc := 37) (ix := 26) (ci := 11) (j := 7) (r := 231) (by decide +kernel) (tR226 hE) (by decide +kernel) (by decide +kernel) (tRr hE).2) ?_
      refine gm_sz (gm_p_load (pc := 40) (i := .aload_n 0) (sr := 2) (j := 0) (by decide +kernel) rfl rfl rfl) ?_
      refine gm_sz (fw_gi (pc := 41) (ix := 106) (ci := 11) (j := 9) (x := pt) (by decide +kernel) (tR226 hE) (by decide +kernel) (by decide +kernel) rfl) ?_
      refine gm_sz (fw_ba (pc := 44) (k := 231) (len := 400) (e0 := pt) (x := M 231 pt) (by decide +kernel) (tR231 hE).1 (tR231 hE).2 (by decide) ⟨by omega, by omega⟩ rfl) ?_
      have y5 := tRb hE (j := pt) (by omega) (by omega)
      refine gm_sz (gm_p_bin (pc := 45) (i := .iadd) (f := fun x y => x + y) (by decide +kernel) rfl) ?_
      refine gm_sz (gm_p_const (pc := 46) (i := .bipush 48) (v := gm_vi 48) (by decide +kernel) (by decide +kernel)) ?_
      refine gm_sz (gm_p_bin (pc := 48) (i := .isub) (f := fun x y => x - y) (by decide +kernel) rfl) ?_
      refine gm_sz (gm_p_goto (pc := 49) (off := 5) (by decide +kernel) (by decide)) ?_
      refine gm_sz (gm_p_stor (pc := 54) (i := .istore 4) (sr := 0) (j := 4) (by decide +kernel) rfl (show 5 ≤ _ from Nat.le_of_ble_eq_true rfl) rfl) ?_
      refine gm_sz (gm_p_load (pc := 56) (i := .aload_n 0) (sr := 2) (j := 0) (by decide +kernel) rfl rfl rfl) ?_
      refine gm_sz (gm_p_dup (pc := 57) (by decide +kernel) fw_sr) ?_
      refine gm_sz (fw_gi (pc := 58) (ix := 106) (ci := 11) (j := 9) (x := pt) (by decide +kernel) (tR226 hE) (by decide +kernel) (by decide +kernel) rfl) ?_
      refine gm_sz (gm_p_const (pc := 61) (i := .iconst 1) (v := gm_vi 1) (by decide +kernel) (by decide +kernel)) ?_
      refine gm_sz (gm_p_bin (pc := 62) (i := .iadd) (f := fun x y => x + y) (by decide +kernel) rfl) ?_
      refine gm_sz (fw_pi (pc := 63) (ix := 106) (ci := 11) (j := 9) (M' := rm M (pt + 1) B dp st W) (by decide +kernel) (tR226 hE) (by decide +kernel) (by decide +kernel) (by decide +kernel) rm_pt) ?_
      refine gm_sz (gm_p_goto (pc := 66) (off := (-59)) (by decide +kernel) (by decide)) ?_
      have hdg : tx_d (M 231) pt = true := decide_eq_true (by omega)
      rw [tx_rt (by omega) hdg, tx_ut (by omega) hdg] at kq
      rw [if_pos (show pt - B ≤ m by omega)] at hv kq
      rw [if_pos (show pt - B < m ∧ ¬ v = -1 by omega)] at kq
      have t := tx_tv (v := v) (k := pt - B) (c := M 231 pt) hv (by omega) (by omega)
      rw [show v * 10 + M 231 pt - 48 = 10 * v + M 231 pt - 48 by omega] at t kq
      refine ih (by omega) _ (by omega) ?_ ?_
      · rw [if_pos (show pt + 1 - B ≤ m by omega), show pt + 1 - B = pt - B + 1 by omega]
        exact t
      · rw [if_pos (show pt + 1 - B ≤ m by omega)]
        exact kq
  · show gm_Wp X LX d _ _ 256 15 _ [gm_vi 0] n K R _ Q
    have j1 : ¬ (pt < e ∧ 48 ≤ M 231 pt ∧ M 231 pt ≤ 57) := j1
    refine fw_iftd (cc := .eq) (pc := 15) (off := 54) (by decide +kernel) (by decide) ⟨by decide, by decide⟩ (by decide) ?_
    refine kq v pt (by omega) hpe (tx_rf (fun h h2 => by have := of_decide_eq_true h2; omega)).symm ⟨hv.1, by omega⟩ ?_
    rw [tx_uf (fun h h2 => by have := of_decide_eq_true h2; omega)]
theorem tr_c256 {m : Int} (hd : 2 ≤ d) (hE : tR n K R M e) (hm : 1 ≤ m ∧ m ≤ 4) (hlo : 0 ≤ lo ∧ lo < 2147483648) (hhi : gm_ir hi) (hp : 0 ≤ pt ∧ pt ≤ e) (hg : tx_g (M 231) e pt = b) (h1 : tx_k (M 231) e b = 258 ∧ lo ≤ tx_v (M 231) e m b ∧ tx_v (M 231) e m b ≤ hi → Q (.inl (some (gm_vi (tx_v (M 231) e m b)))) n K R (rm M (tx_s (M 231) e b) b dp st W)) (h0 : ¬ (tx_k (M 231) e b = 258 ∧ lo ≤ tx_v (M 231) e m b ∧ tx_v (M 231) e m b ≤ hi) → ∀ p2, Q (.inl (some (gm_vi (-1)))) n K R (rm M p2 b dp st W)) : gm_Wp X LX d bc bs 256 0 (gm_ent 256 [gm_vr 226, gm_vi lo, gm_vi hi, gm_vi m]) [] n K R (rm M pt bg dp st W) Q := by
  subst hg
  obtain ⟨-, he0, he4⟩ := tRe hE
  obtain ⟨hhi1, hhi2⟩ := hhi
  obtain ⟨hlo1, hlo2⟩ := hlo
  refine gm_sz (gm_p_load (pc := 0) (i := .aload_n 0) (sr := 2) (j := 0) (by decide +kernel) rfl rfl rfl) ?_
  refine gm_c_virt (k := 226) (ci := 11) (mj := 245) (ix := 119) (pc := 1) (as := []) (st := []) (d' := d - 1) (bc' := 0) (bs' := 0) (by decide +kernel) (by decide +kernel) (by decide +kernel) (by decide +kernel) (tR226 hE).1 (tR226 hE).2 (by decide) (by decide +kernel) (show 0 = gm_na 245 by decide +kernel) fw_c0 (show 1 ≤ gm_ml 245 by decide +kernel) (Nat.le_of_ble_eq_true rfl) (by omega) (Nat.zero_le _) (Nat.zero_le _) ?_
  refine tr_c245 (by omega) hE hp rfl ?_
  show gm_Wp X LX d _ _ 256 4 _ [] n K R _ Q
  have g1 : 0 ≤ tx_g (M 231) e pt ∧ tx_g (M 231) e pt ≤ e := by have := tx_gb (f := M 231) hp.2; have := hp.1; omega
  have q2 : tx_g (M 231) e (tx_g (M 231) e pt) = tx_g (M 231) e pt := by rw [← (rfl : tx_g (M 231) e pt = tx_g (M 231) e pt)]; exact tx_gi hp.2
  refine gm_sz (gm_p_const (pc := 4) (i := .iconst 0) (v := gm_vi 0) (by decide +kernel) (by decide +kernel)) ?_
  refine gm_sz (gm_p_stor (pc := 5) (i := .istore 4) (sr := 0) (j := 4) (by decide +kernel) rfl (show 5 ≤ _ from Nat.le_of_ble_eq_true rfl) rfl) ?_
  have hg := g1
  generalize tx_g (M 231) e pt = B at *
  refine tr_n2 (by omega) hE hm ⟨by omega, hlo2⟩ ⟨hhi1, hhi2⟩ hg.1 B hg.1 hg.2 0 (Int.le_refl _) ⟨Int.le_refl _, by have := (tx_tb (k := if B - B ≤ m then B - B else m)).1; omega⟩ (fun v2 p2 hb2 hp2 hr hv2 hu => ?_)
  rw [if_pos (show B - B ≤ m by omega)] at hu
  have key : (tx_k (M 231) e B = 258 ∧ B < p2 ∧ tx_s (M 231) e B = p2 ∧ ((p2 - B ≤ m ∧ tx_v (M 231) e m B = v2) ∨ (m < p2 - B ∧ tx_v (M 231) e m B = -1))) ∨ (¬ tx_k (M 231) e B = 258 ∧ p2 = B) := by
    by_cases h5 : B < e ∧ 48 ≤ M 231 B ∧ M 231 B ≤ 57
    · obtain ⟨t1, t2, t3⟩ := tx_k2 (f := M 231) (m := m) h5.1 h5.2
      have t4 := tx_rs (q := tx_d (M 231)) h5.1 (decide_eq_true h5.2)
      by_cases h6 : p2 - B ≤ m
      · rw [if_pos h6] at hu
        exact Or.inl ⟨t1, by omega, by omega, Or.inl ⟨h6, t3.trans hu.symm⟩⟩
      · rw [if_neg h6] at hu
        exact Or.inl ⟨t1, by omega, by omega, Or.inr ⟨by omega, t3.trans hu.symm⟩⟩
    · refine Or.inr ⟨fun h6 => ?_, ?_⟩
      · have h7 := tx_kne (f := M 231) (e := e) (b := B) (by omega)
        by_cases h8 : 97 ≤ M 231 B ∧ M 231 B ≤ 122
        · have := (tx_k1 (m := 0) h7 h8).1
          omega
        · have := (tx_k3 (f := M 231) (m := 0) h7 h8 (fun h => h5 ⟨h7, h⟩)).1
          omega
      · rw [hr]
        exact tx_rf (fun h h2 => h5 ⟨h, of_decide_eq_true h2⟩)
  clear hu hr
  refine gm_sz (gm_p_load (pc := 69) (i := .aload_n 0) (sr := 2) (j := 0) (by decide +kernel) rfl rfl rfl) ?_
  refine gm_sz (fw_gi (pc := 70) (ix := 106) (ci := 11) (j := 9) (x := p2) (by decide +kernel) (tR226 hE) (by decide +kernel) (by decide +kernel) rfl) ?_
  refine gm_sz (gm_p_load (pc := 73) (i := .aload_n 0) (sr := 2) (j := 0) (by decide +kernel) rfl rfl rfl) ?_
  refine gm_sz (fw_gi (pc := 74) (ix := 116) (ci := 11) (j := 11) (x := B) (by decide +kernel) (tR226 hE) (by decide +kernel) (by decide +kernel) rfl) ?_
  refine fw_ic (cc := .eq) (pc := 77) (off := 28) (by decide +kernel) (by decide) ⟨by omega, by omega⟩ ⟨by omega, by omega⟩ (fun j1 => ?_) (fun j1 => ?_)
  · have j1 : p2 = B := j1
    refine gm_sz (gm_p_const (pc := 105) (i := .iconst (-1)) (v := gm_vi (-1)) (by decide +kernel) (by decide +kernel)) ?_
    refine gm_sz (gm_p_goto (pc := 106) (off := 5) (by decide +kernel) (by decide)) ?_
    exact gm_r_int (pc := 111) (by decide +kernel) (Or.inl (by decide +kernel)) (h0 (by omega) p2)
  · have j1 : ¬ p2 = B := j1
    refine gm_sz (gm_p_load (pc := 80) (i := .aload_n 0) (sr := 2) (j := 0) (by decide +kernel) rfl rfl rfl) ?_
    refine gm_sz (fw_gi (pc := 81) (ix := 106) (ci := 11) (j := 9) (x := p2) (by decide +kernel) (tR226 hE) (by decide +kernel) (by decide +kernel) rfl) ?_
    refine gm_sz (gm_p_load (pc := 84) (i := .aload_n 0) (sr := 2) (j := 0) (by decide +kernel) rfl rfl rfl) ?_
    refine gm_sz (fw_gi (pc := 85) (ix := 116) (ci := 11) (j := 11) (x := B) (by decide +kernel) (tR226 hE) (by decide +kernel) (by decide +kernel) rfl) ?_
    refine gm_sz (gm_p_bin (pc := 88) (i := .isub) (f := fun x y => x - y) (by decide +kernel) rfl) ?_
    refine gm_sz (gm_p_load (pc := 89) (i := .iload_n 3) (sr := 0) (j := 3) (by decide +kernel) rfl rfl rfl) ?_
    refine fw_ic (cc := .gt) (pc := 90) (off := 15) (by decide +kernel) (by decide) ⟨by omega, by omega⟩ ⟨by omega, by omega⟩ (fun j2 => ?_) (fun j2 => ?_)
    · have j2 : m < (p2 - B) := j2
      refine gm_sz (gm_p_const (pc := 105) (i := .iconst (-1)) (v := gm_vi (-1)) (by decide +kernel) (by decide +kernel)) ?_
      refine gm_sz (gm_p_goto (pc := 106) (off := 5) (by decide +kernel) (by decide)) ?_
      exact gm_r_int (pc := 111) (by decide +kernel) (Or.inl (by decide +kernel)) (h0 (by omega) p2)
    · have j2 : ¬ m < (p2 - B) := j2
      refine gm_sz (gm_p_load (pc := 93) (i := .iload 4) (sr := 0) (j := 4) (by decide +kernel) rfl rfl rfl) ?_
      refine gm_sz (gm_p_load (pc := 95) (i := .iload_n 1) (sr := 0) (j := 1) (by decide +kernel) rfl rfl rfl) ?_
      refine fw_ic (cc := .lt) (pc := 96) (off := 9) (by decide +kernel) (by decide) ⟨by omega, by omega⟩ ⟨by omega, by omega⟩ (fun j3 => ?_) (fun j3 => ?_)
      · have j3 : v2 < lo := j3
        refine gm_sz (gm_p_const (pc := 105) (i := .iconst (-1)) (v := gm_vi (-1)) (by decide +kernel) (by decide +kernel)) ?_
        refine gm_sz (gm_p_goto (pc := 106) (off := 5) (by decide +kernel) (by decide)) ?_
        exact gm_r_int (pc := 111) (by decide +kernel) (Or.inl (by decide +kernel)) (h0 (by omega) p2)
      · have j3 : ¬ v2 < lo := j3
        refine gm_sz (gm_p_load (pc := 99) (i := .iload 4) (sr := 0) (j := 4) (by decide +kernel) rfl rfl rfl) ?_
        refine gm_sz (gm_p_load (pc := 101) (i := .iload_n 2) (sr := 0) (j := 2) (by decide +kernel) rfl rfl rfl) ?_
        refine fw_ic (cc := .le) (pc := 102) (off := 7) (by decide +kernel) (by decide) ⟨by omega, by omega⟩ ⟨by omega, by omega⟩ (fun j4 => ?_) (fun j4 => ?_)
        · have j4 : v2 ≤ hi := j4
          refine gm_sz (gm_p_load (pc := 109) (i := .iload 4) (sr := 0) (j := 4) (by decide +kernel) rfl rfl rfl) ?_
          have h1 := h1 (by omega)
          rw [show tx_v (M 231) e m B = v2 by omega, show tx_s (M 231) e B = p2 by omega] at h1
          exact gm_r_int (pc := 111) (by decide +kernel) (Or.inl (by decide +kernel)) h1
        · have j4 : ¬ v2 ≤ hi := j4
          refine gm_sz (gm_p_const (pc := 105) (i := .iconst (-1)) (v := gm_vi (-1)) (by decide +kernel) (by decide +kernel)) ?_
          refine gm_sz (gm_p_goto (pc := 106) (off := 5) (by decide +kernel) (by decide)) ?_
          exact gm_r_int (pc := 111) (by decide +kernel) (Or.inl (by decide +kernel)) (h0 (by omega) p2)
end RW
end
/-! 79j.rl -/
section
/-! THE REFERENCE'S READER OF A LAW, method by method (laid by wip/pp/p5r.py). -/
noncomputable def g_par (f : Int → Int) (e b : Int) : Bool × Int := tif (g_pt f e b) (true, tx_n f e b) (false, b)
theorem g_p1 {f : Int → Int} {e b : Int} (h : g_pt f e b) : g_par f e b = (true, tx_n f e b) := tif_t h
theorem g_p0 {f : Int → Int} {e b : Int} (h : ¬ g_pt f e b) : g_par f e b = (false, b) := tif_f h
theorem g_par_in {f : Int → Int} {e : Int} : g_in e (g_par f e) := by
  intro b h0 h1
  by_cases h : g_pt f e b
  · rw [g_p1 h]
    obtain ⟨a1, a2, a3⟩ := tx_nb (f := f) h1
    exact ⟨a1, a2, fun _ => a3 (g_pk h)⟩
  · rw [g_p0 h]
    exact ⟨Int.le_refl _, h1, fun h => by cases h⟩
section RL
variable {X : Int → Int} {LX d bc bs n : Nat} {K : gm_K} {R : gm_R} {M : gm_M} {Q : gm_Q} {e pt bg dp st b : Int} {W : Int → Int}
/-- a sum behind its first part: c is the token that stands there -/
noncomputable def g_sm (f : Int → Int) (e : Int) (t : Nat) (c : Int) : Bool × Int := tif (tx_k f e c = 43) (g_sum f e t (tx_n f e c)) (true, c)
noncomputable def g_am (f : Int → Int) (e : Int) (A : Int → Bool × Int) (t : Nat) (c : Int) : Bool × Int := tif (tx_is f e c wo_and) (g_all f e A t (tx_n f e c)) (true, c)
noncomputable def g_cm (f : Int → Int) (e : Int) (A : Int → Bool × Int) (t : Nat) (c : Int) : Bool × Int := tif (tx_is f e c wo_or) (g_cnd f e A t (tx_n f e c)) (true, c)
section GM
variable {f : Int → Int} {A : Int → Bool × Int} {t : Nat} {c : Int}
theorem g_sme (h : g_pt f e b) : g_sum f e (t + 1) b = g_sm f e t (tx_n f e b) := tif_t h
theorem g_sm0 (h : ¬ tx_k f e c = 43) : g_sm f e t c = (true, c) := tif_f h
theorem g_sm1 (h : tx_k f e c = 43) (h2 : ¬ g_pt f e (tx_n f e c)) : g_sm f e (t + 1) c = (false, tx_n f e c) := (tif_t h).trans (tif_f h2)
theorem g_sm2 (h : tx_k f e c = 43) (h2 : g_pt f e (tx_n f e c)) : g_sm f e (t + 1) c = g_sm f e t (tx_n f e (tx_n f e c)) := (tif_t h).trans (tif_t h2)
theorem g_ame (h : (A b).1 = true) : g_all f e A (t + 1) b = g_am f e A t (A b).2 := tif_t h
theorem g_am0 (h : ¬ tx_is f e c wo_and) : g_am f e A t c = (true, c) := tif_f h
theorem g_am1 (h : tx_is f e c wo_and) (h2 : ¬ (A (tx_n f e c)).1 = true) : g_am f e A (t + 1) c = A (tx_n f e c) := (tif_t h).trans (tif_f h2)
theorem g_am2 (h : tx_is f e c wo_and) (h2 : (A (tx_n f e c)).1 = true) : g_am f e A (t + 1) c = g_am f e A t (A (tx_n f e c)).2 := (tif_t h).trans (tif_t h2)
theorem g_cme (h : (g_all f e A 400 b).1 = true) : g_cnd f e A (t + 1) b = g_cm f e A t (g_all f e A 400 b).2 := tif_t h
theorem g_cm0 (h : ¬ tx_is f e c wo_or) : g_cm f e A t c = (true, c) := tif_f h
theorem g_cm1 (h : tx_is f e c wo_or) (h2 : ¬ (g_all f e A 400 (tx_n f e c)).1 = true) : g_cm f e A (t + 1) c = g_all f e A 400 (tx_n f e c) := (tif_t h).trans (tif_f h2)
theorem g_cm2 (h : tx_is f e c wo_or) (h2 : (g_all f e A 400 (tx_n f e c)).1 = true) : g_cm f e A (t + 1) c = g_cm f e A t (g_all f e A 400 (tx_n f e c)).2 := (tif_t h).trans (tif_t h2)
end GM
end RL
end
/-! 79k.rx -/
section
/-! THE REFERENCE'S READER OF A LAW: LINES, the whole text (laid by wip/pp/p5r.py). -/
section RX
variable {X : Int → Int} {LX d bc bs n : Nat} {K : gm_K} {R : gm_R} {M : gm_M} {Q : gm_Q} {e pt bg dp st b ln : Int} {W : Int → Int}
theorem tr_c247x (hd : 32 ≤ d) (hE : tR n K R M e) (hp : 0 ≤ pt ∧ pt ≤ e) (hg : tx_g (M 231) e pt = b) (h0 : ∀ p2, Q (.inl (some (gm_vi 0))) n K R (rm M p2 b dp st W)) : gm_Wp X LX d bc bs 247 0 (gm_ent 247 [gm_vr 226, gm_vi 0, gm_vi 12]) [] n K R (rm M pt bg dp st W) Q := by
  obtain ⟨-, he0, he4⟩ := tRe hE
  obtain ⟨hg1, hg2, -⟩ := tx_gb (f := M 231) hp.2
  rw [hg] at hg1 hg2
  have hb : 0 ≤ b ∧ b ≤ e := ⟨by omega, hg2⟩
  refine gm_sz (gm_p_load (pc := 0) (i := .aload_n 0) (sr := 2) (j := 0) (by decide +kernel) rfl rfl rfl) ?_
  refine gm_c_virt (k := 226) (ci := 11) (mj := 248) (ix := 131) (pc := 1) (as := []) (st := []) (d' := d - 1) (bc' := 0) (bs' := 0) (by decide +kernel) (by decide +kernel) (by decide +kernel) (by decide +kernel) (tR226 hE).1 (tR226 hE).2 (by decide) (by decide +kernel) (show 0 = gm_na 248 by decide +kernel) fw_c0 (show 1 ≤ gm_ml 248 by decide +kernel) (Nat.le_of_ble_eq_true rfl) (by omega) (Nat.zero_le _) (Nat.zero_le _) ?_
  refine tr_c248 (by omega) hE hp hg ?_
  show gm_Wp X LX d _ _ 247 4 _ [] n K R _ Q
  have q2 : tx_g (M 231) e b = b := by rw [← hg]; exact tx_gi hp.2
  have g1 : 0 ≤ tx_r (tx_l (M 231)) e b ∧ tx_r (tx_l (M 231)) e b ≤ e := by have := tx_rb (q := tx_l (M 231)) (e := e) _ b rfl hb.2; omega
  refine gm_sz (gm_p_load (pc := 4) (i := .iload_n 2) (sr := 0) (j := 2) (by decide +kernel) rfl rfl rfl) ?_
  refine gm_sz (gm_p_load (pc := 5) (i := .iload_n 1) (sr := 0) (j := 1) (by decide +kernel) rfl rfl rfl) ?_
  refine fw_iftd (cc := .eq) (pc := 6) (off := 8) (by decide +kernel) (by decide) ⟨by decide, by decide⟩ (by decide) ?_
  refine gm_sz (gm_p_const (pc := 14) (i := .bipush 12) (v := gm_vi 12) (by decide +kernel) (by decide +kernel)) ?_
  refine fw_ictd (cc := .ge) (pc := 16) (off := 29) (by decide +kernel) (by decide) ⟨by decide, by decide⟩ ⟨by decide, by decide⟩ (by decide) ?_
  refine gm_sz (gm_p_const (pc := 45) (i := .iconst 0) (v := gm_vi 0) (by decide +kernel) (by decide +kernel)) ?_
  exact gm_r_int (pc := 46) (by decide +kernel) (Or.inr ⟨(by decide +kernel), Or.inl rfl⟩) (h0 _)
end RX
end
/-! 79l.lv -/
section
/-! THE CLASS'S law() tells the number of lines: thirteen rows of each, a number of lines each. -/
section LV
variable {X : Int → Int} {LX : Nat} {Q : gm_Q}
theorem g_txt_b {f : Int → Int} {e : Int} : ∀ (t : Nat) (b : Int), 0 ≤ b → b ≤ e → t ≤ 12 → 0 ≤ (g_txt f e t b).2 ∧ ((g_txt f e t b).1 = true → (g_txt f e t b).2 ≤ 12) ∧ (¬ (g_txt f e t b).1 = true → (g_txt f e t b).2 ≤ e) := by
  intro t
  induction t with
  | zero => exact fun b h0 h1 _ => ⟨h0, (fun h => by cases h), fun _ => h1⟩
  | succ t ih =>
    intro b h0 h1 ht
    obtain ⟨a1, a2⟩ := g_line_in (f := f) h0 h1
    by_cases h : (g_line f e b).1 = true
    · by_cases h2 : tx_k f e (g_line f e b).2 = 256
      · rw [g_t1 h h2]
        exact ⟨by show 0 ≤ 12 - (t : Int); omega, (fun _ => by show 12 - (t : Int) ≤ 12; omega), fun h => absurd rfl h⟩
      · by_cases h3 : tx_k f e (g_line f e b).2 = 59
        · rw [g_t3 h h2 h3]
          obtain ⟨n1, n2, -⟩ := tx_nb (f := f) a2
          exact ih _ (by omega) n2 (by omega)
        · rw [g_t2 h h2 h3]
          exact ⟨by show 0 ≤ (g_line f e b).2; omega, (fun h => by cases h), fun _ => a2⟩
    · rw [g_t0 h]
      exact ⟨by show 0 ≤ (g_line f e b).2; omega, (fun h => by cases h), fun _ => a2⟩
theorem g_law_b {f : Int → Int} {e : Int} (h0 : 0 ≤ e) : 0 ≤ (g_law f e).2 ∧ ((g_law f e).1 = true → (g_law f e).2 ≤ 12) ∧ (¬ (g_law f e).1 = true → (g_law f e).2 ≤ e) := by
  obtain ⟨a1, a2, -⟩ := tx_gb (f := f) h0
  by_cases h : tx_k f e (tx_g f e 0) = 256
  · rw [g_w0 h]
    exact ⟨Int.le_refl _, (fun _ => by decide), fun h => absurd rfl h⟩
  · rw [g_w1 h]
    exact g_txt_b 12 _ a1 a2 (by decide)
end LV
end
/-! 79m.lr -/
section
/-! THE REFERENCE'S law() tells what the grammar tells. -/
section LR
variable {X : Int → Int} {LX : Nat} {Q : gm_Q}
end LR
end
/-! 79n.fd -/
section
/-! FEED: the bytes that both lay behind the TAPE (laid by wip/pp/p5f.py). -/
theorem fw_div {a b : Int} (h : 0 ≤ a) (h2 : a < 2147483648) (hb : 0 < b ∧ b < 2147483648) : gm_div a b = a / b := by
  unfold gm_div
  rw [gm_w_id (by omega) h2, gm_w_id (by omega) hb.2, Int.tdiv_eq_ediv_of_nonneg h]
theorem fw_rem {a b : Int} (h : 0 ≤ a) (h2 : a < 2147483648) (hb : 0 < b ∧ b < 2147483648) : gm_rem a b = a % b := by
  unfold gm_rem
  rw [gm_w_id (by omega) h2, gm_w_id (by omega) hb.2, Int.tmod_eq_emod_of_nonneg h]
/-- the byte r of an int, the highest first -/
noncomputable def fb (x r : Int) : Int := gm_wb (gm_w x / (if r = 0 then 16777216 else if r = 1 then 65536 else if r = 2 then 256 else 1))
theorem wb_wb {x : Int} : gm_wb (gm_wb x) = gm_wb x := by unfold gm_wb; omega
theorem fb_ir {x r : Int} : -128 ≤ fb x r ∧ fb x r ≤ 127 := by unfold fb gm_wb; omega
theorem fb_sh {x s p : Int} {k : Nat} (hs : ((Int32.ofInt s &&& 31).toBitVec.smod 32).toNat = k) (hp : (2 : Int) ^ k = p) : gm_shr x s = gm_w x / p := by
  unfold gm_shr
  rw [pk_shr _ _ k hs, Int.shiftRight_eq_div_pow, gm_w_toInt]
  congr 1
theorem fb_us {x s p : Int} {k : Nat} (hs : (((Int32.ofInt s).toUInt32 &&& Int32.toUInt32 31).toBitVec % 32).toNat = k) (hp : 2 ^ k = p.toNat) (hp0 : 0 ≤ p) : ∃ N : Int, (N = gm_w x ∨ N = gm_w x + 4294967296) ∧ (gm_ushr x s = N / p ∨ gm_ushr x s = N / p - 4294967296) := by
  have h1 := pk_ushr (Int32.ofInt x) (Int32.ofInt s) k hs
  refine ⟨((Int32.ofInt x).toBitVec.toNat : Int), ?_, ?_⟩
  · rw [← gm_w_toInt]
    show _ = (Int32.ofInt x).toBitVec.toInt ∨ _ = (Int32.ofInt x).toBitVec.toInt + 4294967296
    rw [BitVec.toInt_eq_toNat_cond]
    split <;> omega
  · unfold gm_ushr
    generalize ((Int32.ofInt x).toUInt32 >>> ((Int32.ofInt s).toUInt32 &&& Int32.toUInt32 31)).toInt32 = y at h1 ⊢
    have h2 : ((y.toBitVec.toNat : Nat) : Int) = ((Int32.ofInt x).toBitVec.toNat : Int) / p := by
      rw [h1, hp, Int.natCast_ediv, Int.toNat_of_nonneg hp0]
    show y.toBitVec.toInt = _ ∨ y.toBitVec.toInt = _
    rw [BitVec.toInt_eq_toNat_cond]
    split <;> omega
theorem fb0s {x : Int} : gm_wb (gm_shr x 24) = fb x 0 := by
  rw [fb_sh (s := 24) (p := 16777216) (k := 24) (by decide) (by decide)]
  rfl
theorem fb0u {x : Int} : gm_wb (gm_ushr x 24) = fb x 0 := by
  rw [← fb0s, fb_sh (s := 24) (p := 16777216) (k := 24) (by decide) (by decide)]
  obtain ⟨N, h1, h2⟩ := fb_us (x := x) (s := 24) (p := 16777216) (k := 24) (by decide) (by decide) (by decide)
  have := gm_w_lo x
  have := gm_w_hi x
  unfold gm_wb
  rcases h1 with h1 | h1 <;> rcases h2 with h2 | h2 <;> rw [h2] <;> subst h1 <;> omega
theorem fb1s {x : Int} : gm_wb (gm_shr x 16) = fb x 1 := by
  rw [fb_sh (s := 16) (p := 65536) (k := 16) (by decide) (by decide)]
  rfl
theorem fb1u {x : Int} : gm_wb (gm_ushr x 16) = fb x 1 := by
  rw [← fb1s, fb_sh (s := 16) (p := 65536) (k := 16) (by decide) (by decide)]
  obtain ⟨N, h1, h2⟩ := fb_us (x := x) (s := 16) (p := 65536) (k := 16) (by decide) (by decide) (by decide)
  have := gm_w_lo x
  have := gm_w_hi x
  unfold gm_wb
  rcases h1 with h1 | h1 <;> rcases h2 with h2 | h2 <;> rw [h2] <;> subst h1 <;> omega
theorem fb2s {x : Int} : gm_wb (gm_shr x 8) = fb x 2 := by
  rw [fb_sh (s := 8) (p := 256) (k := 8) (by decide) (by decide)]
  rfl
theorem fb2u {x : Int} : gm_wb (gm_ushr x 8) = fb x 2 := by
  rw [← fb2s, fb_sh (s := 8) (p := 256) (k := 8) (by decide) (by decide)]
  obtain ⟨N, h1, h2⟩ := fb_us (x := x) (s := 8) (p := 256) (k := 8) (by decide) (by decide) (by decide)
  have := gm_w_lo x
  have := gm_w_hi x
  unfold gm_wb
  rcases h1 with h1 | h1 <;> rcases h2 with h2 | h2 <;> rw [h2] <;> subst h1 <;> omega
theorem fb3s {x : Int} : gm_wb (gm_shr x 0) = fb x 3 := by
  rw [fb_sh (s := 0) (p := 1) (k := 0) (by decide) (by decide)]
  rfl
theorem fb3u {x : Int} : gm_wb (gm_ushr x 0) = fb x 3 := by
  rw [← fb3s, fb_sh (s := 0) (p := 1) (k := 0) (by decide) (by decide)]
  obtain ⟨N, h1, h2⟩ := fb_us (x := x) (s := 0) (p := 1) (k := 0) (by decide) (by decide) (by decide)
  have := gm_w_lo x
  have := gm_w_hi x
  unfold gm_wb
  rcases h1 with h1 | h1 <;> rcases h2 with h2 | h2 <;> rw [h2] <;> subst h1 <;> omega
/-- k bytes of the numbers a behind t -/
noncomputable def fdc (a : Int → Int) (t k : Int) (f : Int → Int) : Int → Int := fun i => if t ≤ i ∧ i < t + k then fb (a ((i - t) / 4)) ((i - t) % 4) else f i
theorem fdc_0 {a f : Int → Int} {t : Int} : fdc a t 0 f = f := by
  funext i
  unfold fdc
  rw [if_neg (by omega)]
theorem fdc_s {a f : Int → Int} {t k v : Int} (hk : 0 ≤ k) (hv : v = fb (a (k / 4)) (k % 4)) : (fun i => if i = t + k then v else fdc a t k f i) = fdc a t (k + 1) f := by
  funext i
  unfold fdc
  by_cases h : i = t + k
  · rw [if_pos h, if_pos (by omega), hv, show i - t = k by omega]
  · rw [if_neg h]
    by_cases h2 : t ≤ i ∧ i < t + k
    · rw [if_pos h2, if_pos (by omega)]
    · rw [if_neg h2, if_neg (by omega)]
/-- the class's TAPE: how long, the bytes -/
noncomputable def fe (M : gm_M) (t : Int) (F : Int → Int) : gm_M := fun a j => if a = 1 ∧ j = 1 then t else if a = 2 then F j else M a j
section FD
variable {X : Int → Int} {LX d bc bs n : Nat} {K : gm_K} {R : gm_R} {M : gm_M} {Q : gm_Q} {t m x T : Int} {a f F : Int → Int}
theorem fe_1 : fe M T F 1 ((1 : Nat) : Int) = T := by unfold fe; rw [if_pos ⟨rfl, rfl⟩]
theorem fe_t : gm_uM (fe M T F) 1 ((1 : Nat) : Int) x = fe M x F := by
  funext b j
  by_cases h1 : b = 1 <;> by_cases h2 : j = 1 <;> simp [gm_uM, fe, h1, h2]
theorem fe_p {j : Int} : gm_uM (fe M T F) 2 j x = fe M T (fun i => if i = j then x else F i) := by
  funext b i
  by_cases h1 : b = 2 <;> by_cases h2 : i = j <;> simp [gm_uM, fe, h1, h2]
theorem fe_put {e k k2 v : Int} (he : e = t + k) (hk2 : k2 = k + 1) (hk : 0 ≤ k) (hv : v = fb (a (k / 4)) (k % 4)) : gm_uM (fe M T (fdc a t k f)) 2 e v = fe M T (fdc a t k2 f) := by
  rw [fe_p, he, hk2, fdc_s hk hv]
theorem fb0 (h0 : 0 ≤ m) (h4 : m ≤ 4) : gm_wb (gm_ushr (a m) 24) = fb (a ((4 * m + 0) / 4)) ((4 * m + 0) % 4) := by
  rw [fb0u, show (4 * m + 0) / 4 = m by omega, show (4 * m + 0) % 4 = 0 by omega]
theorem fb1 (h0 : 0 ≤ m) (h4 : m ≤ 4) : gm_wb (gm_ushr (a m) 16) = fb (a ((4 * m + 1) / 4)) ((4 * m + 1) % 4) := by
  rw [fb1u, show (4 * m + 1) / 4 = m by omega, show (4 * m + 1) % 4 = 1 by omega]
theorem fb2 (h0 : 0 ≤ m) (h4 : m ≤ 4) : gm_wb (gm_ushr (a m) 8) = fb (a ((4 * m + 2) / 4)) ((4 * m + 2) % 4) := by
  rw [fb2u, show (4 * m + 2) / 4 = m by omega, show (4 * m + 2) % 4 = 2 by omega]
theorem fb3 (h0 : 0 ≤ m) (h4 : m ≤ 4) : gm_wb (gm_ushr (a m) 0) = fb (a ((4 * m + 3) / 4)) ((4 * m + 3) % 4) := by
  rw [fb3u, show (4 * m + 3) / 4 = m by omega, show (4 * m + 3) % 4 = 3 by omega]
theorem fd_c20 (hk1 : (1 ≤ 1 ∧ 1 ≤ n) ∧ (K 1).1 = 0 + 4) (e2 : (1 ≤ 2 ∧ 2 ≤ n) ∧ K 2 = (1, 400)) (hr : R 1 ((0 : Nat) : Int) = 2) (ht : 0 ≤ t ∧ t + 20 ≤ 400) (hm : 0 ≤ m ∧ m ≤ 4) (hq : Q (.inl none) n K R (fe M (t + (4 * m + 4)) (fdc a t (4 * m + 4) f))) : gm_Wp X LX d bc bs 20 0 (gm_ent 20 [gm_vr 1, gm_vi (a m)]) [] n K R (fe M (t + (4 * m + 0)) (fdc a t (4 * m + 0) f)) Q := by
  refine gm_sz (gm_p_const (pc := 0) (i := .bipush 24) (v := gm_vi 24) (by decide +kernel) (by decide +kernel)) ?_
  refine gm_sz (gm_p_stor (pc := 2) (i := .istore_n 2) (sr := 0) (j := 2) (by decide +kernel) rfl (show 3 ≤ _ from Nat.le_of_ble_eq_true rfl) rfl) ?_
  refine gm_sz (gm_p_load (pc := 3) (i := .iload_n 2) (sr := 0) (j := 2) (by decide +kernel) rfl rfl rfl) ?_
  refine fw_iffd (cc := .lt) (pc := 4) (off := 44) (by decide +kernel) (by decide) ⟨by decide, by decide⟩ (by decide) ?_
  refine gm_sz (gm_p_load (pc := 7) (i := .aload_n 0) (sr := 2) (j := 0) (by decide +kernel) rfl rfl rfl) ?_
  refine gm_sz (fw_gi (pc := 8) (ix := 13) (ci := 0) (j := 1) (x := t + (4 * m + 0)) (by decide +kernel) hk1 (by decide +kernel) (by decide +kernel) fe_1) ?_
  refine gm_sz (gm_p_load (pc := 11) (i := .aload_n 0) (sr := 2) (j := 0) (by decide +kernel) rfl rfl rfl) ?_
  refine gm_sz (fw_gr (pc := 12) (ix := 9) (ci := 0) (j := 0) (r := 2) (by decide +kernel) hk1 (by decide +kernel) (by decide +kernel) hr) ?_
  refine gm_sz (fw_al (pc := 15) (k := 2) (len := 400) (by decide +kernel) (e2 : (1 ≤ 2 ∧ 2 ≤ n) ∧ K 2 = (1, 400)).1 (e2 : (1 ≤ 2 ∧ 2 ≤ n) ∧ K 2 = (1, 400)).2 (by decide)) ?_
  refine fw_icf (cc := .ge) (pc := 16) (off := 26) (by decide +kernel) (by decide) ⟨by omega, by omega⟩ ⟨by decide, by decide⟩ (show ¬ 400 ≤ (t + (4 * m + 0)) by omega) ?_
  refine gm_sz (gm_p_load (pc := 19) (i := .aload_n 0) (sr := 2) (j := 0) (by decide +kernel) rfl rfl rfl) ?_
  refine gm_sz (fw_gr (pc := 20) (ix := 9) (ci := 0) (j := 0) (r := 2) (by decide +kernel) hk1 (by decide +kernel) (by decide +kernel) hr) ?_
  refine gm_sz (gm_p_load (pc := 23) (i := .aload_n 0) (sr := 2) (j := 0) (by decide +kernel) rfl rfl rfl) ?_
  refine gm_sz (fw_gi (pc := 24) (ix := 13) (ci := 0) (j := 1) (x := t + (4 * m + 0)) (by decide +kernel) hk1 (by decide +kernel) (by decide +kernel) fe_1) ?_
  refine gm_sz (gm_p_load (pc := 27) (i := .iload_n 1) (sr := 0) (j := 1) (by decide +kernel) rfl rfl rfl) ?_
  refine gm_sz (gm_p_load (pc := 28) (i := .iload_n 2) (sr := 0) (j := 2) (by decide +kernel) rfl rfl rfl) ?_
  refine gm_sz (gm_p_bin (pc := 29) (i := .iushr) (f := gm_ushr) (by decide +kernel) rfl) ?_
  refine gm_sz (gm_p_un (pc := 30) (i := .i2b) (f := fun x => gm_wb x) (by decide +kernel) rfl) ?_
  refine gm_sz (fw_bs (pc := 31) (k := 2) (len := 400) (e0 := t + (4 * m + 0)) (x := gm_wb (gm_ushr (a m) 24)) (M' := fe M (t + (4 * m + 0)) (fdc a t (4 * m + 1) f)) (by decide +kernel) (e2 : (1 ≤ 2 ∧ 2 ≤ n) ∧ K 2 = (1, 400)).1 (e2 : (1 ≤ 2 ∧ 2 ≤ n) ∧ K 2 = (1, 400)).2 (by decide) ⟨by omega, by omega⟩ (fe_put (k := 4 * m + 0) rfl (by omega) (by omega) (wb_wb.trans (fb0 (by omega) (by omega))))) ?_
  refine gm_sz (gm_p_load (pc := 32) (i := .aload_n 0) (sr := 2) (j := 0) (by decide +kernel) rfl rfl rfl) ?_
  refine gm_sz (gm_p_dup (pc := 33) (by decide +kernel) fw_sr) ?_
  refine gm_sz (fw_gi (pc := 34) (ix := 13) (ci := 0) (j := 1) (x := t + (4 * m + 0)) (by decide +kernel) hk1 (by decide +kernel) (by decide +kernel) fe_1) ?_
  refine gm_sz (gm_p_const (pc := 37) (i := .iconst 1) (v := gm_vi 1) (by decide +kernel) (by decide +kernel)) ?_
  refine gm_sz (gm_p_bin (pc := 38) (i := .iadd) (f := fun x y => x + y) (by decide +kernel) rfl) ?_
  refine gm_sz (fw_pi (pc := 39) (ix := 13) (ci := 0) (j := 1) (M' := fe M (t + (4 * m + 1)) (fdc a t (4 * m + 1) f)) (by decide +kernel) hk1 (by decide +kernel) (by decide +kernel) (by decide +kernel) (fe_t.trans (congrArg (fun z => fe M z _) (show t + (4 * m + 0) + 1 = t + (4 * m + 1) by omega)))) ?_
  refine gm_sz (gm_p_iinc (pc := 42) (j := 2) (z := (-8)) (by decide +kernel) rfl) ?_
  refine gm_sz (gm_p_goto (pc := 45) (off := (-42)) (by decide +kernel) (by decide)) ?_
  refine gm_sz (gm_p_load (pc := 3) (i := .iload_n 2) (sr := 0) (j := 2) (by decide +kernel) rfl rfl rfl) ?_
  refine fw_iffd (cc := .lt) (pc := 4) (off := 44) (by decide +kernel) (by decide) ⟨by decide, by decide⟩ (by decide) ?_
  refine gm_sz (gm_p_load (pc := 7) (i := .aload_n 0) (sr := 2) (j := 0) (by decide +kernel) rfl rfl rfl) ?_
  refine gm_sz (fw_gi (pc := 8) (ix := 13) (ci := 0) (j := 1) (x := t + (4 * m + 1)) (by decide +kernel) hk1 (by decide +kernel) (by decide +kernel) fe_1) ?_
  refine gm_sz (gm_p_load (pc := 11) (i := .aload_n 0) (sr := 2) (j := 0) (by decide +kernel) rfl rfl rfl) ?_
  refine gm_sz (fw_gr (pc := 12) (ix := 9) (ci := 0) (j := 0) (r := 2) (by decide +kernel) hk1 (by decide +kernel) (by decide +kernel) hr) ?_
  refine gm_sz (fw_al (pc := 15) (k := 2) (len := 400) (by decide +kernel) (e2 : (1 ≤ 2 ∧ 2 ≤ n) ∧ K 2 = (1, 400)).1 (e2 : (1 ≤ 2 ∧ 2 ≤ n) ∧ K 2 = (1, 400)).2 (by decide)) ?_
  refine fw_icf (cc := .ge) (pc := 16) (off := 26) (by decide +kernel) (by decide) ⟨by omega, by omega⟩ ⟨by decide, by decide⟩ (show ¬ 400 ≤ (t + (4 * m + 1)) by omega) ?_
  refine gm_sz (gm_p_load (pc := 19) (i := .aload_n 0) (sr := 2) (j := 0) (by decide +kernel) rfl rfl rfl) ?_
  refine gm_sz (fw_gr (pc := 20) (ix := 9) (ci := 0) (j := 0) (r := 2) (by decide +kernel) hk1 (by decide +kernel) (by decide +kernel) hr) ?_
  refine gm_sz (gm_p_load (pc := 23) (i := .aload_n 0) (sr := 2) (j := 0) (by decide +kernel) rfl rfl rfl) ?_
  refine gm_sz (fw_gi (pc := 24) (ix := 13) (ci := 0) (j := 1) (x := t + (4 * m + 1)) (by decide +kernel) hk1 (by decide +kernel) (by decide +kernel) fe_1) ?_
  refine gm_sz (gm_p_load (pc := 27) (i := .iload_n 1) (sr := 0) (j := 1) (by decide +kernel) rfl rfl rfl) ?_
  refine gm_sz (gm_p_load (pc := 28) (i := .iload_n 2) (sr := 0) (j := 2) (by decide +kernel) rfl rfl rfl) ?_
  refine gm_sz (gm_p_bin (pc := 29) (i := .iushr) (f := gm_ushr) (by decide +kernel) rfl) ?_
  refine gm_sz (gm_p_un (pc := 30) (i := .i2b) (f := fun x => gm_wb x) (by decide +kernel) rfl) ?_
  refine gm_sz (fw_bs (pc := 31) (k := 2) (len := 400) (e0 := t + (4 * m + 1)) (x := gm_wb (gm_ushr (a m) 16)) (M' := fe M (t + (4 * m + 1)) (fdc a t (4 * m + 2) f)) (by decide +kernel) (e2 : (1 ≤ 2 ∧ 2 ≤ n) ∧ K 2 = (1, 400)).1 (e2 : (1 ≤ 2 ∧ 2 ≤ n) ∧ K 2 = (1, 400)).2 (by decide) ⟨by omega, by omega⟩ (fe_put (k := 4 * m + 1) rfl (by omega) (by omega) (wb_wb.trans (fb1 (by omega) (by omega))))) ?_
  refine gm_sz (gm_p_load (pc := 32) (i := .aload_n 0) (sr := 2) (j := 0) (by decide +kernel) rfl rfl rfl) ?_
  refine gm_sz (gm_p_dup (pc := 33) (by decide +kernel) fw_sr) ?_
  refine gm_sz (fw_gi (pc := 34) (ix := 13) (ci := 0) (j := 1) (x := t + (4 * m + 1)) (by decide +kernel) hk1 (by decide +kernel) (by decide +kernel) fe_1) ?_
  refine gm_sz (gm_p_const (pc := 37) (i := .iconst 1) (v := gm_vi 1) (by decide +kernel) (by decide +kernel)) ?_
  refine gm_sz (gm_p_bin (pc := 38) (i := .iadd) (f := fun x y => x + y) (by decide +kernel) rfl) ?_
  refine gm_sz (fw_pi (pc := 39) (ix := 13) (ci := 0) (j := 1) (M' := fe M (t + (4 * m + 2)) (fdc a t (4 * m + 2) f)) (by decide +kernel) hk1 (by decide +kernel) (by decide +kernel) (by decide +kernel) (fe_t.trans (congrArg (fun z => fe M z _) (show t + (4 * m + 1) + 1 = t + (4 * m + 2) by omega)))) ?_
  refine gm_sz (gm_p_iinc (pc := 42) (j := 2) (z := (-8)) (by decide +kernel) rfl) ?_
  refine gm_sz (gm_p_goto (pc := 45) (off := (-42)) (by decide +kernel) (by decide)) ?_
  refine gm_sz (gm_p_load (pc := 3) (i := .iload_n 2) (sr := 0) (j := 2) (by decide +kernel) rfl rfl rfl) ?_
  refine fw_iffd (cc := .lt) (pc := 4) (off := 44) (by decide +kernel) (by decide) ⟨by decide, by decide⟩ (by decide) ?_
  refine gm_sz (gm_p_load (pc := 7) (i := .aload_n 0) (sr := 2) (j := 0) (by decide +kernel) rfl rfl rfl) ?_
  refine gm_sz (fw_gi (pc := 8) (ix := 13) (ci := 0) (j := 1) (x := t + (4 * m + 2)) (by decide +kernel) hk1 (by decide +kernel) (by decide +kernel) fe_1) ?_
  refine gm_sz (gm_p_load (pc := 11) (i := .aload_n 0) (sr := 2) (j := 0) (by decide +kernel) rfl rfl rfl) ?_
  refine gm_sz (fw_gr (pc := 12) (ix := 9) (ci := 0) (j := 0) (r := 2) (by decide +kernel) hk1 (by decide +kernel) (by decide +kernel) hr) ?_
  refine gm_sz (fw_al (pc := 15) (k := 2) (len := 400) (by decide +kernel) (e2 : (1 ≤ 2 ∧ 2 ≤ n) ∧ K 2 = (1, 400)).1 (e2 : (1 ≤ 2 ∧ 2 ≤ n) ∧ K 2 = (1, 400)).2 (by decide)) ?_
  refine fw_icf (cc := .ge) (pc := 16) (off := 26) (by decide +kernel) (by decide) ⟨by omega, by omega⟩ ⟨by decide, by decide⟩ (show ¬ 400 ≤ (t + (4 * m + 2)) by omega) ?_
  refine gm_sz (gm_p_load (pc := 19) (i := .aload_n 0) (sr := 2) (j := 0) (by decide +kernel) rfl rfl rfl) ?_
  refine gm_sz (fw_gr (pc := 20) (ix := 9) (ci := 0) (j := 0) (r := 2) (by decide +kernel) hk1 (by decide +kernel) (by decide +kernel) hr) ?_
  refine gm_sz (gm_p_load (pc := 23) (i := .aload_n 0) (sr := 2) (j := 0) (by decide +kernel) rfl rfl rfl) ?_
  refine gm_sz (fw_gi (pc := 24) (ix := 13) (ci := 0) (j := 1) (x := t + (4 * m + 2)) (by decide +kernel) hk1 (by decide +kernel) (by decide +kernel) fe_1) ?_
  refine gm_sz (gm_p_load (pc := 27) (i := .iload_n 1) (sr := 0) (j := 1) (by decide +kernel) rfl rfl rfl) ?_
  refine gm_sz (gm_p_load (pc := 28) (i := .iload_n 2) (sr := 0) (j := 2) (by decide +kernel) rfl rfl rfl) ?_
  refine gm_sz (gm_p_bin (pc := 29) (i := .iushr) (f := gm_ushr) (by decide +kernel) rfl) ?_
  refine gm_sz (gm_p_un (pc := 30) (i := .i2b) (f := fun x => gm_wb x) (by decide +kernel) rfl) ?_
  refine gm_sz (fw_bs (pc := 31) (k := 2) (len := 400) (e0 := t + (4 * m + 2)) (x := gm_wb (gm_ushr (a m) 8)) (M' := fe M (t + (4 * m + 2)) (fdc a t (4 * m + 3) f)) (by decide +kernel) (e2 : (1 ≤ 2 ∧ 2 ≤ n) ∧ K 2 = (1, 400)).1 (e2 : (1 ≤ 2 ∧ 2 ≤ n) ∧ K 2 = (1, 400)).2 (by decide) ⟨by omega, by omega⟩ (fe_put (k := 4 * m + 2) rfl (by omega) (by omega) (wb_wb.trans (fb2 (by omega) (by omega))))) ?_
  refine gm_sz (gm_p_load (pc := 32) (i := .aload_n 0) (sr := 2) (j := 0) (by decide +kernel) rfl rfl rfl) ?_
  refine gm_sz (gm_p_dup (pc := 33) (by decide +kernel) fw_sr) ?_
  refine gm_sz (fw_gi (pc := 34) (ix := 13) (ci := 0) (j := 1) (x := t + (4 * m + 2)) (by decide +kernel) hk1 (by decide +kernel) (by decide +kernel) fe_1) ?_
  refine gm_sz (gm_p_const (pc := 37) (i := .iconst 1) (v := gm_vi 1) (by decide +kernel) (by decide +kernel)) ?_
  refine gm_sz (gm_p_bin (pc := 38) (i := .iadd) (f := fun x y => x + y) (by decide +kernel) rfl) ?_
  refine gm_sz (fw_pi (pc := 39) (ix := 13) (ci := 0) (j := 1) (M' := fe M (t + (4 * m + 3)) (fdc a t (4 * m + 3) f)) (by decide +kernel) hk1 (by decide +kernel) (by decide +kernel) (by decide +kernel) (fe_t.trans (congrArg (fun z => fe M z _) (show t + (4 * m + 2) + 1 = t + (4 * m + 3) by omega)))) ?_
  refine gm_sz (gm_p_iinc (pc := 42) (j := 2) (z := (-8)) (by decide +kernel) rfl) ?_
  refine gm_sz (gm_p_goto (pc := 45) (off := (-42)) (by decide +kernel) (by decide)) ?_
  refine gm_sz (gm_p_load (pc := 3) (i := .iload_n 2) (sr := 0) (j := 2) (by decide +kernel) rfl rfl rfl) ?_
  refine fw_iffd (cc := .lt) (pc := 4) (off := 44) (by decide +kernel) (by decide) ⟨by decide, by decide⟩ (by decide) ?_
  refine gm_sz (gm_p_load (pc := 7) (i := .aload_n 0) (sr := 2) (j := 0) (by decide +kernel) rfl rfl rfl) ?_
  refine gm_sz (fw_gi (pc := 8) (ix := 13) (ci := 0) (j := 1) (x := t + (4 * m + 3)) (by decide +kernel) hk1 (by decide +kernel) (by decide +kernel) fe_1) ?_
  refine gm_sz (gm_p_load (pc := 11) (i := .aload_n 0) (sr := 2) (j := 0) (by decide +kernel) rfl rfl rfl) ?_
  refine gm_sz (fw_gr (pc := 12) (ix := 9) (ci := 0) (j := 0) (r := 2) (by decide +kernel) hk1 (by decide +kernel) (by decide +kernel) hr) ?_
  refine gm_sz (fw_al (pc := 15) (k := 2) (len := 400) (by decide +kernel) (e2 : (1 ≤ 2 ∧ 2 ≤ n) ∧ K 2 = (1, 400)).1 (e2 : (1 ≤ 2 ∧ 2 ≤ n) ∧ K 2 = (1, 400)).2 (by decide)) ?_
  refine fw_icf (cc := .ge) (pc := 16) (off := 26) (by decide +kernel) (by decide) ⟨by omega, by omega⟩ ⟨by decide, by decide⟩ (show ¬ 400 ≤ (t + (4 * m + 3)) by omega) ?_
  refine gm_sz (gm_p_load (pc := 19) (i := .aload_n 0) (sr := 2) (j := 0) (by decide +kernel) rfl rfl rfl) ?_
  refine gm_sz (fw_gr (pc := 20) (ix := 9) (ci := 0) (j := 0) (r := 2) (by decide +kernel) hk1 (by decide +kernel) (by decide +kernel) hr) ?_
  refine gm_sz (gm_p_load (pc := 23) (i := .aload_n 0) (sr := 2) (j := 0) (by decide +kernel) rfl rfl rfl) ?_
  refine gm_sz (fw_gi (pc := 24) (ix := 13) (ci := 0) (j := 1) (x := t + (4 * m + 3)) (by decide +kernel) hk1 (by decide +kernel) (by decide +kernel) fe_1) ?_
  refine gm_sz (gm_p_load (pc := 27) (i := .iload_n 1) (sr := 0) (j := 1) (by decide +kernel) rfl rfl rfl) ?_
  refine gm_sz (gm_p_load (pc := 28) (i := .iload_n 2) (sr := 0) (j := 2) (by decide +kernel) rfl rfl rfl) ?_
  refine gm_sz (gm_p_bin (pc := 29) (i := .iushr) (f := gm_ushr) (by decide +kernel) rfl) ?_
  refine gm_sz (gm_p_un (pc := 30) (i := .i2b) (f := fun x => gm_wb x) (by decide +kernel) rfl) ?_
  refine gm_sz (fw_bs (pc := 31) (k := 2) (len := 400) (e0 := t + (4 * m + 3)) (x := gm_wb (gm_ushr (a m) 0)) (M' := fe M (t + (4 * m + 3)) (fdc a t (4 * m + 4) f)) (by decide +kernel) (e2 : (1 ≤ 2 ∧ 2 ≤ n) ∧ K 2 = (1, 400)).1 (e2 : (1 ≤ 2 ∧ 2 ≤ n) ∧ K 2 = (1, 400)).2 (by decide) ⟨by omega, by omega⟩ (fe_put (k := 4 * m + 3) rfl (by omega) (by omega) (wb_wb.trans (fb3 (by omega) (by omega))))) ?_
  refine gm_sz (gm_p_load (pc := 32) (i := .aload_n 0) (sr := 2) (j := 0) (by decide +kernel) rfl rfl rfl) ?_
  refine gm_sz (gm_p_dup (pc := 33) (by decide +kernel) fw_sr) ?_
  refine gm_sz (fw_gi (pc := 34) (ix := 13) (ci := 0) (j := 1) (x := t + (4 * m + 3)) (by decide +kernel) hk1 (by decide +kernel) (by decide +kernel) fe_1) ?_
  refine gm_sz (gm_p_const (pc := 37) (i := .iconst 1) (v := gm_vi 1) (by decide +kernel) (by decide +kernel)) ?_
  refine gm_sz (gm_p_bin (pc := 38) (i := .iadd) (f := fun x y => x + y) (by decide +kernel) rfl) ?_
  refine gm_sz (fw_pi (pc := 39) (ix := 13) (ci := 0) (j := 1) (M' := fe M (t + (4 * m + 4)) (fdc a t (4 * m + 4) f)) (by decide +kernel) hk1 (by decide +kernel) (by decide +kernel) (by decide +kernel) (fe_t.trans (congrArg (fun z => fe M z _) (show t + (4 * m + 3) + 1 = t + (4 * m + 4) by omega)))) ?_
  refine gm_sz (gm_p_iinc (pc := 42) (j := 2) (z := (-8)) (by decide +kernel) rfl) ?_
  refine gm_sz (gm_p_goto (pc := 45) (off := (-42)) (by decide +kernel) (by decide)) ?_
  refine gm_sz (gm_p_load (pc := 3) (i := .iload_n 2) (sr := 0) (j := 2) (by decide +kernel) rfl rfl rfl) ?_
  refine fw_iftd (cc := .lt) (pc := 4) (off := 44) (by decide +kernel) (by decide) ⟨by decide, by decide⟩ (by decide) ?_
  exact gm_r_void (pc := 48) (by decide +kernel) (by decide +kernel) hq
theorem fd_c19 (hd : 1 ≤ d) (hk1 : (1 ≤ 1 ∧ 1 ≤ n) ∧ (K 1).1 = 0 + 4) (e2 : (1 ≤ 2 ∧ 2 ≤ n) ∧ K 2 = (1, 400)) (hr : R 1 ((0 : Nat) : Int) = 2) (ht : 0 ≤ t ∧ t ≤ 400) (h0 : 381 ≤ t → Q (.inl (some (gm_vi (-1)))) n K R (fe M t f)) (h1 : t ≤ 380 → Q (.inl (some (gm_vi (t + 20)))) n K R (fe M (t + 20) (fdc a t 20 f))) : gm_Wp X LX d bc bs 19 0 (gm_ent 19 [gm_vr 1, gm_vi (a 0), gm_vi (a 1), gm_vi (a 2), gm_vi (a 3), gm_vi (a 4)]) [] n K R (fe M t f) Q := by
  refine gm_sz (gm_p_load (pc := 0) (i := .aload_n 0) (sr := 2) (j := 0) (by decide +kernel) rfl rfl rfl) ?_
  refine gm_sz (fw_gi (pc := 1) (ix := 13) (ci := 0) (j := 1) (x := t) (by decide +kernel) hk1 (by decide +kernel) (by decide +kernel) fe_1) ?_
  refine gm_sz (gm_p_const (pc := 4) (i := .bipush 20) (v := gm_vi 20) (by decide +kernel) (by decide +kernel)) ?_
  refine gm_sz (gm_p_bin (pc := 6) (i := .iadd) (f := fun x y => x + y) (by decide +kernel) rfl) ?_
  refine gm_sz (gm_p_const (pc := 7) (i := .sipush 400) (v := gm_vi 400) (by decide +kernel) (by decide +kernel)) ?_
  refine fw_ic (cc := .le) (pc := 10) (off := 5) (by decide +kernel) (by decide) ⟨by omega, by omega⟩ ⟨by decide, by decide⟩ (fun j1 => ?_) (fun j1 => ?_)
  · have j1 : (t + 20) ≤ 400 := j1
    refine gm_sz (gm_p_load (pc := 15) (i := .aload_n 0) (sr := 2) (j := 0) (by decide +kernel) rfl rfl rfl) ?_
    refine gm_sz (gm_p_load (pc := 16) (i := .iload_n 1) (sr := 0) (j := 1) (by decide +kernel) rfl rfl rfl) ?_
    rw [show fe M t f = fe M (t + (4 * 0 + 0)) (fdc a t (4 * 0 + 0) f) by rw [show (4 * 0 + 0 : Int) = 0 by decide, fdc_0, Int.add_zero]]
    refine gm_c_virt (k := 1) (ci := 0) (mj := 20) (ix := 110) (pc := 17) (as := [gm_vi (a 0)]) (st := []) (d' := d - 1) (bc' := 0) (bs' := 0) (by decide +kernel) (by decide +kernel) (by decide +kernel) (by decide +kernel) hk1.1 hk1.2 (by decide) (by decide +kernel) (show 1 = gm_na 20 by decide +kernel) (fw_c1 fw_si) (show 2 ≤ gm_ml 20 by decide +kernel) (Nat.le_of_ble_eq_true rfl) (by omega) (Nat.zero_le _) (Nat.zero_le _) ?_
    refine fd_c20 (t := t) (m := 0) (a := a) (f := f) hk1 e2 hr ⟨by omega, by omega⟩ (by decide) ?_
    show gm_Wp X LX d _ _ 19 20 _ [] n K R _ Q
    refine gm_sz (gm_p_load (pc := 20) (i := .aload_n 0) (sr := 2) (j := 0) (by decide +kernel) rfl rfl rfl) ?_
    refine gm_sz (gm_p_load (pc := 21) (i := .iload_n 2) (sr := 0) (j := 2) (by decide +kernel) rfl rfl rfl) ?_
    refine gm_c_virt (k := 1) (ci := 0) (mj := 20) (ix := 110) (pc := 22) (as := [gm_vi (a 1)]) (st := []) (d' := d - 1) (bc' := 0) (bs' := 0) (by decide +kernel) (by decide +kernel) (by decide +kernel) (by decide +kernel) hk1.1 hk1.2 (by decide) (by decide +kernel) (show 1 = gm_na 20 by decide +kernel) (fw_c1 fw_si) (show 2 ≤ gm_ml 20 by decide +kernel) (Nat.le_of_ble_eq_true rfl) (by omega) (Nat.zero_le _) (Nat.zero_le _) ?_
    refine fd_c20 (t := t) (m := 1) (a := a) (f := f) hk1 e2 hr ⟨by omega, by omega⟩ (by decide) ?_
    show gm_Wp X LX d _ _ 19 25 _ [] n K R _ Q
    refine gm_sz (gm_p_load (pc := 25) (i := .aload_n 0) (sr := 2) (j := 0) (by decide +kernel) rfl rfl rfl) ?_
    refine gm_sz (gm_p_load (pc := 26) (i := .iload_n 3) (sr := 0) (j := 3) (by decide +kernel) rfl rfl rfl) ?_
    refine gm_c_virt (k := 1) (ci := 0) (mj := 20) (ix := 110) (pc := 27) (as := [gm_vi (a 2)]) (st := []) (d' := d - 1) (bc' := 0) (bs' := 0) (by decide +kernel) (by decide +kernel) (by decide +kernel) (by decide +kernel) hk1.1 hk1.2 (by decide) (by decide +kernel) (show 1 = gm_na 20 by decide +kernel) (fw_c1 fw_si) (show 2 ≤ gm_ml 20 by decide +kernel) (Nat.le_of_ble_eq_true rfl) (by omega) (Nat.zero_le _) (Nat.zero_le _) ?_
    refine fd_c20 (t := t) (m := 2) (a := a) (f := f) hk1 e2 hr ⟨by omega, by omega⟩ (by decide) ?_
    show gm_Wp X LX d _ _ 19 30 _ [] n K R _ Q
    refine gm_sz (gm_p_load (pc := 30) (i := .aload_n 0) (sr := 2) (j := 0) (by decide +kernel) rfl rfl rfl) ?_
    refine gm_sz (gm_p_load (pc := 31) (i := .iload 4) (sr := 0) (j := 4) (by decide +kernel) rfl rfl rfl) ?_
    refine gm_c_virt (k := 1) (ci := 0) (mj := 20) (ix := 110) (pc := 33) (as := [gm_vi (a 3)]) (st := []) (d' := d - 1) (bc' := 0) (bs' := 0) (by decide +kernel) (by decide +kernel) (by decide +kernel) (by decide +kernel) hk1.1 hk1.2 (by decide) (by decide +kernel) (show 1 = gm_na 20 by decide +kernel) (fw_c1 fw_si) (show 2 ≤ gm_ml 20 by decide +kernel) (Nat.le_of_ble_eq_true rfl) (by omega) (Nat.zero_le _) (Nat.zero_le _) ?_
    refine fd_c20 (t := t) (m := 3) (a := a) (f := f) hk1 e2 hr ⟨by omega, by omega⟩ (by decide) ?_
    show gm_Wp X LX d _ _ 19 36 _ [] n K R _ Q
    refine gm_sz (gm_p_load (pc := 36) (i := .aload_n 0) (sr := 2) (j := 0) (by decide +kernel) rfl rfl rfl) ?_
    refine gm_sz (gm_p_load (pc := 37) (i := .iload 5) (sr := 0) (j := 5) (by decide +kernel) rfl rfl rfl) ?_
    refine gm_c_virt (k := 1) (ci := 0) (mj := 20) (ix := 110) (pc := 39) (as := [gm_vi (a 4)]) (st := []) (d' := d - 1) (bc' := 0) (bs' := 0) (by decide +kernel) (by decide +kernel) (by decide +kernel) (by decide +kernel) hk1.1 hk1.2 (by decide) (by decide +kernel) (show 1 = gm_na 20 by decide +kernel) (fw_c1 fw_si) (show 2 ≤ gm_ml 20 by decide +kernel) (Nat.le_of_ble_eq_true rfl) (by omega) (Nat.zero_le _) (Nat.zero_le _) ?_
    refine fd_c20 (t := t) (m := 4) (a := a) (f := f) hk1 e2 hr ⟨by omega, by omega⟩ (by decide) ?_
    show gm_Wp X LX d _ _ 19 42 _ [] n K R _ Q
    refine gm_sz (gm_p_load (pc := 42) (i := .aload_n 0) (sr := 2) (j := 0) (by decide +kernel) rfl rfl rfl) ?_
    refine gm_sz (fw_gi (pc := 43) (ix := 13) (ci := 0) (j := 1) (x := t + (4 * 4 + 4)) (by decide +kernel) hk1 (by decide +kernel) (by decide +kernel) fe_1) ?_
    exact gm_r_int (pc := 46) (by decide +kernel) (Or.inl (by decide +kernel)) (h1 (by omega))
  · have j1 : ¬ (t + 20) ≤ 400 := j1
    refine gm_sz (gm_p_const (pc := 13) (i := .iconst (-1)) (v := gm_vi (-1)) (by decide +kernel) (by decide +kernel)) ?_
    exact gm_r_int (pc := 14) (by decide +kernel) (Or.inl (by decide +kernel)) (h0 (by omega))
/-- the reference's TAPE -/
noncomputable def ff (M : gm_M) (t : Int) (F V : Int → Int) : gm_M := fun b j => if b = 226 then (if j = 0 then 0 else if j = 8 then t else M b j) else if b = 231 then F j else if b = 232 then V j else M b j
variable {V : Int → Int}
theorem ff_8 : ff M T F V 226 ((8 : Nat) : Int) = T := by
  show ff M T F V 226 8 = T
  unfold ff
  rw [if_pos rfl, if_neg (by decide), if_pos rfl]
theorem ff_t : gm_uM (ff M T F V) 226 ((8 : Nat) : Int) x = ff M x F V := by
  show gm_uM (ff M T F V) 226 8 x = ff M x F V
  funext b j
  by_cases h1 : b = 226 <;> by_cases h2 : j = 8 <;> simp [gm_uM, ff, h1, h2]
theorem ff_p {j : Int} : gm_uM (ff M T F V) 231 j x = ff M T (fun i => if i = j then x else F i) V := by
  funext b i
  by_cases h1 : b = 231 <;> by_cases h2 : i = j <;> simp [gm_uM, ff, h1, h2]
theorem ff_v {j : Int} : gm_uM (ff M T F V) 232 j x = ff M T F (fun i => if i = j then x else V i) := by
  funext b i
  by_cases h1 : b = 232 <;> by_cases h2 : i = j <;> simp [gm_uM, ff, h1, h2]
theorem ff_0 : gm_uM M 226 ((0 : Nat) : Int) 0 = ff M (M 226 8) (M 231) (M 232) := by
  show gm_uM M 226 0 0 = _
  funext b j
  unfold gm_uM ff
  by_cases h1 : b = 226
  · subst h1
    by_cases h2 : j = 0
    · subst h2; simp
    · by_cases h3 : j = 8
      · subst h3; simp
      · simp [h2, h3]
  · by_cases h2 : b = 231
    · subst h2; simp
    · by_cases h3 : b = 232
      · subst h3; simp
      · simp [h1, h2, h3]
theorem ff_put {e k v : Int} (he : e = t + k) (hk : 0 ≤ k) (hv : v = fb (a (k / 4)) (k % 4)) : gm_uM (ff M T (fdc a t k f) V) 231 e v = ff M T (fdc a t (k + 1) f) V := by
  rw [ff_p, he, fdc_s hk hv]
theorem ff_by {k : Int} (h : 0 ≤ k) : gm_wb (gm_shr x (24 - 8 * (k % 4))) = fb x (k % 4) := by
  have h4 : k % 4 = 0 ∨ k % 4 = 1 ∨ k % 4 = 2 ∨ k % 4 = 3 := by omega
  rcases h4 with h4 | h4 | h4 | h4 <;> rw [h4]
  · exact fb0s
  · exact fb1s
  · exact fb2s
  · exact fb3s
theorem fd_l239 (hk : (1 ≤ 226 ∧ 226 ≤ n) ∧ (K 226).1 = 11 + 4) (e1 : (1 ≤ 231 ∧ 231 ≤ n) ∧ K 231 = (1, 400)) (e5 : (1 ≤ 232 ∧ 232 ≤ n) ∧ K 232 = (0, 5)) (hr1 : R 226 ((7 : Nat) : Int) = 231) (hr5 : R 226 ((14 : Nat) : Int) = 232) (ht : 0 ≤ t ∧ t ≤ 380) (hV : ∀ j : Int, 0 ≤ j ∧ j ≤ 4 → V j = a j) (hq : Q (.inl (some (gm_vi (t + 20)))) n K R (ff M (t + 20) (fdc a t 20 f) V)) : ∀ (u : Nat) (k : Int), k + u = 20 → 0 ≤ k → gm_Wp X LX d bc bs 239 60 [some (gm_vr 226), some (gm_vi (a 0)), some (gm_vi (a 1)), some (gm_vi (a 2)), some (gm_vi (a 3)), some (gm_vi (a 4)), some (gm_vi k)] [] n K R (ff M t (fdc a t k f) V) Q := by
  intro u
  induction u with
  | zero =>
    intro k hku hk0
    have hk20 : k = 20 := by omega
    subst hk20
    refine gm_sz (gm_p_load (pc := 60) (i := .iload 6) (sr := 0) (j := 6) (by decide +kernel) rfl rfl rfl) ?_
    refine gm_sz (gm_p_const (pc := 62) (i := .bipush 20) (v := gm_vi 20) (by decide +kernel) (by decide +kernel)) ?_
    refine fw_ictd (cc := .ge) (pc := 64) (off := 42) (by decide +kernel) (by decide) ⟨by decide, by decide⟩ ⟨by decide, by decide⟩ (by decide) ?_
    refine gm_sz (gm_p_load (pc := 106) (i := .aload_n 0) (sr := 2) (j := 0) (by decide +kernel) rfl rfl rfl) ?_
    refine gm_sz (gm_p_dup (pc := 107) (by decide +kernel) fw_sr) ?_
    refine gm_sz (fw_gi (pc := 108) (ix := 103) (ci := 11) (j := 8) (x := t) (by decide +kernel) hk (by decide +kernel) (by decide +kernel) ff_8) ?_
    refine gm_sz (gm_p_const (pc := 111) (i := .bipush 20) (v := gm_vi 20) (by decide +kernel) (by decide +kernel)) ?_
    refine gm_sz (gm_p_bin (pc := 113) (i := .iadd) (f := fun x y => x + y) (by decide +kernel) rfl) ?_
    refine gm_sz (fw_pi (pc := 114) (ix := 103) (ci := 11) (j := 8) (M' := ff M (t + 20) (fdc a t 20 f) V) (by decide +kernel) hk (by decide +kernel) (by decide +kernel) (by decide +kernel) ff_t) ?_
    refine gm_sz (gm_p_load (pc := 117) (i := .aload_n 0) (sr := 2) (j := 0) (by decide +kernel) rfl rfl rfl) ?_
    refine gm_sz (fw_gi (pc := 118) (ix := 103) (ci := 11) (j := 8) (x := t + 20) (by decide +kernel) hk (by decide +kernel) (by decide +kernel) ff_8) ?_
    exact gm_r_int (pc := 121) (by decide +kernel) (Or.inl (by decide +kernel)) hq
  | succ u ih =>
    intro k hku hk0
    refine gm_sz (gm_p_load (pc := 60) (i := .iload 6) (sr := 0) (j := 6) (by decide +kernel) rfl rfl rfl) ?_
    refine gm_sz (gm_p_const (pc := 62) (i := .bipush 20) (v := gm_vi 20) (by decide +kernel) (by decide +kernel)) ?_
    refine fw_icf (cc := .ge) (pc := 64) (off := 42) (by decide +kernel) (by decide) ⟨by omega, by omega⟩ ⟨by decide, by decide⟩ (show ¬ 20 ≤ k by omega) ?_
    refine gm_sz (gm_p_load (pc := 67) (i := .aload_n 0) (sr := 2) (j := 0) (by decide +kernel) rfl rfl rfl) ?_
    refine gm_sz (fw_gr (pc := 68) (ix := 26) (ci := 11) (j := 7) (r := 231) (by decide +kernel) hk (by decide +kernel) (by decide +kernel) hr1) ?_
    refine gm_sz (gm_p_load (pc := 71) (i := .aload_n 0) (sr := 2) (j := 0) (by decide +kernel) rfl rfl rfl) ?_
    refine gm_sz (fw_gi (pc := 72) (ix := 103) (ci := 11) (j := 8) (x := t) (by decide +kernel) hk (by decide +kernel) (by decide +kernel) ff_8) ?_
    refine gm_sz (gm_p_load (pc := 75) (i := .iload 6) (sr := 0) (j := 6) (by decide +kernel) rfl rfl rfl) ?_
    refine gm_sz (gm_p_bin (pc := 77) (i := .iadd) (f := fun x y => x + y) (by decide +kernel) rfl) ?_
    refine gm_sz (gm_p_load (pc := 78) (i := .aload_n 0) (sr := 2) (j := 0) (by decide +kernel) rfl rfl rfl) ?_
    refine gm_sz (fw_gr (pc := 79) (ix := 33) (ci := 11) (j := 14) (r := 232) (by decide +kernel) hk (by decide +kernel) (by decide +kernel) hr5) ?_
    refine gm_sz (gm_p_load (pc := 82) (i := .iload 6) (sr := 0) (j := 6) (by decide +kernel) rfl rfl rfl) ?_
    refine gm_sz (gm_p_const (pc := 84) (i := .iconst 4) (v := gm_vi 4) (by decide +kernel) (by decide +kernel)) ?_
    refine gm_sz (gm_p_div (pc := 85) (by decide +kernel) (by decide)) ?_
    rw [fw_div (a := k) (b := 4) (by omega) (by omega) (by decide)]
    refine gm_sz (fw_ia (pc := 86) (k := 232) (len := 5) (e0 := k / 4) (x := a (k / 4)) (by decide +kernel) (e5 : (1 ≤ 232 ∧ 232 ≤ n) ∧ K 232 = (0, 5)).1 (e5 : (1 ≤ 232 ∧ 232 ≤ n) ∧ K 232 = (0, 5)).2 (by decide) ⟨by omega, by omega⟩ (hV _ ⟨by omega, by omega⟩)) ?_
    refine gm_sz (gm_p_const (pc := 87) (i := .bipush 24) (v := gm_vi 24) (by decide +kernel) (by decide +kernel)) ?_
    refine gm_sz (gm_p_const (pc := 89) (i := .bipush 8) (v := gm_vi 8) (by decide +kernel) (by decide +kernel)) ?_
    refine gm_sz (gm_p_load (pc := 91) (i := .iload 6) (sr := 0) (j := 6) (by decide +kernel) rfl rfl rfl) ?_
    refine gm_sz (gm_p_const (pc := 93) (i := .iconst 4) (v := gm_vi 4) (by decide +kernel) (by decide +kernel)) ?_
    refine gm_sz (gm_p_rem (pc := 94) (by decide +kernel) (by decide)) ?_
    rw [fw_rem (a := k) (b := 4) (by omega) (by omega) (by decide)]
    refine gm_sz (gm_p_bin (pc := 95) (i := .imul) (f := fun x y => x * y) (by decide +kernel) rfl) ?_
    refine gm_sz (gm_p_bin (pc := 96) (i := .isub) (f := fun x y => x - y) (by decide +kernel) rfl) ?_
    refine gm_sz (gm_p_bin (pc := 97) (i := .ishr) (f := gm_shr) (by decide +kernel) rfl) ?_
    refine gm_sz (gm_p_un (pc := 98) (i := .i2b) (f := fun x => gm_wb x) (by decide +kernel) rfl) ?_
    refine gm_sz (fw_bs (pc := 99) (k := 231) (len := 400) (e0 := t + k) (x := gm_wb (gm_shr (a (k / 4)) (24 - (8 * (k % 4))))) (M' := ff M t (fdc a t (k + 1) f) V) (by decide +kernel) (e1 : (1 ≤ 231 ∧ 231 ≤ n) ∧ K 231 = (1, 400)).1 (e1 : (1 ≤ 231 ∧ 231 ≤ n) ∧ K 231 = (1, 400)).2 (by decide) ⟨by omega, by omega⟩ (ff_put (k := k) (a := a) (t := t) rfl (by omega) (wb_wb.trans (ff_by (by omega))))) ?_
    refine gm_sz (gm_p_iinc (pc := 100) (j := 6) (z := 1) (by decide +kernel) rfl) ?_
    refine gm_sz (gm_p_goto (pc := 103) (off := (-43)) (by decide +kernel) (by decide)) ?_
    exact ih (k + 1) (by omega) (by omega)
theorem fd_c239 (hk : (1 ≤ 226 ∧ 226 ≤ n) ∧ (K 226).1 = 11 + 4) (e1 : (1 ≤ 231 ∧ 231 ≤ n) ∧ K 231 = (1, 400)) (e5 : (1 ≤ 232 ∧ 232 ≤ n) ∧ K 232 = (0, 5)) (hr1 : R 226 ((7 : Nat) : Int) = 231) (hr5 : R 226 ((14 : Nat) : Int) = 232) (ht : 0 ≤ M 226 8 ∧ M 226 8 ≤ 400) (h0 : 381 ≤ M 226 8 → Q (.inl (some (gm_vi (-1)))) n K R (ff M (M 226 8) (M 231) (M 232))) (h1 : ∀ V, M 226 8 ≤ 380 → Q (.inl (some (gm_vi (M 226 8 + 20)))) n K R (ff M (M 226 8 + 20) (fdc a (M 226 8) 20 (M 231)) V)) : gm_Wp X LX d bc bs 239 0 (gm_ent 239 [gm_vr 226, gm_vi (a 0), gm_vi (a 1), gm_vi (a 2), gm_vi (a 3), gm_vi (a 4)]) [] n K R M Q := by
  refine gm_sz (gm_p_load (pc := 0) (i := .aload_n 0) (sr := 2) (j := 0) (by decide +kernel) rfl rfl rfl) ?_
  refine gm_sz (gm_p_const (pc := 1) (i := .iconst 0) (v := gm_vi 0) (by decide +kernel) (by decide +kernel)) ?_
  refine gm_sz (fw_pi (pc := 2) (ix := 3) (ci := 11) (j := 0) (M' := ff M (M 226 8) (M 231) (M 232)) (by decide +kernel) hk (by decide +kernel) (by decide +kernel) (by decide +kernel) ff_0) ?_
  refine gm_sz (gm_p_load (pc := 5) (i := .aload_n 0) (sr := 2) (j := 0) (by decide +kernel) rfl rfl rfl) ?_
  refine gm_sz (fw_gi (pc := 6) (ix := 103) (ci := 11) (j := 8) (x := M 226 8) (by decide +kernel) hk (by decide +kernel) (by decide +kernel) ff_8) ?_
  refine gm_sz (gm_p_const (pc := 9) (i := .bipush 20) (v := gm_vi 20) (by decide +kernel) (by decide +kernel)) ?_
  refine gm_sz (gm_p_bin (pc := 11) (i := .iadd) (f := fun x y => x + y) (by decide +kernel) rfl) ?_
  refine gm_sz (gm_p_const (pc := 12) (i := .sipush 400) (v := gm_vi 400) (by decide +kernel) (by decide +kernel)) ?_
  refine fw_ic (cc := .le) (pc := 15) (off := 5) (by decide +kernel) (by decide) ⟨by omega, by omega⟩ ⟨by decide, by decide⟩ (fun j1 => ?_) (fun j1 => ?_)
  · have j1 : ((M 226 8) + 20) ≤ 400 := j1
    refine gm_sz (gm_p_load (pc := 20) (i := .aload_n 0) (sr := 2) (j := 0) (by decide +kernel) rfl rfl rfl) ?_
    refine gm_sz (fw_gr (pc := 21) (ix := 33) (ci := 11) (j := 14) (r := 232) (by decide +kernel) hk (by decide +kernel) (by decide +kernel) hr5) ?_
    refine gm_sz (gm_p_const (pc := 24) (i := .iconst 0) (v := gm_vi 0) (by decide +kernel) (by decide +kernel)) ?_
    refine gm_sz (gm_p_load (pc := 25) (i := .iload_n 1) (sr := 0) (j := 1) (by decide +kernel) rfl rfl rfl) ?_
    refine gm_sz (fw_is (pc := 26) (k := 232) (len := 5) (e0 := 0) (x := a 0) (M' := ff M (M 226 8) (M 231) (fun t9 => if t9 = 0 then a 0 else (M 232) t9)) (by decide +kernel) (e5 : (1 ≤ 232 ∧ 232 ≤ n) ∧ K 232 = (0, 5)).1 (e5 : (1 ≤ 232 ∧ 232 ≤ n) ∧ K 232 = (0, 5)).2 (by decide) ⟨by omega, by omega⟩ ff_v) ?_
    refine gm_sz (gm_p_load (pc := 27) (i := .aload_n 0) (sr := 2) (j := 0) (by decide +kernel) rfl rfl rfl) ?_
    refine gm_sz (fw_gr (pc := 28) (ix := 33) (ci := 11) (j := 14) (r := 232) (by decide +kernel) hk (by decide +kernel) (by decide +kernel) hr5) ?_
    refine gm_sz (gm_p_const (pc := 31) (i := .iconst 1) (v := gm_vi 1) (by decide +kernel) (by decide +kernel)) ?_
    refine gm_sz (gm_p_load (pc := 32) (i := .iload_n 2) (sr := 0) (j := 2) (by decide +kernel) rfl rfl rfl) ?_
    refine gm_sz (fw_is (pc := 33) (k := 232) (len := 5) (e0 := 1) (x := a 1) (M' := ff M (M 226 8) (M 231) (fun t9 => if t9 = 1 then a 1 else (fun t9 => if t9 = 0 then a 0 else (M 232) t9) t9)) (by decide +kernel) (e5 : (1 ≤ 232 ∧ 232 ≤ n) ∧ K 232 = (0, 5)).1 (e5 : (1 ≤ 232 ∧ 232 ≤ n) ∧ K 232 = (0, 5)).2 (by decide) ⟨by omega, by omega⟩ ff_v) ?_
    refine gm_sz (gm_p_load (pc := 34) (i := .aload_n 0) (sr := 2) (j := 0) (by decide +kernel) rfl rfl rfl) ?_
    refine gm_sz (fw_gr (pc := 35) (ix := 33) (ci := 11) (j := 14) (r := 232) (by decide +kernel) hk (by decide +kernel) (by decide +kernel) hr5) ?_
    refine gm_sz (gm_p_const (pc := 38) (i := .iconst 2) (v := gm_vi 2) (by decide +kernel) (by decide +kernel)) ?_
    refine gm_sz (gm_p_load (pc := 39) (i := .iload_n 3) (sr := 0) (j := 3) (by decide +kernel) rfl rfl rfl) ?_
    refine gm_sz (fw_is (pc := 40) (k := 232) (len := 5) (e0 := 2) (x := a 2) (M' := ff M (M 226 8) (M 231) (fun t9 => if t9 = 2 then a 2 else (fun t9 => if t9 = 1 then a 1 else (fun t9 => if t9 = 0 then a 0 else (M 232) t9) t9) t9)) (by decide +kernel) (e5 : (1 ≤ 232 ∧ 232 ≤ n) ∧ K 232 = (0, 5)).1 (e5 : (1 ≤ 232 ∧ 232 ≤ n) ∧ K 232 = (0, 5)).2 (by decide) ⟨by omega, by omega⟩ ff_v) ?_
    refine gm_sz (gm_p_load (pc := 41) (i := .aload_n 0) (sr := 2) (j := 0) (by decide +kernel) rfl rfl rfl) ?_
    refine gm_sz (fw_gr (pc := 42) (ix := 33) (ci := 11) (j := 14) (r := 232) (by decide +kernel) hk (by decide +kernel) (by decide +kernel) hr5) ?_
    refine gm_sz (gm_p_const (pc := 45) (i := .iconst 3) (v := gm_vi 3) (by decide +kernel) (by decide +kernel)) ?_
    refine gm_sz (gm_p_load (pc := 46) (i := .iload 4) (sr := 0) (j := 4) (by decide +kernel) rfl rfl rfl) ?_
    refine gm_sz (fw_is (pc := 48) (k := 232) (len := 5) (e0 := 3) (x := a 3) (M' := ff M (M 226 8) (M 231) (fun t9 => if t9 = 3 then a 3 else (fun t9 => if t9 = 2 then a 2 else (fun t9 => if t9 = 1 then a 1 else (fun t9 => if t9 = 0 then a 0 else (M 232) t9) t9) t9) t9)) (by decide +kernel) (e5 : (1 ≤ 232 ∧ 232 ≤ n) ∧ K 232 = (0, 5)).1 (e5 : (1 ≤ 232 ∧ 232 ≤ n) ∧ K 232 = (0, 5)).2 (by decide) ⟨by omega, by omega⟩ ff_v) ?_
    refine gm_sz (gm_p_load (pc := 49) (i := .aload_n 0) (sr := 2) (j := 0) (by decide +kernel) rfl rfl rfl) ?_
    refine gm_sz (fw_gr (pc := 50) (ix := 33) (ci := 11) (j := 14) (r := 232) (by decide +kernel) hk (by decide +kernel) (by decide +kernel) hr5) ?_
    refine gm_sz (gm_p_const (pc := 53) (i := .iconst 4) (v := gm_vi 4) (by decide +kernel) (by decide +kernel)) ?_
    refine gm_sz (gm_p_load (pc := 54) (i := .iload 5) (sr := 0) (j := 5) (by decide +kernel) rfl rfl rfl) ?_
    refine gm_sz (fw_is (pc := 56) (k := 232) (len := 5) (e0 := 4) (x := a 4) (M' := ff M (M 226 8) (M 231) (fun t9 => if t9 = 4 then a 4 else (fun t9 => if t9 = 3 then a 3 else (fun t9 => if t9 = 2 then a 2 else (fun t9 => if t9 = 1 then a 1 else (fun t9 => if t9 = 0 then a 0 else (M 232) t9) t9) t9) t9) t9)) (by decide +kernel) (e5 : (1 ≤ 232 ∧ 232 ≤ n) ∧ K 232 = (0, 5)).1 (e5 : (1 ≤ 232 ∧ 232 ≤ n) ∧ K 232 = (0, 5)).2 (by decide) ⟨by omega, by omega⟩ ff_v) ?_
    refine gm_sz (gm_p_const (pc := 57) (i := .iconst 0) (v := gm_vi 0) (by decide +kernel) (by decide +kernel)) ?_
    refine gm_sz (gm_p_stor (pc := 58) (i := .istore 6) (sr := 0) (j := 6) (by decide +kernel) rfl (show 7 ≤ _ from Nat.le_of_ble_eq_true rfl) rfl) ?_
    have hV9 : ∀ j : Int, 0 ≤ j ∧ j ≤ 4 → (fun t9 => if t9 = 4 then a 4 else (fun t9 => if t9 = 3 then a 3 else (fun t9 => if t9 = 2 then a 2 else (fun t9 => if t9 = 1 then a 1 else (fun t9 => if t9 = 0 then a 0 else (M 232) t9) t9) t9) t9) t9) j = a j := fun j hj => by
      have hj5 : j = 0 ∨ j = 1 ∨ j = 2 ∨ j = 3 ∨ j = 4 := by omega
      rcases hj5 with rfl | rfl | rfl | rfl | rfl <;> rfl
    have q := fd_l239 (X := X) (LX := LX) (d := d) (bc := bc) (bs := bs) (Q := Q) (t := M 226 8) (a := a) (f := M 231) (V := (fun t9 => if t9 = 4 then a 4 else (fun t9 => if t9 = 3 then a 3 else (fun t9 => if t9 = 2 then a 2 else (fun t9 => if t9 = 1 then a 1 else (fun t9 => if t9 = 0 then a 0 else (M 232) t9) t9) t9) t9) t9)) hk e1 e5 hr1 hr5 ⟨by omega, by omega⟩ hV9 (h1 _ (by omega)) 20 0 (by decide) (Int.le_refl _)
    rw [fdc_0] at q
    exact q
  · have j1 : ¬ ((M 226 8) + 20) ≤ 400 := j1
    refine gm_sz (gm_p_const (pc := 18) (i := .iconst (-1)) (v := gm_vi (-1)) (by decide +kernel) (by decide +kernel)) ?_
    exact gm_r_int (pc := 19) (by decide +kernel) (Or.inl (by decide +kernel)) (h0 (by omega))
end FD
end
/-! 79o.ca -/
section
/-! A CALL, BY ITS ROW AND BY A JUDGEMENT OF ITS OWN that tells what it answers. -/
theorem dt_w {x y : Int} (h : Int32.ofInt x = Int32.ofInt y) : gm_w x = gm_w y := by
  have h2 := congrArg Int32.toInt h
  rwa [gm_w_toInt, gm_w_toInt] at h2
theorem dt_w6 {x y : Int} (h : Int64.ofInt x = Int64.ofInt y) : gm_w6 x = gm_w6 y := by
  have h2 := congrArg Int64.toInt h
  rwa [gm_w6_toInt, gm_w6_toInt] at h2
section CAA
variable {X : Int → Int} {LX : Nat} {O : gm_Or} {g z g1 : Nat} {la : Nat → Nat} {K K' K1 : gm_K} {R R' : gm_R} {M M' M1 : gm_M} {S : ck_Sum}
end CAA
/-! A TAPE'S BYTES beyond its end are nobody's. -/
theorem nM_at {D : va_G} {ti : Nat → ClassId} {α : Nat → Nat} {k a c len : Nat} {K : gm_K} {R : gm_R} {M M' : gm_M} {H : Heap} (hc : K c = (1, len)) (h : ∀ k j, ¬ k = c → M' k j = M k j) (h2 : ∀ j : Nat, j < len → M' c (j : Int) = M c (j : Int)) (hat : va_at D gm_cs (a, gm_en ti α K R M k) H) : va_at D gm_cs (a, gm_en ti α K R M' k) H := by
  by_cases e : k = c
  · subst e
    have e1 : ∀ M : gm_M, gm_en ti α K R M k = .inl (ti 1, len, .inl fun j => Int32.ofInt (M k j)) := fun M => by unfold gm_en; rw [hc]
    rw [e1] at hat ⊢
    have hat : H[a]? = some (arrV (ti 1) len (fun j => .int (Int32.ofInt (M k (j : Int))))) := hat
    show H[a]? = some (arrV (ti 1) len (fun j => .int (Int32.ofInt (M' k (j : Int)))))
    rw [hat]
    unfold arrV
    congr 3
    funext j
    show Value.int (Int32.ofInt (M k ((j.val : Nat) : Int))) = Value.int (Int32.ofInt (M' k ((j.val : Nat) : Int)))
    rw [h2 j.val j.isLt]
  · have e2 : gm_en ti α K R M' k = gm_en ti α K R M k := bg_en rfl (fun j => h k j e) (fun _ => rfl)
    rw [e2]
    exact hat
theorem gm_Wp_nM {X : Int → Int} {LX d bc bs mi pc n c len : Nat} {L : gm_L} {st : List gm_V} {K : gm_K} {R : gm_R} {M M' : gm_M} {Q : gm_Q} (hc : K c = (1, len)) (h : ∀ k j, ¬ k = c → M' k j = M k j) (h0 : ∀ j : Nat, j < len → M' c (j : Int) = M c (j : Int)) (hw : gm_Wp X LX d bc bs mi pc L st n K R M' Q) : gm_Wp X LX d bc bs mi pc L st n K R M Q := by
  intro p l e Rm s m args below meth c9 D ti adK adV A α0 n0 mc ms h1 h2 h3 h4 h5 h6 h7 α H locs cells slots ls sv h8 h9 h10 hR h12 h13
  refine hw p l e Rm s m args below meth c9 D ti adK adV A α0 n0 mc ms h1 h2 h3 h4 h5 h6 h7 α H locs cells slots ls sv h8 h9 h10 ?_ h12 h13
  obtain ⟨a1, a2, a3, a4, a5⟩ := hR
  refine ⟨a1, fun k q hq => ?_, ⟨fun i j p q hp hq e => ?_, fun k q hq => ?_⟩, a4, a5⟩
  · obtain ⟨b1, rfl⟩ := gm_wl_get hq
    exact nM_at hc h h0 (a2 k _ (gm_wl_at (k := k + 1) (by omega) b1))
  · obtain ⟨b1, rfl⟩ := gm_wl_get hp
    obtain ⟨c1, rfl⟩ := gm_wl_get hq
    exact a3.1 i j _ _ (gm_wl_at (k := i + 1) (by omega) b1) (gm_wl_at (k := j + 1) (by omega) c1) e
  · obtain ⟨b1, rfl⟩ := gm_wl_get hq
    have := a3.2 k _ (gm_wl_at (ti := ti) (α := α) (K := K) (R := R) (M := M) (k := k + 1) (by omega) b1)
    exact this
end
/-! 7a00.c0ev -/
section
/-! THE CORE: what never changes, what a stretch leaves alone (laid by wip/core/c0.py). -/
noncomputable def E0 (n : Nat) (K : gm_K) (R : gm_R) : Prop := (∀ k q, p2_O.1 k = some q → (1 ≤ k ∧ k ≤ n) ∧ K k = q) ∧ ∀ k j r, p2_O.2.1 k j = some r → R k j = r
noncomputable def cstL : List (Nat × Int × Int) := [((4 : Nat), (0 : Int), (8 : Int)), ((4 : Nat), (1 : Int), (7 : Int)), ((6 : Nat), (0 : Int), (8 : Int)), ((6 : Nat), (1 : Int), (3 : Int)), ((8 : Nat), (0 : Int), (8 : Int)), ((8 : Nat), (1 : Int), (3 : Int)), ((10 : Nat), (0 : Int), (24 : Int)), ((10 : Nat), (1 : Int), (7 : Int)), ((12 : Nat), (0 : Int), (6 : Int)), ((12 : Nat), (1 : Int), (6 : Int)), ((14 : Nat), (0 : Int), (24 : Int)), ((14 : Nat), (1 : Int), (3 : Int)), ((17 : Nat), (0 : Int), (8 : Int)), ((17 : Nat), (1 : Int), (7 : Int)), ((19 : Nat), (0 : Int), (8 : Int)), ((19 : Nat), (1 : Int), (3 : Int)), ((21 : Nat), (0 : Int), (8 : Int)), ((21 : Nat), (1 : Int), (3 : Int)), ((23 : Nat), (0 : Int), (24 : Int)), ((23 : Nat), (1 : Int), (7 : Int)), ((25 : Nat), (0 : Int), (6 : Int)), ((25 : Nat), (1 : Int), (6 : Int)), ((27 : Nat), (0 : Int), (24 : Int)), ((27 : Nat), (1 : Int), (3 : Int)), ((30 : Nat), (0 : Int), (8 : Int)), ((30 : Nat), (1 : Int), (7 : Int)), ((32 : Nat), (0 : Int), (8 : Int)), ((32 : Nat), (1 : Int), (3 : Int)), ((34 : Nat), (0 : Int), (8 : Int)), ((34 : Nat), (1 : Int), (3 : Int)), ((36 : Nat), (0 : Int), (24 : Int)), ((36 : Nat), (1 : Int), (7 : Int)), ((38 : Nat), (0 : Int), (6 : Int)), ((38 : Nat), (1 : Int), (6 : Int)), ((40 : Nat), (0 : Int), (24 : Int)), ((40 : Nat), (1 : Int), (3 : Int)), ((45 : Nat), (0 : Int), (8 : Int)), ((45 : Nat), (1 : Int), (7 : Int)), ((47 : Nat), (0 : Int), (8 : Int)), ((47 : Nat), (1 : Int), (3 : Int)), ((49 : Nat), (0 : Int), (8 : Int)), ((49 : Nat), (1 : Int), (3 : Int)), ((51 : Nat), (0 : Int), (24 : Int)), ((51 : Nat), (1 : Int), (7 : Int)), ((53 : Nat), (0 : Int), (6 : Int)), ((53 : Nat), (1 : Int), (6 : Int)), ((55 : Nat), (0 : Int), (24 : Int)), ((55 : Nat), (1 : Int), (3 : Int)), ((58 : Nat), (0 : Int), (8 : Int)), ((58 : Nat), (1 : Int), (7 : Int)), ((60 : Nat), (0 : Int), (8 : Int)), ((60 : Nat), (1 : Int), (3 : Int)), ((62 : Nat), (0 : Int), (8 : Int)), ((62 : Nat), (1 : Int), (3 : Int)), ((64 : Nat), (0 : Int), (24 : Int)), ((64 : Nat), (1 : Int), (7 : Int)), ((66 : Nat), (0 : Int), (6 : Int)), ((66 : Nat), (1 : Int), (6 : Int)), ((68 : Nat), (0 : Int), (24 : Int)), ((68 : Nat), (1 : Int), (3 : Int)), ((71 : Nat), (0 : Int), (8 : Int)), ((71 : Nat), (1 : Int), (7 : Int)), ((73 : Nat), (0 : Int), (8 : Int)), ((73 : Nat), (1 : Int), (3 : Int)), ((75 : Nat), (0 : Int), (8 : Int)), ((75 : Nat), (1 : Int), (3 : Int)), ((77 : Nat), (0 : Int), (24 : Int)), ((77 : Nat), (1 : Int), (7 : Int)), ((79 : Nat), (0 : Int), (6 : Int)), ((79 : Nat), (1 : Int), (6 : Int)), ((81 : Nat), (0 : Int), (24 : Int)), ((81 : Nat), (1 : Int), (3 : Int)), ((84 : Nat), (0 : Int), (8 : Int)), ((84 : Nat), (1 : Int), (7 : Int)), ((86 : Nat), (0 : Int), (8 : Int)), ((86 : Nat), (1 : Int), (3 : Int)), ((88 : Nat), (0 : Int), (8 : Int)), ((88 : Nat), (1 : Int), (3 : Int)), ((90 : Nat), (0 : Int), (24 : Int)), ((90 : Nat), (1 : Int), (7 : Int)), ((92 : Nat), (0 : Int), (6 : Int)), ((92 : Nat), (1 : Int), (6 : Int)), ((94 : Nat), (0 : Int), (24 : Int)), ((94 : Nat), (1 : Int), (3 : Int)), ((97 : Nat), (0 : Int), (8 : Int)), ((97 : Nat), (1 : Int), (7 : Int)), ((99 : Nat), (0 : Int), (8 : Int)), ((99 : Nat), (1 : Int), (3 : Int)), ((101 : Nat), (0 : Int), (8 : Int)), ((101 : Nat), (1 : Int), (3 : Int)), ((103 : Nat), (0 : Int), (24 : Int)), ((103 : Nat), (1 : Int), (7 : Int)), ((105 : Nat), (0 : Int), (6 : Int)), ((105 : Nat), (1 : Int), (6 : Int)), ((107 : Nat), (0 : Int), (24 : Int)), ((107 : Nat), (1 : Int), (3 : Int)), ((110 : Nat), (0 : Int), (8 : Int)), ((110 : Nat), (1 : Int), (7 : Int)), ((112 : Nat), (0 : Int), (8 : Int)), ((112 : Nat), (1 : Int), (3 : Int)), ((114 : Nat), (0 : Int), (8 : Int)), ((114 : Nat), (1 : Int), (3 : Int)), ((116 : Nat), (0 : Int), (24 : Int)), ((116 : Nat), (1 : Int), (7 : Int)), ((118 : Nat), (0 : Int), (6 : Int)), ((118 : Nat), (1 : Int), (6 : Int)), ((120 : Nat), (0 : Int), (24 : Int)), ((120 : Nat), (1 : Int), (3 : Int)), ((123 : Nat), (0 : Int), (8 : Int)), ((123 : Nat), (1 : Int), (7 : Int)), ((125 : Nat), (0 : Int), (8 : Int)), ((125 : Nat), (1 : Int), (3 : Int)), ((127 : Nat), (0 : Int), (8 : Int)), ((127 : Nat), (1 : Int), (3 : Int)), ((129 : Nat), (0 : Int), (24 : Int)), ((129 : Nat), (1 : Int), (7 : Int)), ((131 : Nat), (0 : Int), (6 : Int)), ((131 : Nat), (1 : Int), (6 : Int)), ((133 : Nat), (0 : Int), (24 : Int)), ((133 : Nat), (1 : Int), (3 : Int)), ((136 : Nat), (0 : Int), (8 : Int)), ((136 : Nat), (1 : Int), (7 : Int)), ((138 : Nat), (0 : Int), (8 : Int)), ((138 : Nat), (1 : Int), (3 : Int)), ((140 : Nat), (0 : Int), (8 : Int)), ((140 : Nat), (1 : Int), (3 : Int)), ((142 : Nat), (0 : Int), (24 : Int)), ((142 : Nat), (1 : Int), (7 : Int)), ((144 : Nat), (0 : Int), (6 : Int)), ((144 : Nat), (1 : Int), (6 : Int)), ((146 : Nat), (0 : Int), (24 : Int)), ((146 : Nat), (1 : Int), (3 : Int)), ((149 : Nat), (0 : Int), (8 : Int)), ((149 : Nat), (1 : Int), (7 : Int)), ((151 : Nat), (0 : Int), (8 : Int)), ((151 : Nat), (1 : Int), (3 : Int)), ((153 : Nat), (0 : Int), (8 : Int)), ((153 : Nat), (1 : Int), (3 : Int)), ((155 : Nat), (0 : Int), (24 : Int)), ((155 : Nat), (1 : Int), (7 : Int)), ((157 : Nat), (0 : Int), (6 : Int)), ((157 : Nat), (1 : Int), (6 : Int)), ((159 : Nat), (0 : Int), (24 : Int)), ((159 : Nat), (1 : Int), (3 : Int)), ((162 : Nat), (0 : Int), (8 : Int)), ((162 : Nat), (1 : Int), (7 : Int)), ((164 : Nat), (0 : Int), (8 : Int)), ((164 : Nat), (1 : Int), (3 : Int)), ((166 : Nat), (0 : Int), (8 : Int)), ((166 : Nat), (1 : Int), (3 : Int)), ((168 : Nat), (0 : Int), (24 : Int)), ((168 : Nat), (1 : Int), (7 : Int)), ((170 : Nat), (0 : Int), (6 : Int)), ((170 : Nat), (1 : Int), (6 : Int)), ((172 : Nat), (0 : Int), (24 : Int)), ((172 : Nat), (1 : Int), (3 : Int)), ((175 : Nat), (0 : Int), (8 : Int)), ((175 : Nat), (1 : Int), (7 : Int)), ((177 : Nat), (0 : Int), (8 : Int)), ((177 : Nat), (1 : Int), (3 : Int)), ((179 : Nat), (0 : Int), (8 : Int)), ((179 : Nat), (1 : Int), (3 : Int)), ((181 : Nat), (0 : Int), (24 : Int)), ((181 : Nat), (1 : Int), (7 : Int)), ((183 : Nat), (0 : Int), (6 : Int)), ((183 : Nat), (1 : Int), (6 : Int)), ((185 : Nat), (0 : Int), (24 : Int)), ((185 : Nat), (1 : Int), (3 : Int)), ((188 : Nat), (0 : Int), (8 : Int)), ((188 : Nat), (1 : Int), (7 : Int)), ((190 : Nat), (0 : Int), (8 : Int)), ((190 : Nat), (1 : Int), (3 : Int)), ((192 : Nat), (0 : Int), (8 : Int)), ((192 : Nat), (1 : Int), (3 : Int)), ((194 : Nat), (0 : Int), (24 : Int)), ((194 : Nat), (1 : Int), (7 : Int)), ((196 : Nat), (0 : Int), (6 : Int)), ((196 : Nat), (1 : Int), (6 : Int)), ((198 : Nat), (0 : Int), (24 : Int)), ((198 : Nat), (1 : Int), (3 : Int)), ((209 : Nat), (0 : Int), (8 : Int)), ((209 : Nat), (1 : Int), (300 : Int)), ((211 : Nat), (0 : Int), (8 : Int)), ((211 : Nat), (1 : Int), (300 : Int)), ((217 : Nat), (0 : Int), (12 : Int)), ((217 : Nat), (1 : Int), (4 : Int)), ((220 : Nat), (0 : Int), (24 : Int)), ((220 : Nat), (1 : Int), (2 : Int)), ((222 : Nat), (0 : Int), (30 : Int)), ((222 : Nat), (1 : Int), (6 : Int)), ((224 : Nat), (0 : Int), (31 : Int)), ((224 : Nat), (1 : Int), (6 : Int))]
noncomputable def CST (M : gm_M) : Prop := ∀ q ∈ cstL, M q.1 q.2.1 = q.2.2
theorem cst_e : cstL.all (fun q => decide (gm_tyr p2_O q.1 q.2.1 q.2.1 = some (q.2.2, q.2.2))) = true := by decide +kernel
/-- what may be written: whole cells, single places -/
noncomputable def fr (W : List (Nat × Option Int)) (M M2 : gm_M) : Prop := ∀ c j, ¬ (c, none) ∈ W → ¬ (c, some j) ∈ W → M2 c j = M c j
section EV
variable {n : Nat} {K : gm_K} {R : gm_R} {M M1 M2 : gm_M} {W W2 : List (Nat × Option Int)}
theorem e0F (hF : gm_Fx p2_O n K R M) : E0 n K R := ⟨fun k q h => ⟨⟨(hF.1 k q h).1, (hF.1 k q h).2.1⟩, (hF.1 k q h).2.2⟩, fun k j r h => (hF.2.1 k j r h).2⟩
theorem e0k (h : E0 n K R) {k c : Nat} (hq : p2_O.1 k = some (c + 4, 0)) : (1 ≤ k ∧ k ≤ n) ∧ (K k).1 = c + 4 := ⟨(h.1 k _ hq).1, by rw [(h.1 k _ hq).2]⟩
theorem e0a (h : E0 n K R) {k : Nat} {q : Nat × Nat} (hq : p2_O.1 k = some q) : (1 ≤ k ∧ k ≤ n) ∧ K k = q := h.1 k q hq
theorem e0r (h : E0 n K R) {k j r : Nat} (hq : p2_O.2.1 k (j : Int) = some r) : R k (j : Int) = r := h.2 k _ r hq
theorem e0u (h : E0 n K R) {k r : Nat} {j : Int} (hn : p2_O.2.1 k j = none) : E0 n K (gm_uR R k j r) := by
  refine ⟨h.1, fun a b s hs => ?_⟩
  unfold gm_uR
  rw [if_neg]
  · exact h.2 a b s hs
  · rintro ⟨rfl, rfl⟩
    rw [hn] at hs
    cases hs
theorem cstF (hF : gm_Fx p2_O n K R M) : CST M := by
  intro q hq
  have h := of_decide_eq_true (List.all_eq_true.mp cst_e q hq)
  have := ((gm_tyr_s hF h).2 q.2.1 (Int.le_refl _) (Int.le_refl _)).2
  omega
theorem fr_0 : fr W M M := fun _ _ _ _ => rfl
theorem fr_c (h : fr W M M2) {c : Nat} {j : Int} (hc : W.all (fun w => !(w.1 == c)) = true) : M2 c j = M c j := by
  refine h c j (fun hm => ?_) (fun hm => ?_)
  · have := List.all_eq_true.mp hc _ hm
    simp at this
  · have := List.all_eq_true.mp hc _ hm
    simp at this
theorem fr_j (h : fr W M M2) {c : Nat} {j : Int} (hc : W.all (fun w => !(w.1 == c) || !(w.2 == none || w.2 == some j)) = true) : M2 c j = M c j := by
  refine h c j (fun hm => ?_) (fun hm => ?_)
  · have := List.all_eq_true.mp hc _ hm
    simp at this
  · have := List.all_eq_true.mp hc _ hm
    simp at this
theorem fr_p (h : fr W M M1) {k : Nat} {j v : Int} (hm : (k, none) ∈ W ∨ (k, some j) ∈ W) : fr W M (gm_uM M1 k j v) := by
  intro c i h1 h2
  rw [uM_ne]
  · exact h c i h1 h2
  · rintro ⟨rfl, rfl⟩
    rcases hm with hm | hm
    · exact h1 hm
    · exact h2 hm
theorem fr_t (h : fr W M M1) (h2 : fr W2 M1 M2) (hs : W2.all (fun w => W.any (fun v => v.1 == w.1 && (v.2 == none || v.2 == w.2))) = true) : fr W M M2 := by
  have key : ∀ w, w ∈ W2 → (w.1, none) ∈ W ∨ w ∈ W := fun w hw => by
    obtain ⟨v, hv, he⟩ := List.any_eq_true.mp (List.all_eq_true.mp hs w hw)
    obtain ⟨v1, v2⟩ := v
    obtain ⟨w1, w2⟩ := w
    simp only [Bool.and_eq_true, Bool.or_eq_true, beq_iff_eq] at he
    obtain ⟨rfl, rfl | rfl⟩ := he
    · exact Or.inl hv
    · exact Or.inr hv
  intro c j h3 h4
  rw [h2 c j (fun hm => (key _ hm).elim (fun h => h3 h) (fun h => h3 h)) (fun hm => (key _ hm).elim (fun h => h3 h) (fun h => h4 h))]
  exact h c j h3 h4
theorem cst_fr (hC : CST M) (h : fr W M M2) (hw : W.all (fun w => cstL.all (fun q => !(q.1 == w.1 && (w.2 == none || w.2 == some q.2.1)))) = true) : CST M2 := by
  intro q hq
  rw [h q.1 q.2.1 (fun hm => ?_) (fun hm => ?_)]
  · exact hC q hq
  · have := List.all_eq_true.mp (List.all_eq_true.mp hw _ hm) q hq
    simp at this
  · have := List.all_eq_true.mp (List.all_eq_true.mp hw _ hm) q hq
    simp at this
theorem fw_pz {X : Int → Int} {LX d mi pc : Nat} {L : gm_L} {st : List gm_V} {ix k ci j : Nat} {x : Int} {M' : gm_M} (h : gm_at mi pc = some (.putfield ix)) (hk : (1 ≤ k ∧ k ≤ n) ∧ (K k).1 = ci + 4) (hf : gm_fld (gm_ow mi) ix ci = some j) (hm : gm_may mi ci j = true) (hfit : gm_fk ci j = 1) (hz : x = 0 ∨ x = 1) (hM : gm_uM M k (j : Int) x = M') : gm_Sp X LX d mi pc L (gm_vi x :: gm_vr k :: st) n K R M (pc + 3) L st n K R M' 0 0 := by
  rw [← hM]
  exact gm_p_puti h hk.1 hk.2 hf hm (Or.inr ⟨hfit, hz⟩)
theorem fw_c4 {a b c e : gm_V} (h1 : ¬ gm_sort a = 1) (h2 : ¬ gm_sort b = 1) (h3 : ¬ gm_sort c = 1) (h4 : ¬ gm_sort e = 1) : ∀ v ∈ [a, b, c, e], ¬ gm_sort v = 1 := fun v hv => by
  rcases List.mem_cons.mp hv with rfl | hv
  · exact h1
  · exact fw_c3 h2 h3 h4 v hv
theorem fw_c5 {a b c e f : gm_V} (h1 : ¬ gm_sort a = 1) (h2 : ¬ gm_sort b = 1) (h3 : ¬ gm_sort c = 1) (h4 : ¬ gm_sort e = 1) (h5 : ¬ gm_sort f = 1) : ∀ v ∈ [a, b, c, e, f], ¬ gm_sort v = 1 := fun v hv => by
  rcases List.mem_cons.mp hv with rfl | hv
  · exact h1
  · exact fw_c4 h2 h3 h4 h5 v hv
end EV
section RWS
variable {X : Int → Int} {LX d bc bs n : Nat} {K : gm_K} {R : gm_R} {M : gm_M} {Q : gm_Q} {c a len : Nat} {s w row col x v m : Int}
theorem rw_get (hk : (1 ≤ c ∧ c ≤ n) ∧ (K c).1 = 2 + 4) (ha : (1 ≤ a ∧ a ≤ n) ∧ K a = (0, len)) (hr : R c ((2 : Nat) : Int) = a) (hl : len < 2147483648) (hs : M c 3 = s) (hw : M c 1 = w) (h1 : 0 ≤ row ∧ row < s) (h2 : 0 ≤ col ∧ col < w) (hi : 0 ≤ row * w + col ∧ row * w + col < len) (hb : s ≤ 100000 ∧ w ≤ 100000) (hx : M a (row * w + col) = x) (hq : Q (.inl (some (gm_vi x))) n K R M) : gm_Wp X LX d bc bs 10 0 (gm_ent 10 [gm_vr c, gm_vi row, gm_vi col]) [] n K R M Q := by
  refine gm_sz (gm_p_load (pc := 0) (i := .iload_n 1) (sr := 0) (j := 1) (by decide +kernel) rfl rfl rfl) ?_
  refine fw_iff (cc := .lt) (pc := 1) (off := 23) (by decide +kernel) (by decide) ⟨by omega, by omega⟩ (show ¬ row < 0 by omega) ?_
  refine gm_sz (gm_p_load (pc := 4) (i := .iload_n 1) (sr := 0) (j := 1) (by decide +kernel) rfl rfl rfl) ?_
  refine gm_sz (gm_p_load (pc := 5) (i := .aload_n 0) (sr := 2) (j := 0) (by decide +kernel) rfl rfl rfl) ?_
  refine gm_sz (fw_gi (pc := 6) (ix := 9) (ci := 2) (j := 3) (x := s) (by decide +kernel) hk (by decide +kernel) (by decide +kernel) hs) ?_
  refine fw_icf (cc := .ge) (pc := 9) (off := 15) (by decide +kernel) (by decide) ⟨by omega, by omega⟩ ⟨by omega, by omega⟩ (show ¬ s ≤ row by omega) ?_
  refine gm_sz (gm_p_load (pc := 12) (i := .iload_n 2) (sr := 0) (j := 2) (by decide +kernel) rfl rfl rfl) ?_
  refine fw_iff (cc := .lt) (pc := 13) (off := 11) (by decide +kernel) (by decide) ⟨by omega, by omega⟩ (show ¬ col < 0 by omega) ?_
  refine gm_sz (gm_p_load (pc := 16) (i := .iload_n 2) (sr := 0) (j := 2) (by decide +kernel) rfl rfl rfl) ?_
  refine gm_sz (gm_p_load (pc := 17) (i := .aload_n 0) (sr := 2) (j := 0) (by decide +kernel) rfl rfl rfl) ?_
  refine gm_sz (fw_gi (pc := 18) (ix := 18) (ci := 2) (j := 1) (x := w) (by decide +kernel) hk (by decide +kernel) (by decide +kernel) hw) ?_
  refine fw_ict (cc := .lt) (pc := 21) (off := 5) (by decide +kernel) (by decide) ⟨by omega, by omega⟩ ⟨by omega, by omega⟩ (show col < w by omega) ?_
  refine gm_sz (gm_p_load (pc := 26) (i := .aload_n 0) (sr := 2) (j := 0) (by decide +kernel) rfl rfl rfl) ?_
  refine gm_sz (fw_gr (pc := 27) (ix := 21) (ci := 2) (j := 2) (r := a) (by decide +kernel) hk (by decide +kernel) (by decide +kernel) hr) ?_
  refine gm_sz (gm_p_load (pc := 30) (i := .iload_n 1) (sr := 0) (j := 1) (by decide +kernel) rfl rfl rfl) ?_
  refine gm_sz (gm_p_load (pc := 31) (i := .aload_n 0) (sr := 2) (j := 0) (by decide +kernel) rfl rfl rfl) ?_
  refine gm_sz (fw_gi (pc := 32) (ix := 18) (ci := 2) (j := 1) (x := w) (by decide +kernel) hk (by decide +kernel) (by decide +kernel) hw) ?_
  refine gm_sz (gm_p_bin (pc := 35) (i := .imul) (f := fun x y => x * y) (by decide +kernel) rfl) ?_
  refine gm_sz (gm_p_load (pc := 36) (i := .iload_n 2) (sr := 0) (j := 2) (by decide +kernel) rfl rfl rfl) ?_
  refine gm_sz (gm_p_bin (pc := 37) (i := .iadd) (f := fun x y => x + y) (by decide +kernel) rfl) ?_
  refine gm_sz (fw_ia (pc := 38) (k := a) (len := len) (e0 := (row * w) + col) (x := x) (by decide +kernel) ha.1 ha.2 (by omega) ⟨by omega, by omega⟩ hx) ?_
  exact gm_r_int (pc := 39) (by decide +kernel) (Or.inl (by decide +kernel)) hq
theorem rw_none (hk : (1 ≤ c ∧ c ≤ n) ∧ (K c).1 = 2 + 4) (hs : M c 3 = s) (h1 : row < 0 ∨ s ≤ row) (hb : gm_ir row ∧ gm_ir s) (hq : Q (.inl (some (gm_vi (-1)))) n K R M) : gm_Wp X LX d bc bs 10 0 (gm_ent 10 [gm_vr c, gm_vi row, gm_vi col]) [] n K R M Q := by
  obtain ⟨⟨r1, r2⟩, s1, s2⟩ := hb
  refine gm_sz (gm_p_load (pc := 0) (i := .iload_n 1) (sr := 0) (j := 1) (by decide +kernel) rfl rfl rfl) ?_
  refine fw_if (cc := .lt) (pc := 1) (off := 23) (by decide +kernel) (by decide) ⟨by omega, by omega⟩ (fun h1 => ?_) (fun h1 => ?_)
  · have h1 : row < 0 := h1
    refine gm_sz (gm_p_const (pc := 24) (i := .iconst (-1)) (v := gm_vi (-1)) (by decide +kernel) (by decide +kernel)) ?_
    exact gm_r_int (pc := 25) (by decide +kernel) (Or.inl (by decide +kernel)) hq
  · have h1 : ¬ row < 0 := h1
    refine gm_sz (gm_p_load (pc := 4) (i := .iload_n 1) (sr := 0) (j := 1) (by decide +kernel) rfl rfl rfl) ?_
    refine gm_sz (gm_p_load (pc := 5) (i := .aload_n 0) (sr := 2) (j := 0) (by decide +kernel) rfl rfl rfl) ?_
    refine gm_sz (fw_gi (pc := 6) (ix := 9) (ci := 2) (j := 3) (x := s) (by decide +kernel) hk (by decide +kernel) (by decide +kernel) hs) ?_
    refine fw_ict (cc := .ge) (pc := 9) (off := 15) (by decide +kernel) (by decide) ⟨by omega, by omega⟩ ⟨by omega, by omega⟩ (show s ≤ row by omega) ?_
    refine gm_sz (gm_p_const (pc := 24) (i := .iconst (-1)) (v := gm_vi (-1)) (by decide +kernel) (by decide +kernel)) ?_
    exact gm_r_int (pc := 25) (by decide +kernel) (Or.inl (by decide +kernel)) hq
theorem rw_put (hk : (1 ≤ c ∧ c ≤ n) ∧ (K c).1 = 2 + 4) (ha : (1 ≤ a ∧ a ≤ n) ∧ K a = (0, len)) (hr : R c ((2 : Nat) : Int) = a) (hl : len < 2147483648) (hs : M c 3 = s) (hw : M c 1 = w) (h1 : 0 ≤ row ∧ row < s) (h2 : 0 ≤ col ∧ col < w) (hi : 0 ≤ row * w + col ∧ row * w + col < len) (hb : s ≤ 100000 ∧ w ≤ 100000) (hq : Q (.inl none) n K R (gm_uM M a (row * w + col) v)) : gm_Wp X LX d bc bs 45 0 (gm_ent 45 [gm_vr c, gm_vi row, gm_vi col, gm_vi v]) [] n K R M Q := by
  refine gm_sz (gm_p_load (pc := 0) (i := .iload_n 1) (sr := 0) (j := 1) (by decide +kernel) rfl rfl rfl) ?_
  refine fw_iff (cc := .lt) (pc := 1) (off := 37) (by decide +kernel) (by decide) ⟨by omega, by omega⟩ (show ¬ row < 0 by omega) ?_
  refine gm_sz (gm_p_load (pc := 4) (i := .iload_n 1) (sr := 0) (j := 1) (by decide +kernel) rfl rfl rfl) ?_
  refine gm_sz (gm_p_load (pc := 5) (i := .aload_n 0) (sr := 2) (j := 0) (by decide +kernel) rfl rfl rfl) ?_
  refine gm_sz (fw_gi (pc := 6) (ix := 9) (ci := 2) (j := 3) (x := s) (by decide +kernel) hk (by decide +kernel) (by decide +kernel) hs) ?_
  refine fw_icf (cc := .ge) (pc := 9) (off := 29) (by decide +kernel) (by decide) ⟨by omega, by omega⟩ ⟨by omega, by omega⟩ (show ¬ s ≤ row by omega) ?_
  refine gm_sz (gm_p_load (pc := 12) (i := .iload_n 2) (sr := 0) (j := 2) (by decide +kernel) rfl rfl rfl) ?_
  refine fw_iff (cc := .lt) (pc := 13) (off := 25) (by decide +kernel) (by decide) ⟨by omega, by omega⟩ (show ¬ col < 0 by omega) ?_
  refine gm_sz (gm_p_load (pc := 16) (i := .iload_n 2) (sr := 0) (j := 2) (by decide +kernel) rfl rfl rfl) ?_
  refine gm_sz (gm_p_load (pc := 17) (i := .aload_n 0) (sr := 2) (j := 0) (by decide +kernel) rfl rfl rfl) ?_
  refine gm_sz (fw_gi (pc := 18) (ix := 18) (ci := 2) (j := 1) (x := w) (by decide +kernel) hk (by decide +kernel) (by decide +kernel) hw) ?_
  refine fw_icf (cc := .ge) (pc := 21) (off := 17) (by decide +kernel) (by decide) ⟨by omega, by omega⟩ ⟨by omega, by omega⟩ (show ¬ w ≤ col by omega) ?_
  refine gm_sz (gm_p_load (pc := 24) (i := .aload_n 0) (sr := 2) (j := 0) (by decide +kernel) rfl rfl rfl) ?_
  refine gm_sz (fw_gr (pc := 25) (ix := 21) (ci := 2) (j := 2) (r := a) (by decide +kernel) hk (by decide +kernel) (by decide +kernel) hr) ?_
  refine gm_sz (gm_p_load (pc := 28) (i := .iload_n 1) (sr := 0) (j := 1) (by decide +kernel) rfl rfl rfl) ?_
  refine gm_sz (gm_p_load (pc := 29) (i := .aload_n 0) (sr := 2) (j := 0) (by decide +kernel) rfl rfl rfl) ?_
  refine gm_sz (fw_gi (pc := 30) (ix := 18) (ci := 2) (j := 1) (x := w) (by decide +kernel) hk (by decide +kernel) (by decide +kernel) hw) ?_
  refine gm_sz (gm_p_bin (pc := 33) (i := .imul) (f := fun x y => x * y) (by decide +kernel) rfl) ?_
  refine gm_sz (gm_p_load (pc := 34) (i := .iload_n 2) (sr := 0) (j := 2) (by decide +kernel) rfl rfl rfl) ?_
  refine gm_sz (gm_p_bin (pc := 35) (i := .iadd) (f := fun x y => x + y) (by decide +kernel) rfl) ?_
  refine gm_sz (gm_p_load (pc := 36) (i := .iload_n 3) (sr := 0) (j := 3) (by decide +kernel) rfl rfl rfl) ?_
  refine gm_sz (fw_is (pc := 37) (k := a) (len := len) (e0 := (row * w) + col) (x := v) (M' := gm_uM M a ((row * w) + col) v) (by decide +kernel) ha.1 ha.2 (by omega) ⟨by omega, by omega⟩ rfl) ?_
  exact gm_r_void (pc := 38) (by decide +kernel) (by decide +kernel) hq
theorem rw_size (hk : (1 ≤ c ∧ c ≤ n) ∧ (K c).1 = 2 + 4) (hs : M c 3 = s) (hq : Q (.inl (some (gm_vi s))) n K R M) : gm_Wp X LX d bc bs 9 0 (gm_ent 9 [gm_vr c]) [] n K R M Q := by
  refine gm_sz (gm_p_load (pc := 0) (i := .aload_n 0) (sr := 2) (j := 0) (by decide +kernel) rfl rfl rfl) ?_
  refine gm_sz (fw_gi (pc := 1) (ix := 9) (ci := 2) (j := 3) (x := s) (by decide +kernel) hk (by decide +kernel) (by decide +kernel) hs) ?_
  exact gm_r_int (pc := 4) (by decide +kernel) (Or.inl (by decide +kernel)) hq
theorem rw_add (hk : (1 ≤ c ∧ c ≤ n) ∧ (K c).1 = 2 + 4) (hs : M c 3 = s) (hm : M c 0 = m) (h1 : 0 ≤ s ∧ s < m) (hb : m ≤ 100000) (hq : Q (.inl (some (gm_vi s))) n K R (gm_uM M c 3 (s + 1))) : gm_Wp X LX d bc bs 102 0 (gm_ent 102 [gm_vr c]) [] n K R M Q := by
  refine gm_sz (gm_p_load (pc := 0) (i := .aload_n 0) (sr := 2) (j := 0) (by decide +kernel) rfl rfl rfl) ?_
  refine gm_sz (fw_gi (pc := 1) (ix := 9) (ci := 2) (j := 3) (x := s) (by decide +kernel) hk (by decide +kernel) (by decide +kernel) hs) ?_
  refine gm_sz (gm_p_load (pc := 4) (i := .aload_n 0) (sr := 2) (j := 0) (by decide +kernel) rfl rfl rfl) ?_
  refine gm_sz (fw_gi (pc := 5) (ix := 15) (ci := 2) (j := 0) (x := m) (by decide +kernel) hk (by decide +kernel) (by decide +kernel) hm) ?_
  refine fw_ict (cc := .lt) (pc := 8) (off := 5) (by decide +kernel) (by decide) ⟨by omega, by omega⟩ ⟨by omega, by omega⟩ (show s < m by omega) ?_
  refine gm_sz (gm_p_load (pc := 13) (i := .aload_n 0) (sr := 2) (j := 0) (by decide +kernel) rfl rfl rfl) ?_
  refine gm_sz (gm_p_dup (pc := 14) (by decide +kernel) fw_sr) ?_
  refine gm_sz (fw_gi (pc := 15) (ix := 9) (ci := 2) (j := 3) (x := s) (by decide +kernel) hk (by decide +kernel) (by decide +kernel) hs) ?_
  refine gm_sz (gm_p_const (pc := 18) (i := .iconst 1) (v := gm_vi 1) (by decide +kernel) (by decide +kernel)) ?_
  refine gm_sz (gm_p_bin (pc := 19) (i := .iadd) (f := fun x y => x + y) (by decide +kernel) rfl) ?_
  refine gm_sz (fw_pi (pc := 20) (ix := 9) (ci := 2) (j := 3) (M' := gm_uM M c 3 (s + 1)) (by decide +kernel) hk (by decide +kernel) (by decide +kernel) (by decide +kernel) rfl) ?_
  refine gm_sz (gm_p_load (pc := 23) (i := .aload_n 0) (sr := 2) (j := 0) (by decide +kernel) rfl rfl rfl) ?_
  refine gm_sz (fw_gi (pc := 24) (ix := 9) (ci := 2) (j := 3) (x := s + 1) (by decide +kernel) hk (by decide +kernel) (by decide +kernel) uM_at) ?_
  refine gm_sz (gm_p_const (pc := 27) (i := .iconst 1) (v := gm_vi 1) (by decide +kernel) (by decide +kernel)) ?_
  refine gm_sz (gm_p_bin (pc := 28) (i := .isub) (f := fun x y => x - y) (by decide +kernel) rfl) ?_
  rw [show (s + 1) - 1 = s by omega]
  exact gm_r_int (pc := 29) (by decide +kernel) (Or.inl (by decide +kernel)) hq
theorem rw_full (hk : (1 ≤ c ∧ c ≤ n) ∧ (K c).1 = 2 + 4) (hs : M c 3 = s) (hm : M c 0 = m) (hb : gm_ir s ∧ gm_ir m) (h1 : m ≤ s → Q (.inl (some (gm_vi 1))) n K R M) (h0 : s < m → Q (.inl (some (gm_vi 0))) n K R M) : gm_Wp X LX d bc bs 108 0 (gm_ent 108 [gm_vr c]) [] n K R M Q := by
  obtain ⟨⟨s1, s2⟩, m1, m2⟩ := hb
  refine gm_sz (gm_p_load (pc := 0) (i := .aload_n 0) (sr := 2) (j := 0) (by decide +kernel) rfl rfl rfl) ?_
  refine gm_sz (fw_gi (pc := 1) (ix := 9) (ci := 2) (j := 3) (x := s) (by decide +kernel) hk (by decide +kernel) (by decide +kernel) hs) ?_
  refine gm_sz (gm_p_load (pc := 4) (i := .aload_n 0) (sr := 2) (j := 0) (by decide +kernel) rfl rfl rfl) ?_
  refine gm_sz (fw_gi (pc := 5) (ix := 15) (ci := 2) (j := 0) (x := m) (by decide +kernel) hk (by decide +kernel) (by decide +kernel) hm) ?_
  refine fw_ic (cc := .lt) (pc := 8) (off := 7) (by decide +kernel) (by decide) ⟨by omega, by omega⟩ ⟨by omega, by omega⟩ (fun h8 => ?_) (fun h8 => ?_)
  · have h8 : s < m := h8
    refine gm_sz (gm_p_const (pc := 15) (i := .iconst 0) (v := gm_vi 0) (by decide +kernel) (by decide +kernel)) ?_
    exact gm_r_int (pc := 16) (by decide +kernel) (Or.inr ⟨(by decide +kernel), Or.inl rfl⟩) (h0 (by omega))
  · have h8 : ¬ s < m := h8
    refine gm_sz (gm_p_const (pc := 11) (i := .iconst 1) (v := gm_vi 1) (by decide +kernel) (by decide +kernel)) ?_
    refine gm_sz (gm_p_goto (pc := 12) (off := 4) (by decide +kernel) (by decide)) ?_
    exact gm_r_int (pc := 16) (by decide +kernel) (Or.inr ⟨(by decide +kernel), Or.inr rfl⟩) (h1 (by omega))
/-- a cell filled up to i -/
noncomputable def gm_fil (M : gm_M) (a : Nat) (i v : Int) : gm_M := fun c j => if c = a ∧ 0 ≤ j ∧ j < i then v else M c j
theorem gm_fil_s {i : Int} (hi : 0 ≤ i) : gm_uM (gm_fil M a i v) a i v = gm_fil M a (i + 1) v := by
  funext c j
  unfold gm_uM gm_fil
  by_cases h1 : c = a
  · by_cases h2 : j = i
    · subst h2; subst h1; rw [if_pos ⟨rfl, rfl⟩, if_pos ⟨rfl, by omega, by omega⟩]
    · rw [if_neg (fun h => h2 h.2)]
      by_cases h3 : 0 ≤ j ∧ j < i
      · rw [if_pos ⟨h1, h3⟩, if_pos ⟨h1, by omega, by omega⟩]
      · rw [if_neg (fun h => h3 h.2), if_neg (fun h => by omega)]
  · rw [if_neg (fun h => h1 h.1), if_neg (fun h => h1 h.1), if_neg (fun h => h1 h.1)]
theorem gm_fil_0 : gm_fil M a 0 v = M := by
  funext c j
  unfold gm_fil
  rw [if_neg (fun h => by omega)]
theorem fl_l (ha : (1 ≤ a ∧ a ≤ n) ∧ K a = (0, len)) (hl : len < 2147483648) (hq : Q (.inl none) n K R (gm_fil M a len v)) : ∀ (u : Nat) (i : Int), i + u = len → 0 ≤ i → gm_Wp X LX d bc bs 8 5 [some (gm_vr a), some (gm_vi v), some (gm_vi i), some (gm_vi (len : Int))] [] n K R (gm_fil M a i v) Q := by
  intro u
  induction u with
  | zero =>
    intro i hu h0
    have hi : i = (len : Int) := by omega
    subst hi
    refine gm_sz (gm_p_load (pc := 5) (i := .iload_n 2) (sr := 0) (j := 2) (by decide +kernel) rfl rfl rfl) ?_
    refine gm_sz (gm_p_load (pc := 6) (i := .iload_n 3) (sr := 0) (j := 3) (by decide +kernel) rfl rfl rfl) ?_
    refine fw_ict (cc := .ge) (pc := 7) (off := 13) (by decide +kernel) (by decide) ⟨by omega, by omega⟩ ⟨by omega, by omega⟩ (show (len : Int) ≤ (len : Int) by omega) ?_
    exact gm_r_void (pc := 20) (by decide +kernel) (by decide +kernel) hq
  | succ u ih =>
    intro i hu h0
    refine gm_sz (gm_p_load (pc := 5) (i := .iload_n 2) (sr := 0) (j := 2) (by decide +kernel) rfl rfl rfl) ?_
    refine gm_sz (gm_p_load (pc := 6) (i := .iload_n 3) (sr := 0) (j := 3) (by decide +kernel) rfl rfl rfl) ?_
    refine fw_icf (cc := .ge) (pc := 7) (off := 13) (by decide +kernel) (by decide) ⟨by omega, by omega⟩ ⟨by omega, by omega⟩ (show ¬ (len : Int) ≤ i by omega) ?_
    refine gm_sz (gm_p_load (pc := 10) (i := .aload_n 0) (sr := 2) (j := 0) (by decide +kernel) rfl rfl rfl) ?_
    refine gm_sz (gm_p_load (pc := 11) (i := .iload_n 2) (sr := 0) (j := 2) (by decide +kernel) rfl rfl rfl) ?_
    refine gm_sz (gm_p_load (pc := 12) (i := .iload_n 1) (sr := 0) (j := 1) (by decide +kernel) rfl rfl rfl) ?_
    refine gm_sz (fw_is (pc := 13) (k := a) (len := len) (e0 := i) (x := v) (M' := gm_fil M a (i + 1) v) (by decide +kernel) ha.1 ha.2 (by omega) ⟨by omega, by omega⟩ (gm_fil_s h0)) ?_
    refine gm_sz (gm_p_iinc (pc := 14) (j := 2) (z := 1) (by decide +kernel) rfl) ?_
    refine gm_sz (gm_p_goto (pc := 17) (off := (-12)) (by decide +kernel) (by decide)) ?_
    exact ih (i + 1) (by omega) (by omega)
theorem fl_c8 (ha : (1 ≤ a ∧ a ≤ n) ∧ K a = (0, len)) (hl : len < 2147483648) (hq : Q (.inl none) n K R (gm_fil M a len v)) : gm_Wp X LX d bc bs 8 0 (gm_ent 8 [gm_vr a, gm_vi v]) [] n K R M Q := by
  refine gm_sz (gm_p_const (pc := 0) (i := .iconst 0) (v := gm_vi 0) (by decide +kernel) (by decide +kernel)) ?_
  refine gm_sz (gm_p_stor (pc := 1) (i := .istore_n 2) (sr := 0) (j := 2) (by decide +kernel) rfl (show 3 ≤ _ from Nat.le_of_ble_eq_true rfl) rfl) ?_
  refine gm_sz (gm_p_load (pc := 2) (i := .aload_n 0) (sr := 2) (j := 0) (by decide +kernel) rfl rfl rfl) ?_
  refine gm_sz (fw_al (pc := 3) (k := a) (len := len) (by decide +kernel) ha.1 ha.2 (by decide)) ?_
  refine gm_sz (gm_p_stor (pc := 4) (i := .istore_n 3) (sr := 0) (j := 3) (by decide +kernel) rfl (show 4 ≤ _ from Nat.le_of_ble_eq_true rfl) rfl) ?_
  have q := fl_l (X := X) (LX := LX) (d := d) (bc := bc) (bs := bs) (R := R) (M := M) (Q := Q) (v := v) ha hl hq len 0 (by omega) (Int.le_refl _)
  rw [gm_fil_0] at q
  exact q
theorem rw_reset (hd : 1 ≤ d) (hk : (1 ≤ c ∧ c ≤ n) ∧ (K c).1 = 2 + 4) (ha : (1 ≤ a ∧ a ≤ n) ∧ K a = (0, len)) (hr : R c ((2 : Nat) : Int) = a) (hl : len < 2147483648) (hm : M c 0 = m) (h1 : 0 ≤ row ∧ row ≤ m) (hb : m ≤ 100000) (hq : Q (.inl none) n K R (gm_fil (gm_uM M c 3 row) a len 0)) : gm_Wp X LX d bc bs 25 0 (gm_ent 25 [gm_vr c, gm_vi row]) [] n K R M Q := by
  refine gm_sz (gm_p_load (pc := 0) (i := .aload_n 0) (sr := 2) (j := 0) (by decide +kernel) rfl rfl rfl) ?_
  refine gm_sz (gm_p_const (pc := 1) (i := .iconst 0) (v := gm_vi 0) (by decide +kernel) (by decide +kernel)) ?_
  refine gm_sz (gm_p_load (pc := 2) (i := .iload_n 1) (sr := 0) (j := 1) (by decide +kernel) rfl rfl rfl) ?_
  refine gm_sz (gm_p_load (pc := 3) (i := .aload_n 0) (sr := 2) (j := 0) (by decide +kernel) rfl rfl rfl) ?_
  refine gm_sz (fw_gi (pc := 4) (ix := 15) (ci := 2) (j := 0) (x := m) (by decide +kernel) hk (by decide +kernel) (by decide +kernel) hm) ?_
  refine gm_sz (gm_p_min (pc := 7) (ix := 25) (x := row) (y := m) (by decide +kernel) (by decide +kernel) (gm_w_id (by omega) (by omega)) (gm_w_id (by omega) (by omega)) (Nat.le_of_ble_eq_true rfl) (by omega)) ?_
  refine gm_sz (gm_p_max (pc := 10) (ix := 31) (x := 0) (y := min row m) (by decide +kernel) (by decide +kernel) (gm_w_id (by omega) (by omega)) (gm_w_id (by omega) (by omega)) (Nat.le_of_ble_eq_true rfl) (by omega)) ?_
  rw [show max 0 (min row m) = row by omega]
  refine gm_sz (fw_pi (pc := 13) (ix := 9) (ci := 2) (j := 3) (M' := gm_uM M c 3 row) (by decide +kernel) hk (by decide +kernel) (by decide +kernel) (by decide +kernel) rfl) ?_
  refine gm_sz (gm_p_load (pc := 16) (i := .aload_n 0) (sr := 2) (j := 0) (by decide +kernel) rfl rfl rfl) ?_
  refine gm_sz (fw_gr (pc := 17) (ix := 21) (ci := 2) (j := 2) (r := a) (by decide +kernel) hk (by decide +kernel) (by decide +kernel) hr) ?_
  refine gm_sz (gm_p_const (pc := 20) (i := .iconst 0) (v := gm_vi 0) (by decide +kernel) (by decide +kernel)) ?_
  refine gm_c_stat (mj := 8) (ix := 34) (pc := 21) (as := [gm_vr a, gm_vi 0]) (st := []) (d' := d - 1) (bc' := 0) (bs' := 0) (by decide +kernel) (by decide +kernel) (by decide +kernel) (by decide +kernel) (show 2 = gm_na 8 by decide +kernel) (fw_c2 fw_sr fw_si) (show 2 ≤ gm_ml 8 by decide +kernel) (Nat.le_of_ble_eq_true rfl) (by omega) (Nat.zero_le _) (Nat.zero_le _) ?_
  refine fl_c8 ha hl ?_
  show gm_Wp X LX d _ _ 25 24 _ [] n K _ _ Q
  exact gm_r_void (pc := 24) (by decide +kernel) (by decide +kernel) hq
end RWS
end
