/-! WALKING BY HAND: what is read and written is told; branches over plain numbers. -/
/-- a condition between two given numbers -/
def fw_b (c : ClassFile.Cond) (x y : Int) : Bool := match c with
  | .eq => decide (x = y)
  | .ne => decide (¬ x = y)
  | .lt => decide (x < y)
  | .ge => decide (y ≤ x)
  | .gt => decide (y < x)
  | .le => decide (x ≤ y)
section FW
variable {X : Int → Int} {LX d bc bs mi pc n : Nat} {L : gm_L} {st : List gm_V} {K : gm_K} {R : gm_R} {M : gm_M} {Q : gm_Q}
theorem fw_gi {ix k ci j : Nat} {x : Int} (h : gm_at mi pc = some (.getfield ix)) (hk : (1 ≤ k ∧ k ≤ n) ∧ (K k).1 = ci + 4) (hf : gm_fld (gm_ow mi) ix ci = some j) (hr : ¬ gm_isr ci j = true) (hx : M k (j : Int) = x) : gm_Sp X LX d mi pc L (gm_vr k :: st) n K R M (pc + 3) L (gm_vi x :: st) n K R M 0 0 := by
  have t := gm_p_get (X := X) (LX := LX) (d := d) (L := L) (st := st) (K := K) (R := R) (M := M) h hk.1 hk.2 hf
  rw [if_neg hr, hx] at t
  exact t
theorem fw_gr {ix k ci j r : Nat} (h : gm_at mi pc = some (.getfield ix)) (hk : (1 ≤ k ∧ k ≤ n) ∧ (K k).1 = ci + 4) (hf : gm_fld (gm_ow mi) ix ci = some j) (hr : gm_isr ci j = true) (hx : R k (j : Int) = r) : gm_Sp X LX d mi pc L (gm_vr k :: st) n K R M (pc + 3) L (gm_vr r :: st) n K R M 0 0 := by
  have t := gm_p_get (X := X) (LX := LX) (d := d) (L := L) (st := st) (K := K) (R := R) (M := M) h hk.1 hk.2 hf
  rw [if_pos hr, hx] at t
  exact t
theorem fw_pi {ix k ci j : Nat} {x : Int} {M' : gm_M} (h : gm_at mi pc = some (.putfield ix)) (hk : (1 ≤ k ∧ k ≤ n) ∧ (K k).1 = ci + 4) (hf : gm_fld (gm_ow mi) ix ci = some j) (hm : gm_may mi ci j = true) (hfit : gm_fk ci j = 0) (hM : gm_uM M k (j : Int) x = M') : gm_Sp X LX d mi pc L (gm_vi x :: gm_vr k :: st) n K R M (pc + 3) L st n K R M' 0 0 := by
  rw [← hM]
  exact gm_p_puti h hk.1 hk.2 hf hm (Or.inl hfit)
theorem fw_ba {k len : Nat} {e0 x : Int} (h : gm_at mi pc = some .baload) (hk : 1 ≤ k ∧ k ≤ n) (hK : K k = (1, len)) (hl : len < 2147483648) (hi : 0 ≤ e0 ∧ e0 < (len : Int)) (hx : M k e0 = x) : gm_Sp X LX d mi pc L (gm_vi e0 :: gm_vr k :: st) n K R M (pc + 1) L (gm_vi x :: st) n K R M 0 0 := by
  have w : gm_w e0 = e0 := gm_w_id (by omega) (by omega)
  have t := gm_p_bald (X := X) (LX := LX) (d := d) (L := L) (st := st) (K := K) (R := R) (M := M) (e0 := e0) h hk (by rw [hK]) (by rw [w, hK]; exact hi)
  rw [w, hx] at t
  exact t
theorem fw_ia {k len : Nat} {e0 x : Int} (h : gm_at mi pc = some .iaload) (hk : 1 ≤ k ∧ k ≤ n) (hK : K k = (0, len)) (hl : len < 2147483648) (hi : 0 ≤ e0 ∧ e0 < (len : Int)) (hx : M k e0 = x) : gm_Sp X LX d mi pc L (gm_vi e0 :: gm_vr k :: st) n K R M (pc + 1) L (gm_vi x :: st) n K R M 0 0 := by
  have w : gm_w e0 = e0 := gm_w_id (by omega) (by omega)
  have t := gm_p_iald (X := X) (LX := LX) (d := d) (L := L) (st := st) (K := K) (R := R) (M := M) (e0 := e0) h hk (by rw [hK]) (by rw [w, hK]; exact hi)
  rw [w, hx] at t
  exact t
theorem fw_is {k len : Nat} {e0 x : Int} {M' : gm_M} (h : gm_at mi pc = some .iastore) (hk : 1 ≤ k ∧ k ≤ n) (hK : K k = (0, len)) (hl : len < 2147483648) (hi : 0 ≤ e0 ∧ e0 < (len : Int)) (hM : gm_uM M k e0 x = M') : gm_Sp X LX d mi pc L (gm_vi x :: gm_vi e0 :: gm_vr k :: st) n K R M (pc + 1) L st n K R M' 0 0 := by
  have w : gm_w e0 = e0 := gm_w_id (by omega) (by omega)
  have t := gm_p_iast (X := X) (LX := LX) (d := d) (L := L) (st := st) (K := K) (R := R) (M := M) (e0 := e0) (x := x) h hk (by rw [hK]) (by rw [w, hK]; exact hi)
  rw [w, hM] at t
  exact t
theorem fw_bs {k len : Nat} {e0 x : Int} {M' : gm_M} (h : gm_at mi pc = some .bastore) (hk : 1 ≤ k ∧ k ≤ n) (hK : K k = (1, len)) (hl : len < 2147483648) (hi : 0 ≤ e0 ∧ e0 < (len : Int)) (hM : gm_uM M k e0 (gm_wb x) = M') : gm_Sp X LX d mi pc L (gm_vi x :: gm_vi e0 :: gm_vr k :: st) n K R M (pc + 1) L st n K R M' 0 0 := by
  have w : gm_w e0 = e0 := gm_w_id (by omega) (by omega)
  have t := gm_p_bast (X := X) (LX := LX) (d := d) (L := L) (st := st) (K := K) (R := R) (M := M) (e0 := e0) (x := x) h hk (by rw [hK]) (by rw [w, hK]; exact hi)
  rw [w, hM] at t
  exact t
theorem fw_al {k c len : Nat} (h : gm_at mi pc = some .arraylength) (hk : 1 ≤ k ∧ k ≤ n) (hK : K k = (c, len)) (hc : c ≤ 3) : gm_Sp X LX d mi pc L (gm_vr k :: st) n K R M (pc + 1) L (gm_vi (len : Int) :: st) n K R M 0 0 := by
  have t := gm_p_alen (X := X) (LX := LX) (d := d) (L := L) (st := st) (K := K) (R := R) (M := M) h hk (by rw [hK]; exact hc)
  rw [hK] at t
  exact t
theorem fw_ic {cc : ClassFile.Cond} {off x y : Int} (h : gm_at mi pc = some (.if_icmp cc off)) (ht : 0 ≤ (pc : Int) + off) (hx : gm_ir x) (hy : gm_ir y) (kt : gm_cm cc x y → gm_Wp X LX d bc bs mi (gm_tgt pc off) L st n K R M Q) (kf : ¬ gm_cm cc x y → gm_Wp X LX d bc bs mi (pc + 3) L st n K R M Q) : gm_Wp X LX d bc bs mi pc L (gm_vi y :: gm_vi x :: st) n K R M Q :=
  gm_b_ic h ht (fun hp => kt (by rwa [gm_cm_w hx hy] at hp)) (fun hp => kf (by rwa [gm_cm_w hx hy] at hp))
theorem fw_if {cc : ClassFile.Cond} {off x : Int} (h : gm_at mi pc = some (.ifCond cc off)) (ht : 0 ≤ (pc : Int) + off) (hx : gm_ir x) (kt : gm_cm cc x 0 → gm_Wp X LX d bc bs mi (gm_tgt pc off) L st n K R M Q) (kf : ¬ gm_cm cc x 0 → gm_Wp X LX d bc bs mi (pc + 3) L st n K R M Q) : gm_Wp X LX d bc bs mi pc L (gm_vi x :: st) n K R M Q :=
  gm_b_if h ht (fun hp => kt (by rwa [gm_cm_w hx ⟨by decide, by decide⟩] at hp)) (fun hp => kf (by rwa [gm_cm_w hx ⟨by decide, by decide⟩] at hp))
/-- a branch whose way is known -/
theorem fw_ict {cc : ClassFile.Cond} {off x y : Int} (h : gm_at mi pc = some (.if_icmp cc off)) (ht : 0 ≤ (pc : Int) + off) (hx : gm_ir x) (hy : gm_ir y) (hc : gm_cm cc x y) (k : gm_Wp X LX d bc bs mi (gm_tgt pc off) L st n K R M Q) : gm_Wp X LX d bc bs mi pc L (gm_vi y :: gm_vi x :: st) n K R M Q := fw_ic h ht hx hy (fun _ => k) (fun h => absurd hc h)
theorem fw_icf {cc : ClassFile.Cond} {off x y : Int} (h : gm_at mi pc = some (.if_icmp cc off)) (ht : 0 ≤ (pc : Int) + off) (hx : gm_ir x) (hy : gm_ir y) (hc : ¬ gm_cm cc x y) (k : gm_Wp X LX d bc bs mi (pc + 3) L st n K R M Q) : gm_Wp X LX d bc bs mi pc L (gm_vi y :: gm_vi x :: st) n K R M Q := fw_ic h ht hx hy (fun h => absurd h hc) (fun _ => k)
theorem fw_ift {cc : ClassFile.Cond} {off x : Int} (h : gm_at mi pc = some (.ifCond cc off)) (ht : 0 ≤ (pc : Int) + off) (hx : gm_ir x) (hc : gm_cm cc x 0) (k : gm_Wp X LX d bc bs mi (gm_tgt pc off) L st n K R M Q) : gm_Wp X LX d bc bs mi pc L (gm_vi x :: st) n K R M Q := fw_if h ht hx (fun _ => k) (fun h => absurd hc h)
theorem fw_iff {cc : ClassFile.Cond} {off x : Int} (h : gm_at mi pc = some (.ifCond cc off)) (ht : 0 ≤ (pc : Int) + off) (hx : gm_ir x) (hc : ¬ gm_cm cc x 0) (k : gm_Wp X LX d bc bs mi (pc + 3) L st n K R M Q) : gm_Wp X LX d bc bs mi pc L (gm_vi x :: st) n K R M Q := fw_if h ht hx (fun h => absurd h hc) (fun _ => k)
theorem fw_bt {c : ClassFile.Cond} {x y : Int} (h : fw_b c x y = true) : gm_cm c x y := by
  cases c with
  | eq => exact of_decide_eq_true (p := x = y) h
  | ne => exact of_decide_eq_true (p := ¬ x = y) h
  | lt => exact of_decide_eq_true (p := x < y) h
  | ge => exact of_decide_eq_true (p := y ≤ x) h
  | gt => exact of_decide_eq_true (p := y < x) h
  | le => exact of_decide_eq_true (p := x ≤ y) h
theorem fw_bf {c : ClassFile.Cond} {x y : Int} (h : fw_b c x y = false) : ¬ gm_cm c x y := by
  cases c with
  | eq => exact of_decide_eq_false (p := x = y) h
  | ne => exact of_decide_eq_false (p := ¬ x = y) h
  | lt => exact of_decide_eq_false (p := x < y) h
  | ge => exact of_decide_eq_false (p := y ≤ x) h
  | gt => exact of_decide_eq_false (p := y < x) h
  | le => exact of_decide_eq_false (p := x ≤ y) h
theorem fw_ictd {cc : ClassFile.Cond} {off x y : Int} (h : gm_at mi pc = some (.if_icmp cc off)) (ht : 0 ≤ (pc : Int) + off) (hx : gm_ir x) (hy : gm_ir y) (hc : fw_b cc x y = true) (k : gm_Wp X LX d bc bs mi (gm_tgt pc off) L st n K R M Q) : gm_Wp X LX d bc bs mi pc L (gm_vi y :: gm_vi x :: st) n K R M Q := fw_ict h ht hx hy (fw_bt hc) k
theorem fw_icfd {cc : ClassFile.Cond} {off x y : Int} (h : gm_at mi pc = some (.if_icmp cc off)) (ht : 0 ≤ (pc : Int) + off) (hx : gm_ir x) (hy : gm_ir y) (hc : fw_b cc x y = false) (k : gm_Wp X LX d bc bs mi (pc + 3) L st n K R M Q) : gm_Wp X LX d bc bs mi pc L (gm_vi y :: gm_vi x :: st) n K R M Q := fw_icf h ht hx hy (fw_bf hc) k
theorem fw_iftd {cc : ClassFile.Cond} {off x : Int} (h : gm_at mi pc = some (.ifCond cc off)) (ht : 0 ≤ (pc : Int) + off) (hx : gm_ir x) (hc : fw_b cc x 0 = true) (k : gm_Wp X LX d bc bs mi (gm_tgt pc off) L st n K R M Q) : gm_Wp X LX d bc bs mi pc L (gm_vi x :: st) n K R M Q := fw_ift h ht hx (fw_bt hc) k
theorem fw_iffd {cc : ClassFile.Cond} {off x : Int} (h : gm_at mi pc = some (.ifCond cc off)) (ht : 0 ≤ (pc : Int) + off) (hx : gm_ir x) (hc : fw_b cc x 0 = false) (k : gm_Wp X LX d bc bs mi (pc + 3) L st n K R M Q) : gm_Wp X LX d bc bs mi pc L (gm_vi x :: st) n K R M Q := fw_iff h ht hx (fw_bf hc) k
end FW
theorem fw_c0 : ∀ v ∈ ([] : List gm_V), ¬ gm_sort v = 1 := fun _ h => nomatch h
theorem fw_c1 {u : gm_V} (h : ¬ gm_sort u = 1) : ∀ v ∈ [u], ¬ gm_sort v = 1 := fun v hv => by rw [List.mem_singleton.mp hv]; exact h
theorem fw_c2 {u u2 : gm_V} (h : ¬ gm_sort u = 1) (h2 : ¬ gm_sort u2 = 1) : ∀ v ∈ [u, u2], ¬ gm_sort v = 1 := fun v hv => by
  rcases List.mem_cons.mp hv with rfl | hv
  · exact h
  · exact fw_c1 h2 v hv
theorem fw_c3 {u u2 u3 : gm_V} (h : ¬ gm_sort u = 1) (h2 : ¬ gm_sort u2 = 1) (h3 : ¬ gm_sort u3 = 1) : ∀ v ∈ [u, u2, u3], ¬ gm_sort v = 1 := fun v hv => by
  rcases List.mem_cons.mp hv with rfl | hv
  · exact h
  · exact fw_c2 h2 h3 v hv
theorem fw_si {x : Int} : ¬ gm_sort (gm_vi x) = 1 := by show ¬ (0 : Nat) = 1; decide
theorem fw_sr {k : Nat} : ¬ gm_sort (gm_vr k) = 1 := by show ¬ (2 : Nat) = 1; decide
theorem fw_so {k : Nat} : ¬ gm_sort (gm_vo k) = 1 := by show ¬ (2 : Nat) = 1; decide
theorem uM_uM {M : gm_M} {k : Nat} {j x y : Int} : gm_uM (gm_uM M k j x) k j y = gm_uM M k j y := by
  funext a b
  unfold gm_uM
  split <;> rfl
