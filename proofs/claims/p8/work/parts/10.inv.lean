/-! THE CALLS, kind by kind. -/
theorem gm_cal_spec {o ix kd mj : Nat} (h : gm_cal o ix = some (kd, mj)) : mj < 370 ∧ Jvm.Cond.initialized (gm_mn mj).cls ∈ gm_T ∧ (kd ≠ 3 → Jvm.Cond.methodLink (gm_rn o) ix (gm_mn mj) ∈ gm_T) ∧ (kd = 0 → Jvm.Cond.instanceMethod (gm_mn mj) ∈ gm_T ∧ Jvm.Cond.selects (gm_mn mj).cls (gm_mn mj) (gm_mn mj) ∈ gm_T) ∧ (kd = 1 ∨ kd = 3 → Jvm.Cond.instanceMethod (gm_mn mj) ∈ gm_T ∧ (gm_mn mj).name = "<init>" ∧ gm_rt mj = none) ∧ (kd = 2 ∨ kd = 5 → Jvm.Cond.static (gm_mn mj) ∈ gm_T) ∧ (kd ≠ 5 → gm_hh mj = []) ∧ (kd = 3 → ∃ r ∈ gm_nst, r.1 = gm_rn o ∧ r.2.1 = ix ∧ r.2.2.1 = gm_mn mj) := by
  have h := gm_cal_le h
  unfold gm_cal0 at h
  cases hr : gm_co[o]? with
  | none => rw [hr] at h; simp at h
  | some r =>
    rw [hr] at h
    have h2 := gm_lookup_mem _ _ _ h
    have hlt := (List.getElem?_eq_some_iff.mp hr).1
    have h3 := List.all_eq_true.mp gm_co_ok o (List.mem_range.mpr hlt)
    rw [hr] at h3
    have h4 := List.all_eq_true.mp h3 _ h2
    obtain ⟨q, hq, hq2⟩ := List.any_eq_true.mp h4
    have h5 := gm_cl_ok hq
    obtain ⟨a1, a2, a3, a4, a5, a6, a7, a8⟩ := q
    simp only [decide_eq_true_eq, Prod.mk.injEq] at hq2
    obtain ⟨rfl, rfl, rfl, rfl⟩ := hq2
    simp only [gm_cck, Bool.and_eq_true, decide_eq_true_eq] at h5
    obtain ⟨b1, ⟨⟨⟨b2, b3⟩, b4⟩, b5⟩, b6⟩ := h5
    refine ⟨b1, gm_T_in b2 rfl, fun q => ?_, fun q => ?_, fun q => ?_, fun q => ?_, fun q => ?_, fun q => ?_⟩
    · rw [if_neg q] at b3
      exact gm_T_in (by simpa using b3) rfl
    · subst q
      simp only [if_true, Bool.and_eq_true, decide_eq_true_eq] at b4
      exact ⟨gm_T_in b4.1 rfl, gm_T_in b4.2 rfl⟩
    · rw [if_neg (by omega), if_pos q] at b4
      simp only [Bool.and_eq_true, decide_eq_true_eq] at b4
      exact ⟨gm_T_in b4.1 rfl, b4.2⟩
    · rw [if_neg (by omega), if_neg (by omega)] at b4
      exact gm_T_in (by simpa using b4) rfl
    · rw [if_neg q] at b5
      simpa using b5
    · rw [if_pos q] at b6
      obtain ⟨r9, hr9, hr8⟩ := List.any_eq_true.mp b6
      exact ⟨r9, hr9, by simpa using hr8⟩
theorem gm_cat_eq {α adK : Nat → Nat} {n : Nat} {v : gm_V} {w : Value} (h : gm_cv α adK n v w) : w.category = gm_cat v := by
  unfold gm_cat
  split
  · rename_i hs
    rcases v with x | x | y
    · simp [gm_sort] at hs
    · cases h; rfl
    · simp [gm_sort] at hs
  · rename_i hs; exact gm_cat1 h hs
theorem gm_sum_eq {α adK : Nat → Nat} {n : Nat} : ∀ {st : List gm_V} {sv : List Value}, gm_sr α adK n st sv → (sv.map fun v => v.category).sum = (st.map gm_cat).sum := by
  intro st
  induction st with
  | nil => intro sv h; cases h; rfl
  | cons v st ih =>
    intro sv h
    obtain ⟨w, sv', rfl, hw, h⟩ := h
    simp only [List.map_cons, List.sum_cons, ih h, gm_cat_eq hw]
section GI
variable {X : Int → Int} {LX d bc bs mi pc : Nat} {L : gm_L} {st : List gm_V} {n : Nat} {K : gm_K} {R : gm_R} {M : gm_M} {Q : gm_Q}
theorem gm_sub_A {A : Nat → Prop} {H0 H : Heap} {locs : List Loc} {ws : va_W} (hD : va_D A ws) (hS : va_S A H0 H locs) (hA : ∀ q, H0.size ≤ q → A q) : ∀ q, va_A ws H.size q → A q := by
  intro q h
  rcases h with ⟨k, e, h⟩ | h
  · exact hD.2 k (q, e) h
  · exact hA q (Nat.le_trans hS.1 h)
theorem gm_c_virt {ix mj k ci d' bc' bs' : Nat} {as : List gm_V} (h : gm_at mi pc = some (.invokevirtual ix)) (hc : gm_cal (gm_ow mi) ix = some (0, mj)) (hmx : gm_ow mj ≠ gm_mxi) (hh : gm_hh mi = []) (hk : 1 ≤ k ∧ k ≤ n) (hK : (K k).1 = ci + 4) (hci : ci < 12) (hcn : gm_cn ci = (gm_mn mj).cls) (hna : as.length = gm_na mj) (hcat : ∀ v ∈ as, ¬ gm_sort v = 1) (hlen : as.length + 1 ≤ gm_ml mj) (hst : (st.map gm_cat).sum ≤ 8) (hd' : d' + 1 ≤ d) (hb1 : bc' ≤ bc) (hb2 : bs' ≤ bs)
    (hW : gm_Wp X LX d' bc' bs' mj 0 (gm_ent mj (gm_vr k :: as)) [] n K R M (gm_cont X LX d (bc - bc') (bs - bs') mi (pc + 3) L st Q)) : gm_Wp X LX d bc bs mi pc L (as.reverse ++ gm_vr k :: st) n K R M Q := by
  intro p l e Rm s m args below meth c D ti adK adV A α0 n0 mc ms hcx hev hd hd2 hmc hms hA α H locs cells slots ls sv hxt hc1 hc2 hR hL hS
  obtain ⟨w1, w2, rfl, hw1, w, sv2, rfl, ⟨rfl, hkn⟩, hS2⟩ := gm_sr_app hS
  have hdg := gm_dec hcx h rfl
  obtain ⟨hx, hb, hml, hown, -, -, hts, -, hl, -⟩ := id hcx
  obtain ⟨hKn, hP, hD, hSv, hRv⟩ := id hR
  obtain ⟨hj, i1, i2, i3, -, -, i6, -⟩ := gm_cal_spec hc
  obtain ⟨j1, -, j3, j4, j5, -⟩ := gm_mck_spec hj
  have hA1 := gm_sub_A hD hSv hA
  have hvs : gm_sr α adK n (gm_vr k :: as) (Value.ref (α k) :: w1.reverse) := ⟨_, _, rfl, ⟨(gm_rf_pos hk.1 (Nat.lt_of_le_of_lt hk.2 hRv.1)).symm, hkn⟩, by have := gm_sr_rev hw1; rwa [List.reverse_reverse] at this⟩
  have hM := gm_met (adV := adV) (ti := ti) (D := D) hj hmx (i6 (by omega)) l hl hW hvs (by intro v hv; rcases List.mem_cons.mp hv with rfl | hv; exact (by simp [gm_sort]); exact hcat v hv) (by simpa using hlen) hP (hD.self (sz := H.size)) hRv (fun q h => Or.inr h)
  have he := gm_wl_at (ti := ti) (α := α) (K := K) (R := R) (M := M) hk.1 hk.2
  rw [gm_en_obj hK] at he
  obtain ⟨T, N, hcs, -⟩ := gm_cs_get hci
  have hcode : gm_cwd mj = .code (gm_mn mj) (gm_bc mj) (gm_ml mj) (gm_rt mj) := by unfold gm_cwd; rw [if_pos (i6 (by omega))]
  have hwl : w1.length = as.length := by have := (gm_sr_at hw1).1; simpa using this
  have hG : GoodIn gm_T (wsV (gm_rn (gm_ow mi)) ix (gm_mn mj).cls (gm_mn mj) (gm_cwd mj :: gm_T)) := by
    intro w hw
    refine ⟨?_, ?_⟩
    · simp only [wsV, List.cons_append, List.nil_append, List.mem_cons] at hw
      rcases hw with rfl | rfl | rfl | rfl | rfl | hw
      · exact i2 (by omega)
      · exact (i3 rfl).1
      · exact (i3 rfl).2
      · exact i1
      · exact j1
      · exact hw
    · simp only [wsV, List.cons_append, List.nil_append, List.mem_cons] at hw
      rcases hw with rfl | rfl | rfl | rfl | rfl | hw
      · exact Or.inl rfl
      · exact Or.inl rfl
      · exact Or.inl rfl
      · exact Or.inl rfl
      · exact (gm_T_good _ j1).2
      · exact (gm_T_good _ hw).2
  rw [gm_rf_pos hk.1 (Nat.lt_of_le_of_lt hk.2 hRv.1)]
  refine gm_tail (bc' := bc') (bs' := bs') hh hcx hev hd hd2 hmc hms hA hxt hb1 hb2 hc1 hc2 hSv hL hS2 hA1 (a := (Value.ref (α k) :: w1.reverse).toArray) ?_
  refine vx_runV (As := w1.reverse) (n := gm_na mj) (index := ix) (C := (gm_mn mj).cls) ⟨hx, hb, hml, hown, hts⟩ hM (cwV (rm := { frames := d', cells := bc', slots := bs', locals := d' * 300 }) (gm_na mj) hts hG (by rw [hcode]) rfl rfl ⟨rfl, j3.1, j3.2, j4⟩ ⟨by show d' + 1 ≤ _; omega, by show 8 + (gm_ml mj + 11) + d' * 300 ≤ _; omega⟩) ⟨gm_blind, ?_, fun U hU hWm => ⟨rfl, hU, gm_Ev_to hev hWm (by rw [hU]; exact hSv.1) (fun a h1 h2 => by rw [hU]; exact hSv.2.1 a h1 h2) hA1, va_K.moved hWm.alike hKn⟩⟩ rfl (by rw [List.length_reverse, hwl, hna]) ?_ (by rw [List.reverse_reverse]) (lv_room (by rw [gm_sum_eq hS2]; exact hst)) hdg ⟨by omega, by omega⟩
  · have := va_recv hKn hP hcs he
    rw [hcn] at this
    exact this
  · exact hL.2.choose_spec.1.1
end GI
