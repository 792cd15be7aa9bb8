/-! CALLS of constructors and static methods; Object's own constructor; Math's max and min. -/
section GI
variable {X : Int → Int} {LX d bc bs mi pc : Nat} {L : gm_L} {st : List gm_V} {n : Nat} {K : gm_K} {R : gm_R} {M : gm_M} {Q : gm_Q}
theorem gm_G1 {mj : Nat} (h : mj < 370) : GoodIn gm_T (gm_cwd mj :: gm_T) := by
  intro w hw
  obtain ⟨j1, -⟩ := gm_mck_spec h
  rcases List.mem_cons.mp hw with rfl | hw
  · exact ⟨j1, (gm_T_good _ j1).2⟩
  · exact gm_T_good _ hw
theorem gm_c_init {ix kd mj k d' bc' bs' : Nat} {as : List gm_V} (h : gm_at mi pc = some (.invokespecial ix)) (hc : gm_cal (gm_ow mi) ix = some (kd, mj)) (hkd : kd = 1 ∨ kd = 3) (hmx : gm_ow mj ≠ gm_mxi) (hh : gm_hh mi = []) (hk : 1 ≤ k ∧ k ≤ n) (hna : as.length = gm_na mj) (hcat : ∀ v ∈ as, ¬ gm_sort v = 1) (hlen : as.length + 1 ≤ gm_ml mj) (hst : (st.map gm_cat).sum ≤ 8) (hd' : d' + 1 ≤ d) (hb1 : bc' ≤ bc) (hb2 : bs' ≤ bs)
    (hW : gm_Wp X LX d' bc' bs' mj 0 (gm_ent mj (gm_vr k :: as)) [] n K R M (gm_cont X LX d (bc - bc') (bs - bs') mi (pc + 3) L st Q)) : gm_Wp X LX d bc bs mi pc L (as.reverse ++ gm_vr k :: st) n K R M Q := by
  intro p l e Rm s m args below meth c D ti adK adV A α0 n0 mc ms hcx hev hd hd2 hmc hms hA α H locs cells slots ls sv hxt hc1 hc2 hR hL hS
  obtain ⟨w1, w2, rfl, hw1, w, sv2, rfl, ⟨rfl, hkn⟩, hS2⟩ := gm_sr_app hS
  have hdg := gm_dec hcx h rfl
  obtain ⟨hx, hb, hml, hown, -, -, hts, -, hl, -⟩ := id hcx
  obtain ⟨hKn, hP, hD, hSv, hRv⟩ := id hR
  obtain ⟨hj, i1, i2, -, i4, -, i6, i7⟩ := gm_cal_spec hc
  obtain ⟨j1, -, j3, j4, j5, -⟩ := gm_mck_spec hj
  have hA1 := gm_sub_A hD hSv hA
  have hvs : gm_sr α adK n (gm_vr k :: as) (Value.ref (α k) :: w1.reverse) := ⟨_, _, rfl, ⟨(gm_rf_pos hk.1 (Nat.lt_of_le_of_lt hk.2 hRv.1)).symm, hkn⟩, by have := gm_sr_rev hw1; rwa [List.reverse_reverse] at this⟩
  have hM := gm_met (adV := adV) (ti := ti) (D := D) hj hmx (i6 (by omega)) l hl hW hvs (by intro v hv; rcases List.mem_cons.mp hv with rfl | hv; exact (by simp [gm_sort]); exact hcat v hv) (by simpa using hlen) hP (hD.self (sz := H.size)) hRv (fun q h => Or.inr h)
  obtain ⟨y1, y2, y3⟩ := i4 hkd
  have hcode : gm_cwd mj = .code (gm_mn mj) (gm_bc mj) (gm_ml mj) none := by unfold gm_cwd; rw [if_pos (i6 (by omega)), y3]
  have hwl : w1.length = as.length := by have := (gm_sr_at hw1).1; simpa using this
  rw [gm_rf_pos hk.1 (Nat.lt_of_le_of_lt hk.2 hRv.1)]
  have hpre : PreS s H (va_Pc (Value.ref (α k) :: w1.reverse) (fun U => U.heap = H ∧ gm_Ev X LX adK adV (va_A (gm_wl ti α n K R M) H.size) U ∧ va_K D gm_cs (gm_ty ti) U)) (Value.ref (α k) :: w1.reverse) := ⟨gm_blind, fun U hU hWm => ⟨rfl, hU, gm_Ev_to hev hWm (by rw [hU]; exact hSv.1) (fun a h1 h2 => by rw [hU]; exact hSv.2.1 a h1 h2) hA1, va_K.moved hWm.alike hKn⟩⟩
  refine gm_tail (bc' := bc') (bs' := bs') hh hcx hev hd hd2 hmc hms hA hxt hb1 hb2 hc1 hc2 hSv hL hS2 hA1 (a := (Value.ref (α k) :: w1.reverse).toArray) ?_
  have hR1 : d' + 1 ≤ Rm.frames ∧ 8 + (gm_ml mj + 11) + d' * 300 ≤ Rm.locals := ⟨by omega, by omega⟩
  have hroom := lv_room (m := m) (pc := pc) (ls := ls) (rest := w1 ++ Value.ref (α k) :: sv2) (st := sv2) (by rw [gm_sum_eq hS2]; exact hst)
  rcases hkd with rfl | rfl
  · exact vx_runI (As := w1.reverse) (n := gm_na mj) (index := ix) ⟨hx, hb, hml, hown, hts⟩ hM (cwI (rm := { frames := d', cells := bc', slots := bs', locals := d' * 300 }) (gm_na mj) hts (gm_G1 hj) (by rw [hcode]) rfl rfl (hts _ i1) (hts _ (i2 (by omega))) (hts _ y1) y2 ⟨j3.1, j3.2, j4⟩ hR1) hpre rfl (by rw [List.length_reverse, hwl, hna]) hL.2.choose_spec.1.1 (by rw [List.reverse_reverse]) hroom hdg ⟨by omega, by omega⟩
  · obtain ⟨r, hr1, hr2, hr3, hr4⟩ := i7 rfl
    have hnl := hev.2.2.2.2.2.2.2.2.2.1 r hr1
    rw [hr2, hr3, hr4] at hnl
    exact vx_runIN (As := w1.reverse) (n := gm_na mj) (index := ix) ⟨hx, hb, hml, hown, hts⟩ hM ⟨va_cnB (rm := { frames := d', cells := bc', slots := bs', locals := d' * 300 }) (gm_na mj) hts (gm_G1 hj) (by rw [hcode]) rfl rfl hnl (hts _ i1) ⟨j3.1, j3.2, j4⟩ hR1, y2, hts _ y1⟩ hpre rfl (by rw [List.length_reverse, hwl, hna]) hL.2.choose_spec.1.1 (by rw [List.reverse_reverse]) hroom hdg ⟨by omega, by omega⟩
theorem gm_c_stat {ix mj d' bc' bs' : Nat} {as : List gm_V} (h : gm_at mi pc = some (.invokestatic ix)) (hc : gm_cal (gm_ow mi) ix = some (2, mj)) (hmx : gm_ow mj ≠ gm_mxi) (hh : gm_hh mi = []) (hna : as.length = gm_na mj) (hcat : ∀ v ∈ as, ¬ gm_sort v = 1) (hlen : as.length ≤ gm_ml mj) (hst : (st.map gm_cat).sum ≤ 8) (hd' : d' + 1 ≤ d) (hb1 : bc' ≤ bc) (hb2 : bs' ≤ bs)
    (hW : gm_Wp X LX d' bc' bs' mj 0 (gm_ent mj as) [] n K R M (gm_cont X LX d (bc - bc') (bs - bs') mi (pc + 3) L st Q)) : gm_Wp X LX d bc bs mi pc L (as.reverse ++ st) n K R M Q := by
  intro p l e Rm s m args below meth c D ti adK adV A α0 n0 mc ms hcx hev hd hd2 hmc hms hA α H locs cells slots ls sv hxt hc1 hc2 hR hL hS
  obtain ⟨w1, sv2, rfl, hw1, hS2⟩ := gm_sr_app hS
  have hdg := gm_dec hcx h rfl
  obtain ⟨hx, hb, hml, hown, -, -, hts, -, hl, -⟩ := id hcx
  obtain ⟨hKn, hP, hD, hSv, hRv⟩ := id hR
  obtain ⟨hj, i1, i2, -, -, i5, i6, -⟩ := gm_cal_spec hc
  obtain ⟨j1, -, j3, j4, j5, -⟩ := gm_mck_spec hj
  have hA1 := gm_sub_A hD hSv hA
  have hvs : gm_sr α adK n as w1.reverse := by have := gm_sr_rev hw1; rwa [List.reverse_reverse] at this
  have hM := gm_met (adV := adV) (ti := ti) (D := D) hj hmx (i6 (by omega)) l hl hW hvs hcat hlen hP (hD.self (sz := H.size)) hRv (fun q h => Or.inr h)
  have hcode : gm_cwd mj = .code (gm_mn mj) (gm_bc mj) (gm_ml mj) (gm_rt mj) := by unfold gm_cwd; rw [if_pos (i6 (by omega))]
  have hwl : w1.length = as.length := by have := (gm_sr_at hw1).1; simpa using this
  have hpre : PreS s H (va_Pc w1.reverse (fun U => U.heap = H ∧ gm_Ev X LX adK adV (va_A (gm_wl ti α n K R M) H.size) U ∧ va_K D gm_cs (gm_ty ti) U)) w1.reverse := ⟨gm_blind, fun U hU hWm => ⟨rfl, hU, gm_Ev_to hev hWm (by rw [hU]; exact hSv.1) (fun a h1 h2 => by rw [hU]; exact hSv.2.1 a h1 h2) hA1, va_K.moved hWm.alike hKn⟩⟩
  refine gm_tail (bc' := bc') (bs' := bs') hh hcx hev hd hd2 hmc hms hA hxt hb1 hb2 hc1 hc2 hSv hL hS2 hA1 (a := w1.reverse.toArray) ?_
  have hR1 : d' + 1 ≤ Rm.frames ∧ 8 + (gm_ml mj + 11) + d' * 300 ≤ Rm.locals := ⟨by omega, by omega⟩
  have hroom := lv_room (m := m) (pc := pc) (ls := ls) (rest := w1 ++ sv2) (st := sv2) (by rw [gm_sum_eq hS2]; exact hst)
  exact vx_runS (As := w1.reverse) (n := gm_na mj) (index := ix) ⟨hx, hb, hml, hown, hts⟩ hM ⟨callB_of (rm := { frames := d', cells := bc', slots := bs', locals := d' * 300 }) (gm_na mj) hts (gm_G1 hj) (by rw [hcode]) rfl rfl (hts _ i1) (hts _ (i2 (by omega))) ⟨j3.1, j3.2, j4⟩ hR1, hts _ (i5 (Or.inl rfl))⟩ hpre rfl (by rw [List.length_reverse, hwl, hna]) hL.2.choose_spec.1.1 (by rw [List.reverse_reverse]) hroom hdg ⟨by omega, by omega⟩
end GI
