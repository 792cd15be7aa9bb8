/-! A CALL of a method that is inherited, or abstract where it is named. -/
section GUP
variable {X : Int → Int} {LX d bc bs mi pc : Nat} {L : gm_L} {st : List gm_V} {n : Nat} {K : gm_K} {R : gm_R} {M : gm_M} {Q : gm_Q}
theorem gm_up_spec {o ix ci mj : Nat} (h : gm_up o ix ci = some mj) : ∃ (x : MethodName) (ow : String), Jvm.Cond.methodLink (gm_rn o) ix x ∈ gm_T ∧ Jvm.Cond.sameMethod x.cls ow x.name x.desc ∈ gm_T ∧ Jvm.Cond.selects (gm_cn ci) x (gm_mn mj) ∈ gm_T ∧ Jvm.Cond.instanceMethod (gm_mn mj) ∈ gm_T ∧ Jvm.Cond.initialized (gm_mn mj).cls ∈ gm_T ∧ ⟨ow, x.name, x.desc⟩ ∈ gm_dcs ∧ (ow ≠ "java/lang/invoke/MethodHandle" ∧ ow ≠ "java/lang/invoke/VarHandle") ∧ x.desc = (gm_mn mj).desc ∧ mj < 370 ∧ ci < 12 ∧ gm_hh mj = [] ∧ gm_ow mj ≠ gm_mxi := by
  unfold gm_up at h
  cases hq : gm_ul.find? fun q => decide (q.1 = (o, ix, ci)) with
  | none => rw [hq] at h; cases h
  | some q =>
    rw [hq] at h
    have h1 := List.find?_some hq
    have h2 := List.all_eq_true.mp gm_ul_ok q (List.mem_of_find?_eq_some hq)
    obtain ⟨q1, mj', x, ow, p1, p2, p3, p4, p5⟩ := q
    have h1 : q1 = (o, ix, ci) := of_decide_eq_true h1
    subst h1
    have e : mj' = mj := by simpa using h
    subst e
    simp only [gm_uck, gm_wok, Bool.and_eq_true, decide_eq_true_eq] at h2
    obtain ⟨a1, a2, a3, a4, a5, a6, a7, a8, a9, a10, a11, a12⟩ := h2
    exact ⟨x, ow, gm_T_in a1.1 a1.2, gm_T_in a2.1 a2.2, gm_T_in a3.1 a3.2, gm_T_in a4.1 a4.2, gm_T_in a5.1 a5.2, a6, a7, a8, a9, a10, a11, a12⟩
theorem gm_c_up {ix mj k ci d' bc' bs' : Nat} {as : List gm_V} (h : gm_at mi pc = some (.invokevirtual ix)) (hc : gm_up (gm_ow mi) ix ci = some mj) (hh : gm_hh mi = []) (hk : 1 ≤ k ∧ k ≤ n) (hK : (K k).1 = ci + 4) (hna : as.length = gm_na mj) (hcat : ∀ v ∈ as, ¬ gm_sort v = 1) (hlen : as.length + 1 ≤ gm_ml mj) (hst : (st.map gm_cat).sum ≤ 8) (hd' : d' + 1 ≤ d) (hb1 : bc' ≤ bc) (hb2 : bs' ≤ bs)
    (hW : gm_Wp X LX d' bc' bs' mj 0 (gm_ent mj (gm_vr k :: as)) [] n K R M (gm_cont X LX d (bc - bc') (bs - bs') mi (pc + 3) L st Q)) : gm_Wp X LX d bc bs mi pc L (as.reverse ++ gm_vr k :: st) n K R M Q := by
  intro p l e Rm s m args below meth c D ti adK adV A α0 n0 mc ms hcx hev hd hd2 hmc hms hA α H locs cells slots ls sv hxt hc1 hc2 hR hL hS
  obtain ⟨w1, w2, rfl, hw1, w, sv2, rfl, ⟨rfl, hkn⟩, hS2⟩ := gm_sr_app hS
  have hdg := gm_dec hcx h rfl
  obtain ⟨hx, hb, hml, hown, -, -, hts, -, hl, -⟩ := id hcx
  obtain ⟨hKn, hP, hD, hSv, hRv⟩ := id hR
  obtain ⟨x, ow, u1, u2, u3, u4, u5, u6, u7, u8, hj, hci, hhj, hmx⟩ := gm_up_spec hc
  obtain ⟨j1, -, j3, j4, j5, -⟩ := gm_mck_spec hj
  have hA1 := gm_sub_A hD hSv hA
  have hvs : gm_sr α adK n (gm_vr k :: as) (Value.ref (α k) :: w1.reverse) := ⟨_, _, rfl, ⟨(gm_rf_pos hk.1 (Nat.lt_of_le_of_lt hk.2 hRv.1)).symm, hkn⟩, by have := gm_sr_rev hw1; rwa [List.reverse_reverse] at this⟩
  have hM := gm_met (adV := adV) (ti := ti) (D := D) hj hmx hhj l hl hW hvs (by intro v hv; rcases List.mem_cons.mp hv with rfl | hv; exact (by simp [gm_sort]); exact hcat v hv) (by simpa using hlen) hP (hD.self (sz := H.size)) hRv (fun q h => Or.inr h)
  have he := gm_wl_at (ti := ti) (α := α) (K := K) (R := R) (M := M) hk.1 hk.2
  rw [gm_en_obj hK] at he
  obtain ⟨T, N, hcs, -⟩ := gm_cs_get hci
  have hcode : gm_cwd mj = .code (gm_mn mj) (gm_bc mj) (gm_ml mj) (gm_rt mj) := by unfold gm_cwd; rw [if_pos hhj]
  have hwl : w1.length = as.length := by have := (gm_sr_at hw1).1; simpa using this
  have hG : GoodIn gm_T (va_wsU (gm_rn (gm_ow mi)) ix (gm_cn ci) ow x (gm_mn mj) (gm_cwd mj :: gm_T)) := by
    intro w hw
    simp only [va_wsU, List.cons_append, List.nil_append, List.mem_cons] at hw
    rcases hw with rfl | rfl | rfl | rfl | rfl | rfl | hw
    · exact gm_T_good _ u1
    · exact gm_T_good _ u2
    · exact gm_T_good _ u3
    · exact gm_T_good _ u4
    · exact gm_T_good _ u5
    · exact gm_T_good _ j1
    · exact gm_T_good _ hw
  rw [gm_rf_pos hk.1 (Nat.lt_of_le_of_lt hk.2 hRv.1)]
  refine gm_tail (bc' := bc') (bs' := bs') hh hcx hev hd hd2 hmc hms hA hxt hb1 hb2 hc1 hc2 hSv hL hS2 hA1 (a := (Value.ref (α k) :: w1.reverse).toArray) ?_
  refine vx_runU (As := w1.reverse) (n := gm_na mj) (index := ix) (C := gm_cn ci) (owner := ow) (x := x) ⟨hx, hb, hml, hown, hts⟩ hM (va_cwA (rm := { frames := d', cells := bc', slots := bs', locals := d' * 300 }) (gm_na mj) hts hG (by rw [hcode]) rfl rfl (hev.2.2.2.2.2.2.2.2.2.2.2.2 _ u6) ⟨u7.1, u7.2, by rw [u8]; exact j4⟩ ⟨by show d' + 1 ≤ _; omega, by show 8 + (gm_ml mj + 11) + d' * 300 ≤ _; omega⟩) ⟨gm_blind, ?_, fun U hU hWm => ⟨rfl, hU, gm_Ev_to hev hWm (by rw [hU]; exact hSv.1) (fun a h1 h2 => by rw [hU]; exact hSv.2.1 a h1 h2) hA1, va_K.moved hWm.alike hKn⟩⟩ rfl (by rw [List.length_reverse, hwl, hna]) ?_ (by rw [List.reverse_reverse]) (lv_room (by rw [gm_sum_eq hS2]; exact hst)) hdg ⟨by omega, by omega⟩
  · exact va_recv hKn hP hcs he
  · exact hL.2.choose_spec.1.1
end GUP
