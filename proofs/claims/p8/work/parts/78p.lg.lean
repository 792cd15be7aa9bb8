/-! A STATIC CALL WITH A LONG: a reference, then a long behind it. -/
theorem gm_lr_ent2 {α adK : Nat → Nat} {n mj : Nat} {u0 u1 : gm_V} {ws : List Value} (h : gm_sr α adK n [u0, u1] ws) (hc : ¬ gm_sort u0 = 1) (hlen : 3 ≤ gm_ml mj) : gm_lr α adK n (gm_ml mj) (gm_ent mj [u0, u1]) ((lg_sl ws ++ List.replicate (gm_ml mj - (lg_sl ws).length) Slot.unset).toArray) := by
  obtain ⟨w0, ws0, rfl, c0, w1, ws1, rfl, c1, h9⟩ := h
  have h9 : ws1 = [] := h9
  subst h9
  have h1 : w0.category = 1 := gm_cat1 c0 hc
  have hl : (lg_sl [w0, w1]).length ≤ 3 := by
    unfold lg_sl
    by_cases h2 : w1.category = 2
    · simp [h1, h2]
    · simp [h1, h2]
  have e : lv_args 0 [w0, w1] = [(0, w0), (1, w1)] := by simp [lv_args, h1]
  refine ⟨by simp [gm_ent]; omega, _, lv_entry [w0, w1] (by omega), fun i v hi => ?_⟩
  rw [e]
  rcases i with _ | _ | i
  · have hi : some (some u0) = some (some v) := hi
    cases hi
    exact ⟨w0, c0, List.mem_cons_self⟩
  · have hi : some (some u1) = some (some v) := hi
    cases hi
    exact ⟨w1, c1, List.mem_cons_of_mem _ (List.mem_singleton.mpr rfl)⟩
  · have hi : (List.replicate (gm_ml mj - 2) (none : Option gm_V))[i]? = some (some v) := hi
    have := List.eq_of_mem_replicate (List.mem_of_getElem? hi)
    cases this
section G2
variable {X : Int → Int} {LX d bc bs mi pc : Nat} {L : gm_L} {st : List gm_V} {n : Nat} {K : gm_K} {R : gm_R} {M : gm_M} {Q : gm_Q}
theorem gm_met2 {mj : Nat} {vs : List gm_V} {avs : List Value} (hm : mj < 370) (hmx : gm_ow mj ≠ gm_mxi) (hh : gm_hh mj = []) (l : Launch) (hl : l.stackTraces = false) {D : va_G} {ti : Nat → ClassId} {adK adV α : Nat → Nat} {A' : Nat → Prop} {H : Heap}
    (hW : gm_Wp X LX d bc bs mj 0 (gm_ent mj vs) [] n K R M Q) (hE : gm_lr α adK n (gm_ml mj) (gm_ent mj vs) ((lg_sl avs ++ List.replicate (gm_ml mj - (lg_sl avs).length) Slot.unset).toArray)) (hP : va_P D gm_cs (gm_wl ti α n K R M) H) (hD : va_D A' (gm_wl ti α n K R M)) (hRv : gm_Rv n R) (hA' : ∀ q, H.size ≤ q → A' q) :
    vx_Met l (gm_mn mj) (gm_cwd mj :: gm_T) ({ frames := d, cells := bc, slots := bs, locals := d * 300 }) (va_Pc avs (fun U => U.heap = H ∧ gm_Ev X LX adK adV A' U ∧ va_K D gm_cs (gm_ty ti) U)) (gm_QC D ti adK A' α n Q) (gm_XC D ti A' α n Q) bc bs A' := by
  obtain ⟨-, hpl, -, -, -, hown9⟩ := gm_mck_spec hm
  refine vx_ofW (cc := gm_bc mj) (maxL := gm_ml mj) (ret := gm_rt mj) (ws' := gm_T) (hpl hmx) (by unfold gm_cwd; rw [if_pos hh]) ?_
  intro p e s m args below meth c s₁ B hml hex hv
  obtain ⟨rfl, hsz, hev, hK⟩ := hv
  have hts := atoms_spec (ws := gm_cwd mj :: gm_T) B.pre
  have hown : s.vm.findClass (gm_mn mj).cls = some m.cls := findClass_of_methodNamed B.named
  have hin : meth.name = (gm_mn mj).name := (name_of_methodNamed B.named B.method).1
  have htab : c.exceptionTable.toList = tableOf (gm_hh mj) := by
    rw [hh]
    cases hx : c.exceptionTable.toList with
    | nil => rfl
    | cons x xs => exact absurd (hex x (by rw [hx]; exact List.mem_cons_self)) id
  subst hsz
  rw [lg_entry_eq]
  exact hW p l e _ s m _ below meth c D ti adK adV A' α n bc bs ⟨B.exec, B.bytes, hml, by rw [hown9]; exact hown, B.returns, B.notSynchronized, fun w hw => hts w (List.mem_cons_of_mem _ hw), hin, hl, (by omega), htab⟩ hev (Nat.le_refl _) (Nat.le_refl _) (Nat.le_refl _) (Nat.le_refl _) hA' α s.heap [] 0 0 _ [] gm_xt.rf (by omega) (by omega) ⟨hK, hP, hD, va_S.rf, hRv⟩ hE rfl
theorem gm_c_stat2 {ix mj d' bc' bs' : Nat} {u0 u1 : gm_V} (h : gm_at mi pc = some (.invokestatic ix)) (hc : gm_cal (gm_ow mi) ix = some (2, mj)) (hmx : gm_ow mj ≠ gm_mxi) (hh : gm_hh mi = []) (hna : 2 = gm_na mj) (hcat : ¬ gm_sort u0 = 1) (hlen : 3 ≤ gm_ml mj) (hst : (st.map gm_cat).sum ≤ 8) (hd' : d' + 1 ≤ d) (hb1 : bc' ≤ bc) (hb2 : bs' ≤ bs)
    (hW : gm_Wp X LX d' bc' bs' mj 0 (gm_ent mj [u0, u1]) [] n K R M (gm_cont X LX d (bc - bc') (bs - bs') mi (pc + 3) L st Q)) : gm_Wp X LX d bc bs mi pc L (u1 :: u0 :: st) n K R M Q := by
  intro p l e Rm s m args below meth c D ti adK adV A α0 n0 mc ms hcx hev hd hd2 hmc hms hA α H locs cells slots ls sv hxt hc1 hc2 hR hL hS
  have hS : gm_sr α adK n ([u0, u1].reverse ++ st) sv := hS
  obtain ⟨w1, sv2, rfl, hw1, hS2⟩ := gm_sr_app hS
  have hdg := gm_dec hcx h rfl
  obtain ⟨hx, hb, hml, hown, -, -, hts, -, hl, -⟩ := id hcx
  obtain ⟨hKn, hP, hD, hSv, hRv⟩ := id hR
  obtain ⟨hj, i1, i2, -, -, i5, i6, -⟩ := gm_cal_spec hc
  obtain ⟨j1, -, j3, j4, j5, -⟩ := gm_mck_spec hj
  have hA1 := gm_sub_A hD hSv hA
  have hvs : gm_sr α adK n [u0, u1] w1.reverse := by have := gm_sr_rev hw1; rwa [List.reverse_reverse] at this
  have hM := gm_met2 (adV := adV) (ti := ti) (D := D) hj hmx (i6 (by omega)) l hl hW (gm_lr_ent2 hvs hcat hlen) hP (hD.self (sz := H.size)) hRv (fun q h => Or.inr h)
  have hcode : gm_cwd mj = .code (gm_mn mj) (gm_bc mj) (gm_ml mj) (gm_rt mj) := by unfold gm_cwd; rw [if_pos (i6 (by omega))]
  have hwl : w1.length = 2 := by have := (gm_sr_at hw1).1; simpa using this
  have hpre : PreS s H (va_Pc w1.reverse (fun U => U.heap = H ∧ gm_Ev X LX adK adV (va_A (gm_wl ti α n K R M) H.size) U ∧ va_K D gm_cs (gm_ty ti) U)) w1.reverse := ⟨gm_blind, fun U hU hWm => ⟨rfl, hU, gm_Ev_to hev hWm (by rw [hU]; exact hSv.1) (fun a h1 h2 => by rw [hU]; exact hSv.2.1 a h1 h2) hA1, va_K.moved hWm.alike hKn⟩⟩
  refine gm_tail (bc' := bc') (bs' := bs') hh hcx hev hd hd2 hmc hms hA hxt hb1 hb2 hc1 hc2 hSv hL hS2 hA1 (a := w1.reverse.toArray) ?_
  have hR1 : d' + 1 ≤ Rm.frames ∧ 8 + (gm_ml mj + 11) + d' * 300 ≤ Rm.locals := ⟨by omega, by omega⟩
  have hroom := lv_room (m := m) (pc := pc) (ls := ls) (rest := w1 ++ sv2) (st := sv2) (by rw [gm_sum_eq hS2]; exact hst)
  exact vx_runS (As := w1.reverse) (n := gm_na mj) (index := ix) ⟨hx, hb, hml, hown, hts⟩ hM ⟨callB_of (rm := { frames := d', cells := bc', slots := bs', locals := d' * 300 }) (gm_na mj) hts (gm_G1 hj) (by rw [hcode]) rfl rfl (hts _ i1) (hts _ (i2 (by omega))) ⟨j3.1, j3.2, j4⟩ hR1, hts _ (i5 (Or.inl rfl))⟩ hpre rfl (by rw [List.length_reverse, hwl, hna]) hL.2.choose_spec.1.1 (by rw [List.reverse_reverse]) hroom hdg ⟨by omega, by omega⟩
end G2
