/-! STRINGS: how long they are, their letters. -/
section GST
variable {X : Int → Int} {LX d bc bs mi pc : Nat} {L : gm_L} {st : List gm_V} {n : Nat} {K : gm_K} {R : gm_R} {M : gm_M} {Q : gm_Q}
theorem gm_sz {pc' : Nat} {L' : gm_L} {st' : List gm_V} {n' : Nat} {K' : gm_K} {R' : gm_R} {M' : gm_M} (h : gm_Sp X LX d mi pc L st n K R M pc' L' st' n' K' R' M' 0 0) (k : gm_Wp X LX d bc bs mi pc' L' st' n' K' R' M' Q) : gm_Wp X LX d bc bs mi pc L st n K R M Q := gm_sp h (Nat.zero_le _) (Nat.zero_le _) k
def gm_slen (id : Nat) : Nat := gm_sl.getD id 0
def gm_sby (id j : Nat) : Int32 := (gm_sb.getD id []).getD j 0
def gm_sws : List Jvm.Cond := [.fieldLink "java/lang/String" 38 "java/lang/String" "COMPACT_STRINGS" "Z", .fieldLink "java/lang/String" 9 "java/lang/String" "value" "[B", .fieldLink "java/lang/String" 15 "java/lang/String" "coder" "B", .fieldLink "java/lang/String" 1053 "jdk/internal/util/Preconditions" "SIOOBE_FORMATTER" "Ljava/util/function/BiFunction;"]
theorem gm_sws_ok : gm_sws.all (fun w => decide (w ∈ lw_tbl) && goodWord w) = true := by decide +kernel
theorem gm_sws_in {i : Nat} {w : Jvm.Cond} (h : gm_sws[i]? = some w) : w ∈ gm_T := by
  have h1 := List.all_eq_true.mp gm_sws_ok w (List.mem_of_getElem? h)
  rw [Bool.and_eq_true, decide_eq_true_eq] at h1
  exact List.mem_filter.mpr h1
theorem gm_sl75 : gm_sl.length = 75 := by decide +kernel
theorem gm_p_cs (h : gm_at mi pc = some (.getstatic 38)) (ho : gm_rn (gm_ow mi) = "java/lang/String") : gm_Sp X LX d mi pc L st n K R M (pc + 3) L (gm_vi 1 :: st) n K R M 0 0 := by
  intro p l e Rm s m args below meth c D ti adK adV A hcx hev hd hd2 hA α H locs cells slots ls sv Q' hc1 hc2 hR hL hS k2
  have hdg := gm_dec hcx h rfl
  obtain ⟨hx, hb, -, hown, -, -, hts, -⟩ := id hcx
  obtain ⟨hKn, hP, hD, hSv, hRv⟩ := id hR
  rw [ho] at hown
  exact va_gets hx hb hev.2.2.2.2.1.1 hSv hown (hts _ (gm_sws_in (i := 0) rfl)) (fun _ h => h) hdg (k2 α H locs ls _ gm_xt.rf hR hL ⟨_, _, rfl, rfl, hS⟩)
/-- the maker of what an index out of bounds would throw: null or a reference, it is only passed on -/
theorem gm_b_sio (h : gm_at mi pc = some (.getstatic 1053)) (ho : gm_rn (gm_ow mi) = "java/lang/String") (k0 : gm_Wp X LX d bc bs mi (pc + 3) L (gm_vr 0 :: st) n K R M Q) (k1 : gm_Wp X LX d bc bs mi (pc + 3) L (gm_vo 5000 :: st) n K R M Q) : gm_Wp X LX d bc bs mi pc L st n K R M Q := by
  intro p l e Rm s m args below meth c D ti adK adV A α0 n0 mc ms hcx hev hd hd2 hmc hms hA α H locs cells slots ls sv hxt hc1 hc2 hR hL hS
  have hdg := gm_dec hcx h rfl
  obtain ⟨hx, hb, -, hown, -, -, hts, -⟩ := id hcx
  obtain ⟨hKn, hP, hD, hSv, hRv⟩ := id hR
  rw [ho] at hown
  rcases hev.2.2.2.2.1.2.1 with hz | ⟨t, hz⟩
  · exact va_gets hx hb hz hSv hown (hts _ (gm_sws_in (i := 3) rfl)) (fun _ h => h) hdg (k0 p l e Rm s m args below meth c D ti adK adV A α0 n0 mc ms hcx hev hd hd2 hmc hms hA α H locs cells slots ls _ hxt hc1 hc2 hR hL ⟨_, _, rfl, ⟨rfl, Or.inl (Nat.zero_le _)⟩, hS⟩)
  · exact va_gets hx hb hz hSv hown (hts _ (gm_sws_in (i := 3) rfl)) (fun _ h => h) hdg (k1 p l e Rm s m args below meth c D ti adK adV A α0 n0 mc ms hcx hev hd hd2 hmc hms hA α H locs cells slots ls _ hxt hc1 hc2 hR hL ⟨_, _, rfl, ⟨t, rfl, fun h => absurd h (by omega)⟩, hS⟩)
theorem gm_p_sval {id : Nat} (hid : id < gm_sl.length) (h : gm_at mi pc = some (.getfield 9)) (ho : gm_rn (gm_ow mi) = "java/lang/String") : gm_Sp X LX d mi pc L (gm_vo id :: st) n K R M (pc + 3) L (gm_vo (1000 + id) :: st) n K R M 0 0 := by
  intro p l e Rm s m args below meth c D ti adK adV A hcx hev hd hd2 hA α H locs cells slots ls sv Q' hc1 hc2 hR hL hS k2
  obtain ⟨w1, sv, rfl, ⟨a, rfl, ha⟩, hS⟩ := hS
  have hdg := gm_dec hcx h rfl
  obtain ⟨hx, hb, -, hown, -, -, hts, -⟩ := _root_.id hcx
  obtain ⟨hKn, hP, hD, hSv, hRv⟩ := _root_.id hR
  rw [ho] at hown
  have h75 := gm_sl75
  obtain ⟨o1, o2, o3, o4⟩ := (hev.1 id hid).1 0 (by omega)
  have ha := ha (by omega)
  subst ha
  exact vk_getf hx hb o3 hSv hown (hts _ (gm_sws_in (i := 1) rfl)) (fun _ h => h) hdg (k2 α H locs ls _ gm_xt.rf hR hL ⟨_, _, rfl, ⟨adV id, rfl, fun _ => (hev.2.2.2.2.1.2.2 id hid).symm⟩, hS⟩)
theorem gm_p_scod {id : Nat} (hid : id < gm_sl.length) (h : gm_at mi pc = some (.getfield 15)) (ho : gm_rn (gm_ow mi) = "java/lang/String") : gm_Sp X LX d mi pc L (gm_vo id :: st) n K R M (pc + 3) L (gm_vi 0 :: st) n K R M 0 0 := by
  intro p l e Rm s m args below meth c D ti adK adV A hcx hev hd hd2 hA α H locs cells slots ls sv Q' hc1 hc2 hR hL hS k2
  obtain ⟨w1, sv, rfl, ⟨a, rfl, ha⟩, hS⟩ := hS
  have hdg := gm_dec hcx h rfl
  obtain ⟨hx, hb, -, hown, -, -, hts, -⟩ := _root_.id hcx
  obtain ⟨hKn, hP, hD, hSv, hRv⟩ := _root_.id hR
  rw [ho] at hown
  have h75 := gm_sl75
  obtain ⟨o1, o2, o3, o4⟩ := (hev.1 id hid).1 0 (by omega)
  have ha := ha (by omega)
  subst ha
  exact vk_getf hx hb o2 hSv hown (hts _ (gm_sws_in (i := 2) rfl)) (fun _ h => h) hdg (k2 α H locs ls _ gm_xt.rf hR hL ⟨_, _, rfl, rfl, hS⟩)
theorem gm_p_sale {id : Nat} (hid : id < gm_sl.length) (h : gm_at mi pc = some .arraylength) : gm_Sp X LX d mi pc L (gm_vo (1000 + id) :: st) n K R M (pc + 1) L (gm_vi (gm_slen id : Int) :: st) n K R M 0 0 := by
  intro p l e Rm s m args below meth c D ti adK adV A hcx hev hd hd2 hA α H locs cells slots ls sv Q' hc1 hc2 hR hL hS k2
  obtain ⟨w1, sv, rfl, ⟨a, rfl, ha⟩, hS⟩ := hS
  have hdg := gm_dec hcx h rfl
  obtain ⟨hx, hb, -⟩ := _root_.id hcx
  obtain ⟨hKn, hP, hD, hSv, hRv⟩ := _root_.id hR
  have h75 := gm_sl75
  obtain ⟨o1, o2, o3, o4⟩ := (hev.1 id hid).1 0 (by omega)
  have ha := (ha (by omega)).trans (hev.2.2.2.2.1.2.2 id hid)
  subst ha
  exact va_tlen hx hb o4 hSv (gm_ofNat _) hdg (k2 α H locs ls _ gm_xt.rf hR hL ⟨_, _, rfl, rfl, hS⟩)
theorem gm_p_sbal {id : Nat} {e0 : Int} (hid : id < gm_sl.length) (h : gm_at mi pc = some .baload) (hi : 0 ≤ gm_w e0 ∧ gm_w e0 < gm_slen id) : gm_Sp X LX d mi pc L (gm_vi e0 :: gm_vo (1000 + id) :: st) n K R M (pc + 1) L (gm_vi (gm_sby id (gm_w e0).toNat).toInt :: st) n K R M 0 0 := by
  intro p l e Rm s m args below meth c D ti adK adV A hcx hev hd hd2 hA α H locs cells slots ls sv Q' hc1 hc2 hR hL hS k2
  obtain ⟨w0, sv, rfl, h0, hS⟩ := hS
  obtain ⟨w1, sv, rfl, ⟨a, rfl, ha⟩, hS⟩ := hS
  cases h0
  have hdg := gm_dec hcx h rfl
  obtain ⟨hx, hb, -⟩ := _root_.id hcx
  obtain ⟨hKn, hP, hD, hSv, hRv⟩ := _root_.id hR
  have h75 := gm_sl75
  obtain ⟨o1, o2, o3, o4⟩ := (hev.1 id hid).1 0 (by omega)
  have ha := (ha (by omega)).trans (hev.2.2.2.2.1.2.2 id hid)
  subst ha
  refine va_tb hx hb o4 hSv (gm_in hi.1 hi.2) rfl hdg (k2 α H locs ls _ gm_xt.rf hR hL ⟨_, _, rfl, ?_, hS⟩)
  show Value.int (gm_sby id (Int32.ofInt e0).toNatClampNeg) = Value.int (Int32.ofInt (gm_sby id (gm_w e0).toNat).toInt)
  rw [gm_cl, ← gm_ti]
def gm_i2c (x : Int) : Int := ((Int32.ofInt x).toUInt32 % 65536).toInt32.toInt
theorem gm_p_i2c {x : Int} (h : gm_at mi pc = some .i2c) : gm_Sp X LX d mi pc L (gm_vi x :: st) n K R M (pc + 1) L (gm_vi (gm_i2c x) :: st) n K R M 0 0 := by
  refine gm_stk fun p l e Rm s m args below meth c hcx α adK H locs cells slots ls sv Q' hL hS k => ?_
  obtain ⟨w, sv, rfl, h1, hS⟩ := hS
  cases h1
  have hdg := gm_dec hcx h rfl
  obtain ⟨hx, hb, -⟩ := hcx
  exact lv_i2c hx hb hdg (gm_ti _) (k _ ⟨_, _, rfl, rfl, hS⟩)
theorem gm_r_ty {x : Int} {ty : FieldType} (h : gm_at mi pc = some .ireturn) (hr : gm_rt mi = some ty) (hn : narrow ty (.int (Int32.ofInt x)) = .int (Int32.ofInt x)) (hq : Q (.inl (some (gm_vi x))) n K R M) : gm_Wp X LX d bc bs mi pc L [gm_vi x] n K R M Q := by
  intro p l e Rm s m args below meth c D ti adK adV A α0 n0 mc ms hcx hev hd hd2 hmc hms hA α H locs cells slots ls sv hxt hc1 hc2 hR hL hS
  obtain ⟨w, sv, rfl, h1, hS⟩ := hS
  cases h1; cases hS
  have hdg := gm_dec hcx h rfl
  obtain ⟨hx, hb, -, -, hret, hlk, -⟩ := id hcx
  obtain ⟨hKn, hP, hD, hSv, hRv⟩ := id hR
  have hq' : ∀ t : State, t.heap = H → s.WarmedH t.vm → gm_QC D ti adK A α0 n0 Q args s (.returned (some (.int (Int32.ofInt x)))) t := fun t ht hW => ⟨⟨_, some (gm_vi x), α, n, K, R, M, rfl, ⟨_, rfl, rfl⟩, hq, hxt, va_K.moved hW.alike hKn, by rw [ht]; exact hP, hD, hRv⟩, hSv.F ht⟩
  refine W.widen (k := mc) (n := ms) (by omega) (by omega) (vx_ret ?_)
  exact W.zret hx hb (by rw [hret]; exact hr) hn hq' hSv.2.2 hdg hlk
theorem gm_c_vstr {ix mj id d' bc' bs' : Nat} {as : List gm_V} (h : gm_at mi pc = some (.invokevirtual ix)) (hc : gm_cal (gm_ow mi) ix = some (0, mj)) (hmx : gm_ow mj ≠ gm_mxi) (hh : gm_hh mi = []) (hid : id < gm_sl.length) (hcn : (gm_mn mj).cls = "java/lang/String") (hna : as.length = gm_na mj) (hcat : ∀ v ∈ as, ¬ gm_sort v = 1) (hlen : as.length + 1 ≤ gm_ml mj) (hst : (st.map gm_cat).sum ≤ 8) (hd' : d' + 1 ≤ d) (hb1 : bc' ≤ bc) (hb2 : bs' ≤ bs)
    (hW : gm_Wp X LX d' bc' bs' mj 0 (gm_ent mj (gm_vo id :: as)) [] n K R M (gm_cont X LX d (bc - bc') (bs - bs') mi (pc + 3) L st Q)) : gm_Wp X LX d bc bs mi pc L (as.reverse ++ gm_vo id :: st) n K R M Q := by
  intro p l e Rm s m args below meth c D ti adK adV A α0 n0 mc ms hcx hev hd hd2 hmc hms hA α H locs cells slots ls sv hxt hc1 hc2 hR hL hS
  obtain ⟨w1, w2, rfl, hw1, w, sv2, rfl, ⟨a, rfl, ha⟩, hS2⟩ := gm_sr_app hS
  have h75 := gm_sl75
  have ha := ha (by omega)
  subst ha
  have hdg := gm_dec hcx h rfl
  obtain ⟨hx, hb, hml, hown, -, -, hts, -, hl, -⟩ := _root_.id hcx
  obtain ⟨hKn, hP, hD, hSv, hRv⟩ := _root_.id hR
  obtain ⟨hj, i1, i2, i3, -, -, i6, -⟩ := gm_cal_spec hc
  obtain ⟨j1, -, j3, j4, j5, -⟩ := gm_mck_spec hj
  have hA1 := gm_sub_A hD hSv hA
  have hvs : gm_sr α adK n (gm_vo id :: as) (Value.ref (adK id) :: w1.reverse) := ⟨_, _, rfl, ⟨_, rfl, fun _ => rfl⟩, by have := gm_sr_rev hw1; rwa [List.reverse_reverse] at this⟩
  have hM := gm_met (adV := adV) (ti := ti) (D := D) hj hmx (i6 (by omega)) l hl hW hvs (by intro v hv; rcases List.mem_cons.mp hv with rfl | hv; exact (by simp [gm_sort]); exact hcat v hv) (by simpa using hlen) hP (hD.self (sz := H.size)) hRv (fun q h => Or.inr h)
  obtain ⟨o1, -⟩ := (hev.1 id hid).1 0 (by omega)
  obtain ⟨cell, c1, c2, c3, -⟩ := o1.kept (fun a h1 h2 => hSv.2.1 a h1 h2)
  have hcode : gm_cwd mj = .code (gm_mn mj) (gm_bc mj) (gm_ml mj) (gm_rt mj) := by unfold gm_cwd; rw [if_pos (i6 (by omega))]
  have hwl : w1.length = as.length := by have := (gm_sr_at hw1).1; simpa using this
  have hG : GoodIn gm_T (wsV (gm_rn (gm_ow mi)) ix (gm_mn mj).cls (gm_mn mj) (gm_cwd mj :: gm_T)) := by
    intro w hw
    refine ⟨?_, ?_⟩
    · simp only [wsV, List.cons_append, List.nil_append, List.mem_cons] at hw
      rcases hw with rfl | rfl | rfl | rfl | rfl | hw
      · exact i2 (by omega)
      · exact (i3 rfl).1
      · exact (i3 rfl).2
      · exact i1
      · exact j1
      · exact hw
    · simp only [wsV, List.cons_append, List.nil_append, List.mem_cons] at hw
      rcases hw with rfl | rfl | rfl | rfl | rfl | hw
      · exact Or.inl rfl
      · exact Or.inl rfl
      · exact Or.inl rfl
      · exact Or.inl rfl
      · exact (gm_T_good _ j1).2
      · exact (gm_T_good _ hw).2
  refine gm_tail (bc' := bc') (bs' := bs') hh hcx hev hd hd2 hmc hms hA hxt hb1 hb2 hc1 hc2 hSv hL hS2 hA1 (a := (Value.ref (adK id) :: w1.reverse).toArray) ?_
  refine vx_runV (As := w1.reverse) (n := gm_na mj) (index := ix) (C := (gm_mn mj).cls) ⟨hx, hb, hml, hown, hts⟩ hM (cwV (rm := { frames := d', cells := bc', slots := bs', locals := d' * 300 }) (gm_na mj) hts hG (by rw [hcode]) rfl rfl ⟨rfl, j3.1, j3.2, j4⟩ ⟨by show d' + 1 ≤ _; omega, by show 8 + (gm_ml mj + 11) + d' * 300 ≤ _; omega⟩) ⟨gm_blind, ?_, fun U hU hWm => ⟨rfl, hU, gm_Ev_to hev hWm (by rw [hU]; exact hSv.1) (fun a h1 h2 => by rw [hU]; exact hSv.2.1 a h1 h2) hA1, va_K.moved hWm.alike hKn⟩⟩ rfl (by rw [List.length_reverse, hwl, hna]) ?_ (by rw [List.reverse_reverse]) (lv_room (by rw [gm_sum_eq hS2]; exact hst)) hdg ⟨by omega, by omega⟩
  · rw [hcn]; exact ⟨cell, c1, c2, c3⟩
  · exact hL.2.choose_spec.1.1
/-- a letter of a String constant -/
def gm_chv (id j : Nat) : Int := gm_i2c (Int32.ofInt (gm_sby id j).toInt &&& Int32.ofInt 255).toInt
def gm_chk : Bool := (List.range 75).all fun id => decide ((Int32.ofInt (gm_slen id : Int) >>> (Int32.ofInt 0 &&& 31)).toInt = (gm_slen id : Int)) && (decide (gm_slen id < 100) && (List.range (gm_slen id)).all fun j => (match narrow .char (.int (Int32.ofInt (gm_chv id j))) with | .int u => decide (u = Int32.ofInt (gm_chv id j)) | _ => false) && (decide (0 ≤ gm_chv id j) && decide (gm_chv id j < 128)))
theorem gm_chk_ok : gm_chk = true := by decide +kernel
theorem gm_chk_s {id : Nat} (hid : id < gm_sl.length) : ((Int32.ofInt (gm_slen id : Int) >>> (Int32.ofInt 0 &&& 31)).toInt = (gm_slen id : Int) ∧ gm_slen id < 100) ∧ ∀ j, j < gm_slen id → narrow .char (.int (Int32.ofInt (gm_chv id j))) = .int (Int32.ofInt (gm_chv id j)) ∧ 0 ≤ gm_chv id j ∧ gm_chv id j < 128 := by
  rw [gm_sl75] at hid
  have h := List.all_eq_true.mp gm_chk_ok id (List.mem_range.mpr hid)
  simp only [Bool.and_eq_true, decide_eq_true_eq] at h
  refine ⟨⟨h.1, h.2.1⟩, fun j hj => ?_⟩
  have h2 := List.all_eq_true.mp h.2.2 j (List.mem_range.mpr hj)
  rw [Bool.and_eq_true, Bool.and_eq_true, decide_eq_true_eq, decide_eq_true_eq] at h2
  refine ⟨?_, h2.2⟩
  have h3 := h2.1
  split at h3
  · rename_i u hu
    rw [hu, of_decide_eq_true h3]
  · cases h3

theorem gm_w83 {id : Nat} (hid : id < gm_sl.length) (hq : Q (.inl (some (gm_vi 0))) n K R M) : gm_Wp X LX d bc bs 83 0 (gm_ent 83 [gm_vo id]) [] n K R M Q := by
  refine gm_sz (gm_p_cs (pc := 0) (by decide +kernel) (by decide +kernel)) ?_
  refine gm_b_if (pc := 3) (cc := .eq) (off := 10) (by decide +kernel) (by decide +kernel) (fun hp => absurd hp (show ¬ (gm_w 1 = gm_w 0) by decide +kernel)) (fun _ => ?_)
  refine gm_sz (gm_p_load (pc := 6) (i := .aload_n 0) (sr := 2) (j := 0) (by decide +kernel) rfl rfl rfl) ?_
  refine gm_sz (gm_p_scod (pc := 7) hid (by decide +kernel) (by decide +kernel)) ?_
  refine gm_sz (gm_p_goto (pc := 10) (off := 4) (by decide +kernel) (by decide +kernel)) ?_
  exact gm_r_ty (pc := 14) (ty := .byte) (by decide +kernel) (by decide +kernel) rfl hq
theorem gm_w85 {id : Nat} (hid : id < gm_sl.length) (hq : Q (.inl (some (gm_vi 1))) n K R M) : gm_Wp X LX d bc bs 85 0 (gm_ent 85 [gm_vo id]) [] n K R M Q := by
  refine gm_sz (gm_p_cs (pc := 0) (by decide +kernel) (by decide +kernel)) ?_
  refine gm_b_if (pc := 3) (cc := .eq) (off := 14) (by decide +kernel) (by decide +kernel) (fun hp => absurd hp (show ¬ (gm_w 1 = gm_w 0) by decide +kernel)) (fun _ => ?_)
  refine gm_sz (gm_p_load (pc := 6) (i := .aload_n 0) (sr := 2) (j := 0) (by decide +kernel) rfl rfl rfl) ?_
  refine gm_sz (gm_p_scod (pc := 7) hid (by decide +kernel) (by decide +kernel)) ?_
  refine gm_b_if (pc := 10) (cc := .ne) (off := 7) (by decide +kernel) (by decide +kernel) (fun hp => absurd (show gm_w 0 = gm_w 0 from rfl) hp) (fun _ => ?_)
  refine gm_sz (gm_p_const (pc := 13) (i := .iconst 1) (v := gm_vi 1) (by decide +kernel) rfl) ?_
  refine gm_sz (gm_p_goto (pc := 14) (off := 4) (by decide +kernel) (by decide +kernel)) ?_
  exact gm_r_int (pc := 18) (by decide +kernel) (Or.inr ⟨(by decide +kernel), Or.inr rfl⟩) hq
theorem gm_w88 {v : gm_V} {i m : Int} (hi : 0 ≤ i ∧ i < m ∧ m < 2147483648) (hq : Q (.inl (some (gm_vi i))) n K R M) : gm_Wp X LX d bc bs 88 0 (gm_ent 88 [gm_vi i, gm_vi m, v]) [] n K R M Q := by
  have h1 : gm_w i = i := gm_w_id (by omega) (by omega)
  have h2 : gm_w m = m := gm_w_id (by omega) (by omega)
  refine gm_sz (gm_p_load (pc := 0) (i := .iload_n 0) (sr := 0) (j := 0) (by decide +kernel) rfl rfl rfl) ?_
  refine gm_b_if (pc := 1) (cc := .lt) (off := 8) (by decide +kernel) (by decide +kernel) (fun hp => ?_) (fun _ => ?_)
  · have hp : gm_w i < gm_w 0 := hp
    rw [h1, show gm_w 0 = 0 from rfl] at hp
    omega
  refine gm_sz (gm_p_load (pc := 4) (i := .iload_n 0) (sr := 0) (j := 0) (by decide +kernel) rfl rfl rfl) ?_
  refine gm_sz (gm_p_load (pc := 5) (i := .iload_n 1) (sr := 0) (j := 1) (by decide +kernel) rfl rfl rfl) ?_
  refine gm_b_ic (pc := 6) (cc := .lt) (off := 10) (by decide +kernel) (by decide +kernel) (fun _ => ?_) (fun hp => ?_)
  · refine gm_sz (gm_p_load (pc := 16) (i := .iload_n 0) (sr := 0) (j := 0) (by decide +kernel) rfl rfl rfl) ?_
    exact gm_r_int (pc := 17) (by decide +kernel) (Or.inl (by decide +kernel)) hq
  · exact absurd (show gm_w i < gm_w m by rw [h1, h2]; exact hi.2.1) hp
theorem gm_w87 {i m : Int} (hd : 1 ≤ d) (hi : 0 ≤ i ∧ i < m ∧ m < 2147483648) (hq : Q (.inl none) n K R M) : gm_Wp X LX d bc bs 87 0 (gm_ent 87 [gm_vi i, gm_vi m]) [] n K R M Q := by
  have key : ∀ v : gm_V, ¬ gm_sort v = 1 → gm_Wp X LX d bc bs 87 5 (gm_ent 87 [gm_vi i, gm_vi m]) [v, gm_vi m, gm_vi i] n K R M Q := by
    intro v hv
    refine gm_c_stat (pc := 5) (ix := 1059) (mj := 88) (as := [gm_vi i, gm_vi m, v]) (st := []) (d' := 0) (bc' := 0) (bs' := 0) (by decide +kernel) (by decide +kernel) (by decide +kernel) (by decide +kernel) rfl (fun u hu => ?_) (show 3 ≤ gm_ml 88 by decide +kernel) (by decide +kernel) hd (Nat.zero_le _) (Nat.zero_le _) (gm_w88 hi ?_)
    · rcases List.mem_cons.mp hu with rfl | hu
      · simp [gm_sort]
      · rcases List.mem_cons.mp hu with rfl | hu
        · simp [gm_sort]
        · rcases List.mem_cons.mp hu with rfl | hu
          · exact hv
          · cases hu
    · show gm_Wp X LX d (bc - 0) (bs - 0) 87 8 (gm_ent 87 [gm_vi i, gm_vi m]) [gm_vi i] n K R M Q
      refine gm_sz (gm_p_pop (pc := 8) (by decide +kernel) (by simp [gm_sort])) ?_
      exact gm_r_void (pc := 9) (by decide +kernel) (by decide +kernel) hq
  refine gm_sz (gm_p_load (pc := 0) (i := .iload_n 0) (sr := 0) (j := 0) (by decide +kernel) rfl rfl rfl) ?_
  refine gm_sz (gm_p_load (pc := 1) (i := .iload_n 1) (sr := 0) (j := 1) (by decide +kernel) rfl rfl rfl) ?_
  exact gm_b_sio (pc := 2) (by decide +kernel) (by decide +kernel) (key _ (by simp [gm_sort])) (key _ (by simp [gm_sort]))
theorem gm_w86 {id : Nat} {i : Int} (hd : 2 ≤ d) (hid : id < gm_sl.length) (hi : 0 ≤ i ∧ i < gm_slen id) (hq : Q (.inl (some (gm_vi (gm_chv id i.toNat)))) n K R M) : gm_Wp X LX d bc bs 86 0 (gm_ent 86 [gm_vo (1000 + id), gm_vi i]) [] n K R M Q := by
  obtain ⟨⟨-, g1⟩, g2⟩ := gm_chk_s hid
  have h1 : gm_w i = i := gm_w_id (by omega) (by omega)
  refine gm_sz (gm_p_load (pc := 0) (i := .iload_n 1) (sr := 0) (j := 1) (by decide +kernel) rfl rfl rfl) ?_
  refine gm_sz (gm_p_load (pc := 1) (i := .aload_n 0) (sr := 2) (j := 0) (by decide +kernel) rfl rfl rfl) ?_
  refine gm_sz (gm_p_sale (pc := 2) hid (by decide +kernel)) ?_
  refine gm_c_stat (pc := 3) (ix := 9) (mj := 87) (as := [gm_vi i, gm_vi (gm_slen id : Int)]) (st := []) (d' := 1) (bc' := 0) (bs' := 0) (by decide +kernel) (by decide +kernel) (by decide +kernel) (by decide +kernel) rfl (fun u hu => ?_) (show 2 ≤ gm_ml 87 by decide +kernel) (by decide +kernel) (by omega) (Nat.zero_le _) (Nat.zero_le _) (gm_w87 (by omega) ⟨hi.1, hi.2, by omega⟩ ?_)
  · rcases List.mem_cons.mp hu with rfl | hu
    · simp [gm_sort]
    · rcases List.mem_cons.mp hu with rfl | hu
      · simp [gm_sort]
      · cases hu
  · show gm_Wp X LX d (bc - 0) (bs - 0) 86 6 (gm_ent 86 [gm_vo (1000 + id), gm_vi i]) [] n K R M Q
    refine gm_sz (gm_p_load (pc := 6) (i := .aload_n 0) (sr := 2) (j := 0) (by decide +kernel) rfl rfl rfl) ?_
    refine gm_sz (gm_p_load (pc := 7) (i := .iload_n 1) (sr := 0) (j := 1) (by decide +kernel) rfl rfl rfl) ?_
    refine gm_sz (gm_p_sbal (pc := 8) hid (by decide +kernel) (by rw [h1]; exact hi)) ?_
    refine gm_sz (gm_p_const (pc := 9) (i := .sipush 255) (v := gm_vi 255) (by decide +kernel) (by decide +kernel)) ?_
    refine gm_sz (gm_p_bin (pc := 12) (i := .iand) (f := fun x y => (Int32.ofInt x &&& Int32.ofInt y).toInt) (by decide +kernel) rfl) ?_
    refine gm_sz (gm_p_i2c (pc := 13) (by decide +kernel)) ?_
    rw [h1]
    show gm_Wp X LX d _ _ 86 14 _ [gm_vi (gm_chv id i.toNat)] n K R M Q
    exact gm_r_ty (pc := 14) (ty := .char) (by decide +kernel) (by decide +kernel) (g2 i.toNat (by omega)).1 hq
/-- String.length -/
theorem gm_w82 {id : Nat} (hd : 1 ≤ d) (hid : id < gm_sl.length) (hq : Q (.inl (some (gm_vi (gm_slen id : Int)))) n K R M) : gm_Wp X LX d bc bs 82 0 (gm_ent 82 [gm_vo id]) [] n K R M Q := by
  refine gm_sz (gm_p_load (pc := 0) (i := .aload_n 0) (sr := 2) (j := 0) (by decide +kernel) rfl rfl rfl) ?_
  refine gm_sz (gm_p_sval (pc := 1) hid (by decide +kernel) (by decide +kernel)) ?_
  refine gm_sz (gm_p_sale (pc := 4) hid (by decide +kernel)) ?_
  refine gm_sz (gm_p_load (pc := 5) (i := .aload_n 0) (sr := 2) (j := 0) (by decide +kernel) rfl rfl rfl) ?_
  refine gm_c_vstr (pc := 6) (ix := 335) (mj := 83) (id := id) (as := []) (st := [gm_vi (gm_slen id : Int)]) (d' := 0) (bc' := 0) (bs' := 0) (by decide +kernel) (by decide +kernel) (by decide +kernel) (by decide +kernel) hid (by decide +kernel) (by decide +kernel) (fun _ h => nomatch h) (by decide +kernel) (by simp [gm_cat, gm_sort]) hd (Nat.zero_le _) (Nat.zero_le _) (gm_w83 hid ?_)
  show gm_Wp X LX d (bc - 0) (bs - 0) 82 9 (gm_ent 82 [gm_vo id]) [gm_vi 0, gm_vi (gm_slen id : Int)] n K R M Q
  refine gm_sz (gm_p_bin (pc := 9) (i := .ishr) (f := fun x y => (Int32.ofInt x >>> (Int32.ofInt y &&& 31)).toInt) (by decide +kernel) rfl) ?_
  rw [(gm_chk_s hid).1.1]
  exact gm_r_int (pc := 10) (by decide +kernel) (Or.inl (by decide +kernel)) hq
/-- String.charAt -/
theorem gm_w84 {id : Nat} {i : Int} (hd : 3 ≤ d) (hid : id < gm_sl.length) (hi : 0 ≤ i ∧ i < gm_slen id) (hq : Q (.inl (some (gm_vi (gm_chv id i.toNat)))) n K R M) : gm_Wp X LX d bc bs 84 0 (gm_ent 84 [gm_vo id, gm_vi i]) [] n K R M Q := by
  have g2 := (gm_chk_s hid).2
  refine gm_sz (gm_p_load (pc := 0) (i := .aload_n 0) (sr := 2) (j := 0) (by decide +kernel) rfl rfl rfl) ?_
  refine gm_c_vstr (pc := 1) (ix := 492) (mj := 85) (id := id) (as := []) (st := []) (d' := 0) (bc' := 0) (bs' := 0) (by decide +kernel) (by decide +kernel) (by decide +kernel) (by decide +kernel) hid (by decide +kernel) (by decide +kernel) (fun _ h => nomatch h) (by decide +kernel) (by decide +kernel) (by omega) (Nat.zero_le _) (Nat.zero_le _) (gm_w85 hid ?_)
  show gm_Wp X LX d (bc - 0) (bs - 0) 84 4 (gm_ent 84 [gm_vo id, gm_vi i]) [gm_vi 1] n K R M Q
  refine gm_b_if (pc := 4) (cc := .eq) (off := 12) (by decide +kernel) (by decide +kernel) (fun hp => absurd hp (show ¬ (gm_w 1 = gm_w 0) by decide +kernel)) (fun _ => ?_)
  refine gm_sz (gm_p_load (pc := 7) (i := .aload_n 0) (sr := 2) (j := 0) (by decide +kernel) rfl rfl rfl) ?_
  refine gm_sz (gm_p_sval (pc := 8) hid (by decide +kernel) (by decide +kernel)) ?_
  refine gm_sz (gm_p_load (pc := 11) (i := .iload_n 1) (sr := 0) (j := 1) (by decide +kernel) rfl rfl rfl) ?_
  refine gm_c_stat (pc := 12) (ix := 495) (mj := 86) (as := [gm_vo (1000 + id), gm_vi i]) (st := []) (d' := 2) (bc' := 0) (bs' := 0) (by decide +kernel) (by decide +kernel) (by decide +kernel) (by decide +kernel) rfl (fun u hu => ?_) (show 2 ≤ gm_ml 86 by decide +kernel) (by decide +kernel) (by omega) (Nat.zero_le _) (Nat.zero_le _) (gm_w86 (by omega) hid hi ?_)
  · rcases List.mem_cons.mp hu with rfl | hu
    · simp [gm_sort]
    · rcases List.mem_cons.mp hu with rfl | hu
      · simp [gm_sort]
      · cases hu
  · show gm_Wp X LX d (bc - 0 - 0) (bs - 0 - 0) 84 15 (gm_ent 84 [gm_vo id, gm_vi i]) [gm_vi (gm_chv id i.toNat)] n K R M Q
    exact gm_r_ty (pc := 15) (ty := .char) (by decide +kernel) (by decide +kernel) (g2 i.toNat (by omega)).1 hq
end GST
