/-! 11j.stx -/
section
/-! A STATIC CALL of a method with handlers. -/
section GSX
variable {X : Int → Int} {LX d bc bs mi pc : Nat} {L : gm_L} {st : List gm_V} {n : Nat} {K : gm_K} {R : gm_R} {M : gm_M} {Q : gm_Q}
theorem gm_metH {mj : Nat} {vs : List gm_V} {avs : List Value} (hm : mj < 370) (hmx : gm_ow mj ≠ gm_mxi) (hh : ¬ gm_hh mj = []) (l : Launch) (hl : l.stackTraces = false) {D : va_G} {ti : Nat → ClassId} {adK adV α : Nat → Nat} {A' : Nat → Prop} {H : Heap}
    (hW : gm_Wp X LX d bc bs mj 0 (gm_ent mj vs) [] n K R M Q) (hvs : gm_sr α adK n vs avs) (hcat : ∀ v ∈ vs, ¬ gm_sort v = 1) (hlen : vs.length ≤ gm_ml mj) (hP : va_P D gm_cs (gm_wl ti α n K R M) H) (hD : va_D A' (gm_wl ti α n K R M)) (hRv : gm_Rv n R) (hA' : ∀ q, H.size ≤ q → A' q) :
    vx_Met l (gm_mn mj) (gm_cwd mj :: gm_T) ({ frames := d, cells := bc, slots := bs, locals := d * 300 }) (va_Pc avs (fun U => U.heap = H ∧ gm_Ev X LX adK adV A' U ∧ va_K D gm_cs (gm_ty ti) U)) (gm_QC D ti adK A' α n Q) (gm_XC D ti A' α n Q) bc bs A' := by
  obtain ⟨-, hpl, -, -, -, hown9⟩ := gm_mck_spec hm
  refine vx_ofWH (cc := gm_bc mj) (maxL := gm_ml mj) (ret := gm_rt mj) (ws' := gm_T) (hpl hmx) (hh := gm_hh mj) (by unfold gm_cwd; rw [if_neg hh]) ?_
  intro p e s m args below meth c s₁ B hml hv
  obtain ⟨rfl, hsz, hev, hK⟩ := hv
  have hts := atoms_spec (ws := gm_cwd mj :: gm_T) B.pre
  have hown : s.vm.findClass (gm_mn mj).cls = some m.cls := findClass_of_methodNamed B.named
  have hin : meth.name = (gm_mn mj).name := (name_of_methodNamed B.named B.method).1
  have htab : c.exceptionTable.toList = tableOf (gm_hh mj) := by
    have h1 := hts (gm_cwd mj) List.mem_cons_self
    unfold gm_cwd at h1
    rw [if_neg hh] at h1
    exact vx_table (x := gm_mn mj) B h1
  subst hsz
  rw [lg_entry_eq]
  exact hW p l e _ s m _ below meth c D ti adK adV A' α n bc bs ⟨B.exec, B.bytes, hml, by rw [hown9]; exact hown, B.returns, B.notSynchronized, fun w hw => hts w (List.mem_cons_of_mem _ hw), hin, hl, (by omega), htab⟩ hev (Nat.le_refl _) (Nat.le_refl _) (Nat.le_refl _) (Nat.le_refl _) hA' α s.heap [] 0 0 _ [] gm_xt.rf (by omega) (by omega) ⟨hK, hP, hD, va_S.rf, hRv⟩ (gm_lr_ent hvs hcat hlen) rfl
theorem gm_c_statX {ix mj d' bc' bs' : Nat} {as : List gm_V} (h : gm_at mi pc = some (.invokestatic ix)) (hc : gm_cal (gm_ow mi) ix = some (5, mj)) (hmx : gm_ow mj ≠ gm_mxi) (hh : gm_hh mi = []) (hhj : ¬ gm_hh mj = []) (hna : as.length = gm_na mj) (hcat : ∀ v ∈ as, ¬ gm_sort v = 1) (hlen : as.length ≤ gm_ml mj) (hst : (st.map gm_cat).sum ≤ 8) (hd' : d' + 1 ≤ d) (hb1 : bc' ≤ bc) (hb2 : bs' ≤ bs)
    (hW : gm_Wp X LX d' bc' bs' mj 0 (gm_ent mj as) [] n K R M (gm_cont X LX d (bc - bc') (bs - bs') mi (pc + 3) L st Q)) : gm_Wp X LX d bc bs mi pc L (as.reverse ++ st) n K R M Q := by
  intro p l e Rm s m args below meth c D ti adK adV A α0 n0 mc ms hcx hev hd hd2 hmc hms hA α H locs cells slots ls sv hxt hc1 hc2 hR hL hS
  obtain ⟨w1, sv2, rfl, hw1, hS2⟩ := gm_sr_app hS
  have hdg := gm_dec hcx h rfl
  obtain ⟨hx, hb, hml, hown, -, -, hts, -, hl, -⟩ := id hcx
  obtain ⟨hKn, hP, hD, hSv, hRv⟩ := id hR
  obtain ⟨hj, i1, i2, -, -, i5, i6, -⟩ := gm_cal_spec hc
  obtain ⟨j1, -, j3, j4, j5, -⟩ := gm_mck_spec hj
  have hA1 := gm_sub_A hD hSv hA
  have hvs : gm_sr α adK n as w1.reverse := by have := gm_sr_rev hw1; rwa [List.reverse_reverse] at this
  have hM := gm_metH (adV := adV) (ti := ti) (D := D) hj hmx hhj l hl hW hvs hcat hlen hP (hD.self (sz := H.size)) hRv (fun q h => Or.inr h)
  have hcode : gm_cwd mj = .codeWith (gm_mn mj) (gm_bc mj) (gm_ml mj) (gm_rt mj) (gm_hh mj) := by unfold gm_cwd; rw [if_neg hhj]
  have hwl : w1.length = as.length := by have := (gm_sr_at hw1).1; simpa using this
  have hpre : PreS s H (va_Pc w1.reverse (fun U => U.heap = H ∧ gm_Ev X LX adK adV (va_A (gm_wl ti α n K R M) H.size) U ∧ va_K D gm_cs (gm_ty ti) U)) w1.reverse := ⟨gm_blind, fun U hU hWm => ⟨rfl, hU, gm_Ev_to hev hWm (by rw [hU]; exact hSv.1) (fun a h1 h2 => by rw [hU]; exact hSv.2.1 a h1 h2) hA1, va_K.moved hWm.alike hKn⟩⟩
  refine gm_tail (bc' := bc') (bs' := bs') hh hcx hev hd hd2 hmc hms hA hxt hb1 hb2 hc1 hc2 hSv hL hS2 hA1 (a := w1.reverse.toArray) ?_
  have hR1 : d' + 1 ≤ Rm.frames ∧ 8 + (gm_ml mj + 11) + d' * 300 ≤ Rm.locals := ⟨by omega, by omega⟩
  have hroom := lv_room (m := m) (pc := pc) (ls := ls) (rest := w1 ++ sv2) (st := sv2) (by rw [gm_sum_eq hS2]; exact hst)
  have hG9 : GoodIn gm_T (va_wsS (gm_rn (gm_ow mi)) ix (gm_mn mj) (gm_cwd mj :: gm_T)) := by
    intro w hw
    simp only [va_wsS, List.cons_append, List.nil_append, List.mem_cons] at hw
    rcases hw with rfl | rfl | rfl | rfl | hw
    all_goals first | exact gm_T_good _ i1 | exact gm_T_good _ (i2 (by omega)) | exact gm_T_good _ (i5 (Or.inr rfl)) | exact gm_T_good _ j1 | exact gm_T_good _ hw
  exact vx_runSX (hh := gm_hh mj) (As := w1.reverse) (n := gm_na mj) (index := ix) ⟨hx, hb, hml, hown, hts⟩ hM (vx_cwSW (rm := { frames := d', cells := bc', slots := bs', locals := d' * 300 }) (gm_na mj) hts hG9 (by rw [hcode]) rfl rfl ⟨j3.1, j3.2, j4⟩ hR1) hpre rfl (by rw [List.length_reverse, hwl, hna]) hL.2.choose_spec.1.1 (by rw [List.reverse_reverse]) hroom hdg ⟨by omega, by omega⟩
end GSX
end
/-! 11k.str -/
section
/-! STRINGS: how long they are, their letters. -/
section GST
variable {X : Int → Int} {LX d bc bs mi pc : Nat} {L : gm_L} {st : List gm_V} {n : Nat} {K : gm_K} {R : gm_R} {M : gm_M} {Q : gm_Q}
theorem gm_sz {pc' : Nat} {L' : gm_L} {st' : List gm_V} {n' : Nat} {K' : gm_K} {R' : gm_R} {M' : gm_M} (h : gm_Sp X LX d mi pc L st n K R M pc' L' st' n' K' R' M' 0 0) (k : gm_Wp X LX d bc bs mi pc' L' st' n' K' R' M' Q) : gm_Wp X LX d bc bs mi pc L st n K R M Q := gm_sp h (Nat.zero_le _) (Nat.zero_le _) k
def gm_slen (id : Nat) : Nat := gm_sl.getD id 0
def gm_sby (id j : Nat) : Int32 := (gm_sb.getD id []).getD j 0
def gm_sws : List Jvm.Cond := [.fieldLink "java/lang/String" 38 "java/lang/String" "COMPACT_STRINGS" "Z", .fieldLink "java/lang/String" 9 "java/lang/String" "value" "[B", .fieldLink "java/lang/String" 15 "java/lang/String" "coder" "B", .fieldLink "java/lang/String" 1053 "jdk/internal/util/Preconditions" "SIOOBE_FORMATTER" "Ljava/util/function/BiFunction;"]
theorem gm_sws_ok : gm_sws.all (fun w => gm_mem w && goodWord w) = true := by decide +kernel
theorem gm_sws_in {i : Nat} {w : Jvm.Cond} (h : gm_sws[i]? = some w) : w ∈ gm_T := by
  have h1 := List.all_eq_true.mp gm_sws_ok w (List.mem_of_getElem? h)
  rw [Bool.and_eq_true] at h1
  exact List.mem_filter.mpr ⟨gm_mem_in h1.1, h1.2⟩
theorem gm_sl75 : gm_sl.length = 75 := by decide +kernel
theorem gm_p_cs (h : gm_at mi pc = some (.getstatic 38)) (ho : gm_rn (gm_ow mi) = "java/lang/String") : gm_Sp X LX d mi pc L st n K R M (pc + 3) L (gm_vi 1 :: st) n K R M 0 0 := by
  intro p l e Rm s m args below meth c D ti adK adV A hcx hev hd hd2 hA α H locs cells slots ls sv Q' hc1 hc2 hR hL hS k2
  have hdg := gm_dec hcx h rfl
  obtain ⟨hx, hb, -, hown, -, -, hts, -⟩ := id hcx
  obtain ⟨hKn, hP, hD, hSv, hRv⟩ := id hR
  rw [ho] at hown
  exact va_gets hx hb hev.2.2.2.2.1.1 hSv hown (hts _ (gm_sws_in (i := 0) rfl)) (fun _ h => h) hdg (k2 α H locs ls _ gm_xt.rf hR hL ⟨_, _, rfl, rfl, hS⟩)
/-- the maker of what an index out of bounds would throw: null or a reference, it is only passed on -/
theorem gm_b_sio (h : gm_at mi pc = some (.getstatic 1053)) (ho : gm_rn (gm_ow mi) = "java/lang/String") (k0 : gm_Wp X LX d bc bs mi (pc + 3) L (gm_vr 0 :: st) n K R M Q) (k1 : gm_Wp X LX d bc bs mi (pc + 3) L (gm_vo 5000 :: st) n K R M Q) : gm_Wp X LX d bc bs mi pc L st n K R M Q := by
  intro p l e Rm s m args below meth c D ti adK adV A α0 n0 mc ms hcx hev hd hd2 hmc hms hA α H locs cells slots ls sv hxt hc1 hc2 hR hL hS
  have hdg := gm_dec hcx h rfl
  obtain ⟨hx, hb, -, hown, -, -, hts, -⟩ := id hcx
  obtain ⟨hKn, hP, hD, hSv, hRv⟩ := id hR
  rw [ho] at hown
  rcases hev.2.2.2.2.1.2.1 with hz | ⟨t, hz⟩
  · exact va_gets hx hb hz hSv hown (hts _ (gm_sws_in (i := 3) rfl)) (fun _ h => h) hdg (k0 p l e Rm s m args below meth c D ti adK adV A α0 n0 mc ms hcx hev hd hd2 hmc hms hA α H locs cells slots ls _ hxt hc1 hc2 hR hL ⟨_, _, rfl, ⟨rfl, Or.inl (Nat.zero_le _)⟩, hS⟩)
  · exact va_gets hx hb hz hSv hown (hts _ (gm_sws_in (i := 3) rfl)) (fun _ h => h) hdg (k1 p l e Rm s m args below meth c D ti adK adV A α0 n0 mc ms hcx hev hd hd2 hmc hms hA α H locs cells slots ls _ hxt hc1 hc2 hR hL ⟨_, _, rfl, ⟨t, rfl, fun h => absurd h (by omega)⟩, hS⟩)
theorem gm_p_sval {id : Nat} (hid : id < gm_sl.length) (h : gm_at mi pc = some (.getfield 9)) (ho : gm_rn (gm_ow mi) = "java/lang/String") : gm_Sp X LX d mi pc L (gm_vo id :: st) n K R M (pc + 3) L (gm_vo (1000 + id) :: st) n K R M 0 0 := by
  intro p l e Rm s m args below meth c D ti adK adV A hcx hev hd hd2 hA α H locs cells slots ls sv Q' hc1 hc2 hR hL hS k2
  obtain ⟨w1, sv, rfl, ⟨a, rfl, ha⟩, hS⟩ := hS
  have hdg := gm_dec hcx h rfl
  obtain ⟨hx, hb, -, hown, -, -, hts, -⟩ := _root_.id hcx
  obtain ⟨hKn, hP, hD, hSv, hRv⟩ := _root_.id hR
  rw [ho] at hown
  have h75 := gm_sl75
  obtain ⟨o1, o2, o3, o4⟩ := (hev.1 id hid).1 0 (by omega)
  have ha := ha (by omega)
  subst ha
  exact vk_getf hx hb o3 hSv hown (hts _ (gm_sws_in (i := 1) rfl)) (fun _ h => h) hdg (k2 α H locs ls _ gm_xt.rf hR hL ⟨_, _, rfl, ⟨adV id, rfl, fun _ => (hev.2.2.2.2.1.2.2 id hid).symm⟩, hS⟩)
theorem gm_p_scod {id : Nat} (hid : id < gm_sl.length) (h : gm_at mi pc = some (.getfield 15)) (ho : gm_rn (gm_ow mi) = "java/lang/String") : gm_Sp X LX d mi pc L (gm_vo id :: st) n K R M (pc + 3) L (gm_vi 0 :: st) n K R M 0 0 := by
  intro p l e Rm s m args below meth c D ti adK adV A hcx hev hd hd2 hA α H locs cells slots ls sv Q' hc1 hc2 hR hL hS k2
  obtain ⟨w1, sv, rfl, ⟨a, rfl, ha⟩, hS⟩ := hS
  have hdg := gm_dec hcx h rfl
  obtain ⟨hx, hb, -, hown, -, -, hts, -⟩ := _root_.id hcx
  obtain ⟨hKn, hP, hD, hSv, hRv⟩ := _root_.id hR
  rw [ho] at hown
  have h75 := gm_sl75
  obtain ⟨o1, o2, o3, o4⟩ := (hev.1 id hid).1 0 (by omega)
  have ha := ha (by omega)
  subst ha
  exact vk_getf hx hb o2 hSv hown (hts _ (gm_sws_in (i := 2) rfl)) (fun _ h => h) hdg (k2 α H locs ls _ gm_xt.rf hR hL ⟨_, _, rfl, rfl, hS⟩)
theorem gm_p_sale {id : Nat} (hid : id < gm_sl.length) (h : gm_at mi pc = some .arraylength) : gm_Sp X LX d mi pc L (gm_vo (1000 + id) :: st) n K R M (pc + 1) L (gm_vi (gm_slen id : Int) :: st) n K R M 0 0 := by
  intro p l e Rm s m args below meth c D ti adK adV A hcx hev hd hd2 hA α H locs cells slots ls sv Q' hc1 hc2 hR hL hS k2
  obtain ⟨w1, sv, rfl, ⟨a, rfl, ha⟩, hS⟩ := hS
  have hdg := gm_dec hcx h rfl
  obtain ⟨hx, hb, -⟩ := _root_.id hcx
  obtain ⟨hKn, hP, hD, hSv, hRv⟩ := _root_.id hR
  have h75 := gm_sl75
  obtain ⟨o1, o2, o3, o4⟩ := (hev.1 id hid).1 0 (by omega)
  have ha := (ha (by omega)).trans (hev.2.2.2.2.1.2.2 id hid)
  subst ha
  exact va_tlen hx hb o4 hSv (gm_ofNat _) hdg (k2 α H locs ls _ gm_xt.rf hR hL ⟨_, _, rfl, rfl, hS⟩)
theorem gm_p_sbal {id : Nat} {e0 : Int} (hid : id < gm_sl.length) (h : gm_at mi pc = some .baload) (hi : 0 ≤ gm_w e0 ∧ gm_w e0 < gm_slen id) : gm_Sp X LX d mi pc L (gm_vi e0 :: gm_vo (1000 + id) :: st) n K R M (pc + 1) L (gm_vi (gm_sby id (gm_w e0).toNat).toInt :: st) n K R M 0 0 := by
  intro p l e Rm s m args below meth c D ti adK adV A hcx hev hd hd2 hA α H locs cells slots ls sv Q' hc1 hc2 hR hL hS k2
  obtain ⟨w0, sv, rfl, h0, hS⟩ := hS
  obtain ⟨w1, sv, rfl, ⟨a, rfl, ha⟩, hS⟩ := hS
  cases h0
  have hdg := gm_dec hcx h rfl
  obtain ⟨hx, hb, -⟩ := _root_.id hcx
  obtain ⟨hKn, hP, hD, hSv, hRv⟩ := _root_.id hR
  have h75 := gm_sl75
  obtain ⟨o1, o2, o3, o4⟩ := (hev.1 id hid).1 0 (by omega)
  have ha := (ha (by omega)).trans (hev.2.2.2.2.1.2.2 id hid)
  subst ha
  refine va_tb hx hb o4 hSv (gm_in hi.1 hi.2) rfl hdg (k2 α H locs ls _ gm_xt.rf hR hL ⟨_, _, rfl, ?_, hS⟩)
  show Value.int (gm_sby id (Int32.ofInt e0).toNatClampNeg) = Value.int (Int32.ofInt (gm_sby id (gm_w e0).toNat).toInt)
  rw [gm_cl, ← gm_ti]
def gm_i2c (x : Int) : Int := ((Int32.ofInt x).toUInt32 % 65536).toInt32.toInt
theorem gm_p_i2c {x : Int} (h : gm_at mi pc = some .i2c) : gm_Sp X LX d mi pc L (gm_vi x :: st) n K R M (pc + 1) L (gm_vi (gm_i2c x) :: st) n K R M 0 0 := by
  refine gm_stk fun p l e Rm s m args below meth c hcx α adK H locs cells slots ls sv Q' hL hS k => ?_
  obtain ⟨w, sv, rfl, h1, hS⟩ := hS
  cases h1
  have hdg := gm_dec hcx h rfl
  obtain ⟨hx, hb, -⟩ := hcx
  exact lv_i2c hx hb hdg (gm_ti _) (k _ ⟨_, _, rfl, rfl, hS⟩)
theorem gm_r_ty {x : Int} {ty : FieldType} (h : gm_at mi pc = some .ireturn) (hr : gm_rt mi = some ty) (hn : narrow ty (.int (Int32.ofInt x)) = .int (Int32.ofInt x)) (hq : Q (.inl (some (gm_vi x))) n K R M) : gm_Wp X LX d bc bs mi pc L [gm_vi x] n K R M Q := by
  intro p l e Rm s m args below meth c D ti adK adV A α0 n0 mc ms hcx hev hd hd2 hmc hms hA α H locs cells slots ls sv hxt hc1 hc2 hR hL hS
  obtain ⟨w, sv, rfl, h1, hS⟩ := hS
  cases h1; cases hS
  have hdg := gm_dec hcx h rfl
  obtain ⟨hx, hb, -, -, hret, hlk, -⟩ := id hcx
  obtain ⟨hKn, hP, hD, hSv, hRv⟩ := id hR
  have hq' : ∀ t : State, t.heap = H → s.WarmedH t.vm → gm_QC D ti adK A α0 n0 Q args s (.returned (some (.int (Int32.ofInt x)))) t := fun t ht hW => ⟨⟨_, some (gm_vi x), α, n, K, R, M, rfl, ⟨_, rfl, rfl⟩, hq, hxt, va_K.moved hW.alike hKn, by rw [ht]; exact hP, hD, hRv⟩, hSv.F ht⟩
  refine W.widen (k := mc) (n := ms) (by omega) (by omega) (vx_ret ?_)
  exact W.zret hx hb (by rw [hret]; exact hr) hn hq' hSv.2.2 hdg hlk
theorem gm_c_vstr {ix mj id d' bc' bs' : Nat} {as : List gm_V} (h : gm_at mi pc = some (.invokevirtual ix)) (hc : gm_cal (gm_ow mi) ix = some (0, mj)) (hmx : gm_ow mj ≠ gm_mxi) (hh : gm_hh mi = []) (hid : id < gm_sl.length) (hcn : (gm_mn mj).cls = "java/lang/String") (hna : as.length = gm_na mj) (hcat : ∀ v ∈ as, ¬ gm_sort v = 1) (hlen : as.length + 1 ≤ gm_ml mj) (hst : (st.map gm_cat).sum ≤ 8) (hd' : d' + 1 ≤ d) (hb1 : bc' ≤ bc) (hb2 : bs' ≤ bs)
    (hW : gm_Wp X LX d' bc' bs' mj 0 (gm_ent mj (gm_vo id :: as)) [] n K R M (gm_cont X LX d (bc - bc') (bs - bs') mi (pc + 3) L st Q)) : gm_Wp X LX d bc bs mi pc L (as.reverse ++ gm_vo id :: st) n K R M Q := by
  intro p l e Rm s m args below meth c D ti adK adV A α0 n0 mc ms hcx hev hd hd2 hmc hms hA α H locs cells slots ls sv hxt hc1 hc2 hR hL hS
  obtain ⟨w1, w2, rfl, hw1, w, sv2, rfl, ⟨a, rfl, ha⟩, hS2⟩ := gm_sr_app hS
  have h75 := gm_sl75
  have ha := ha (by omega)
  subst ha
  have hdg := gm_dec hcx h rfl
  obtain ⟨hx, hb, hml, hown, -, -, hts, -, hl, -⟩ := _root_.id hcx
  obtain ⟨hKn, hP, hD, hSv, hRv⟩ := _root_.id hR
  obtain ⟨hj, i1, i2, i3, -, -, i6, -⟩ := gm_cal_spec hc
  obtain ⟨j1, -, j3, j4, j5, -⟩ := gm_mck_spec hj
  have hA1 := gm_sub_A hD hSv hA
  have hvs : gm_sr α adK n (gm_vo id :: as) (Value.ref (adK id) :: w1.reverse) := ⟨_, _, rfl, ⟨_, rfl, fun _ => rfl⟩, by have := gm_sr_rev hw1; rwa [List.reverse_reverse] at this⟩
  have hM := gm_met (adV := adV) (ti := ti) (D := D) hj hmx (i6 (by omega)) l hl hW hvs (by intro v hv; rcases List.mem_cons.mp hv with rfl | hv; exact (by simp [gm_sort]); exact hcat v hv) (by simpa using hlen) hP (hD.self (sz := H.size)) hRv (fun q h => Or.inr h)
  obtain ⟨o1, -⟩ := (hev.1 id hid).1 0 (by omega)
  obtain ⟨cell, c1, c2, c3, -⟩ := o1.kept (fun a h1 h2 => hSv.2.1 a h1 h2)
  have hcode : gm_cwd mj = .code (gm_mn mj) (gm_bc mj) (gm_ml mj) (gm_rt mj) := by unfold gm_cwd; rw [if_pos (i6 (by omega))]
  have hwl : w1.length = as.length := by have := (gm_sr_at hw1).1; simpa using this
  have hG : GoodIn gm_T (wsV (gm_rn (gm_ow mi)) ix (gm_mn mj).cls (gm_mn mj) (gm_cwd mj :: gm_T)) := by
    intro w hw
    refine ⟨?_, ?_⟩
    · simp only [wsV, List.cons_append, List.nil_append, List.mem_cons] at hw
      rcases hw with rfl | rfl | rfl | rfl | rfl | hw
      · exact i2 (by omega)
      · exact (i3 rfl).1
      · exact (i3 rfl).2
      · exact i1
      · exact j1
      · exact hw
    · simp only [wsV, List.cons_append, List.nil_append, List.mem_cons] at hw
      rcases hw with rfl | rfl | rfl | rfl | rfl | hw
      · exact Or.inl rfl
      · exact Or.inl rfl
      · exact Or.inl rfl
      · exact Or.inl rfl
      · exact (gm_T_good _ j1).2
      · exact (gm_T_good _ hw).2
  refine gm_tail (bc' := bc') (bs' := bs') hh hcx hev hd hd2 hmc hms hA hxt hb1 hb2 hc1 hc2 hSv hL hS2 hA1 (a := (Value.ref (adK id) :: w1.reverse).toArray) ?_
  refine vx_runV (As := w1.reverse) (n := gm_na mj) (index := ix) (C := (gm_mn mj).cls) ⟨hx, hb, hml, hown, hts⟩ hM (cwV (rm := { frames := d', cells := bc', slots := bs', locals := d' * 300 }) (gm_na mj) hts hG (by rw [hcode]) rfl rfl ⟨rfl, j3.1, j3.2, j4⟩ ⟨by show d' + 1 ≤ _; omega, by show 8 + (gm_ml mj + 11) + d' * 300 ≤ _; omega⟩) ⟨gm_blind, ?_, fun U hU hWm => ⟨rfl, hU, gm_Ev_to hev hWm (by rw [hU]; exact hSv.1) (fun a h1 h2 => by rw [hU]; exact hSv.2.1 a h1 h2) hA1, va_K.moved hWm.alike hKn⟩⟩ rfl (by rw [List.length_reverse, hwl, hna]) ?_ (by rw [List.reverse_reverse]) (lv_room (by rw [gm_sum_eq hS2]; exact hst)) hdg ⟨by omega, by omega⟩
  · rw [hcn]; exact ⟨cell, c1, c2, c3⟩
  · exact hL.2.choose_spec.1.1
/-- a letter of a String constant -/
def gm_chv (id j : Nat) : Int := gm_i2c (Int32.ofInt (gm_sby id j).toInt &&& Int32.ofInt 255).toInt
def gm_chk : Bool := (List.range 75).all fun id => decide ((Int32.ofInt (gm_slen id : Int) >>> (Int32.ofInt 0 &&& 31)).toInt = (gm_slen id : Int)) && (decide (gm_slen id < 100) && (List.range (gm_slen id)).all fun j => (match narrow .char (.int (Int32.ofInt (gm_chv id j))) with | .int u => decide (u = Int32.ofInt (gm_chv id j)) | _ => false) && (decide (0 ≤ gm_chv id j) && decide (gm_chv id j < 128)))
theorem gm_chk_ok : gm_chk = true := by decide +kernel
theorem gm_chk_s {id : Nat} (hid : id < gm_sl.length) : ((Int32.ofInt (gm_slen id : Int) >>> (Int32.ofInt 0 &&& 31)).toInt = (gm_slen id : Int) ∧ gm_slen id < 100) ∧ ∀ j, j < gm_slen id → narrow .char (.int (Int32.ofInt (gm_chv id j))) = .int (Int32.ofInt (gm_chv id j)) ∧ 0 ≤ gm_chv id j ∧ gm_chv id j < 128 := by
  rw [gm_sl75] at hid
  have h := List.all_eq_true.mp gm_chk_ok id (List.mem_range.mpr hid)
  simp only [Bool.and_eq_true, decide_eq_true_eq] at h
  refine ⟨⟨h.1, h.2.1⟩, fun j hj => ?_⟩
  have h2 := List.all_eq_true.mp h.2.2 j (List.mem_range.mpr hj)
  rw [Bool.and_eq_true, Bool.and_eq_true, decide_eq_true_eq, decide_eq_true_eq] at h2
  refine ⟨?_, h2.2⟩
  have h3 := h2.1
  split at h3
  · rename_i u hu
    rw [hu, of_decide_eq_true h3]
  · cases h3

theorem gm_w83 {id : Nat} (hid : id < gm_sl.length) (hq : Q (.inl (some (gm_vi 0))) n K R M) : gm_Wp X LX d bc bs 83 0 (gm_ent 83 [gm_vo id]) [] n K R M Q := by
  refine gm_sz (gm_p_cs (pc := 0) (by decide +kernel) (by decide +kernel)) ?_
  refine gm_b_if (pc := 3) (cc := .eq) (off := 10) (by decide +kernel) (by decide +kernel) (fun hp => absurd hp (show ¬ (gm_w 1 = gm_w 0) by decide +kernel)) (fun _ => ?_)
  refine gm_sz (gm_p_load (pc := 6) (i := .aload_n 0) (sr := 2) (j := 0) (by decide +kernel) rfl rfl rfl) ?_
  refine gm_sz (gm_p_scod (pc := 7) hid (by decide +kernel) (by decide +kernel)) ?_
  refine gm_sz (gm_p_goto (pc := 10) (off := 4) (by decide +kernel) (by decide +kernel)) ?_
  exact gm_r_ty (pc := 14) (ty := .byte) (by decide +kernel) (by decide +kernel) rfl hq
theorem gm_w85 {id : Nat} (hid : id < gm_sl.length) (hq : Q (.inl (some (gm_vi 1))) n K R M) : gm_Wp X LX d bc bs 85 0 (gm_ent 85 [gm_vo id]) [] n K R M Q := by
  refine gm_sz (gm_p_cs (pc := 0) (by decide +kernel) (by decide +kernel)) ?_
  refine gm_b_if (pc := 3) (cc := .eq) (off := 14) (by decide +kernel) (by decide +kernel) (fun hp => absurd hp (show ¬ (gm_w 1 = gm_w 0) by decide +kernel)) (fun _ => ?_)
  refine gm_sz (gm_p_load (pc := 6) (i := .aload_n 0) (sr := 2) (j := 0) (by decide +kernel) rfl rfl rfl) ?_
  refine gm_sz (gm_p_scod (pc := 7) hid (by decide +kernel) (by decide +kernel)) ?_
  refine gm_b_if (pc := 10) (cc := .ne) (off := 7) (by decide +kernel) (by decide +kernel) (fun hp => absurd (show gm_w 0 = gm_w 0 from rfl) hp) (fun _ => ?_)
  refine gm_sz (gm_p_const (pc := 13) (i := .iconst 1) (v := gm_vi 1) (by decide +kernel) rfl) ?_
  refine gm_sz (gm_p_goto (pc := 14) (off := 4) (by decide +kernel) (by decide +kernel)) ?_
  exact gm_r_int (pc := 18) (by decide +kernel) (Or.inr ⟨(by decide +kernel), Or.inr rfl⟩) hq
theorem gm_w88 {v : gm_V} {i m : Int} (hi : 0 ≤ i ∧ i < m ∧ m < 2147483648) (hq : Q (.inl (some (gm_vi i))) n K R M) : gm_Wp X LX d bc bs 88 0 (gm_ent 88 [gm_vi i, gm_vi m, v]) [] n K R M Q := by
  have h1 : gm_w i = i := gm_w_id (by omega) (by omega)
  have h2 : gm_w m = m := gm_w_id (by omega) (by omega)
  refine gm_sz (gm_p_load (pc := 0) (i := .iload_n 0) (sr := 0) (j := 0) (by decide +kernel) rfl rfl rfl) ?_
  refine gm_b_if (pc := 1) (cc := .lt) (off := 8) (by decide +kernel) (by decide +kernel) (fun hp => ?_) (fun _ => ?_)
  · have hp : gm_w i < gm_w 0 := hp
    rw [h1, show gm_w 0 = 0 from rfl] at hp
    omega
  refine gm_sz (gm_p_load (pc := 4) (i := .iload_n 0) (sr := 0) (j := 0) (by decide +kernel) rfl rfl rfl) ?_
  refine gm_sz (gm_p_load (pc := 5) (i := .iload_n 1) (sr := 0) (j := 1) (by decide +kernel) rfl rfl rfl) ?_
  refine gm_b_ic (pc := 6) (cc := .lt) (off := 10) (by decide +kernel) (by decide +kernel) (fun _ => ?_) (fun hp => ?_)
  · refine gm_sz (gm_p_load (pc := 16) (i := .iload_n 0) (sr := 0) (j := 0) (by decide +kernel) rfl rfl rfl) ?_
    exact gm_r_int (pc := 17) (by decide +kernel) (Or.inl (by decide +kernel)) hq
  · exact absurd (show gm_w i < gm_w m by rw [h1, h2]; exact hi.2.1) hp
theorem gm_w87 {i m : Int} (hd : 1 ≤ d) (hi : 0 ≤ i ∧ i < m ∧ m < 2147483648) (hq : Q (.inl none) n K R M) : gm_Wp X LX d bc bs 87 0 (gm_ent 87 [gm_vi i, gm_vi m]) [] n K R M Q := by
  have key : ∀ v : gm_V, ¬ gm_sort v = 1 → gm_Wp X LX d bc bs 87 5 (gm_ent 87 [gm_vi i, gm_vi m]) [v, gm_vi m, gm_vi i] n K R M Q := by
    intro v hv
    refine gm_c_stat (pc := 5) (ix := 1059) (mj := 88) (as := [gm_vi i, gm_vi m, v]) (st := []) (d' := 0) (bc' := 0) (bs' := 0) (by decide +kernel) (by decide +kernel) (by decide +kernel) (by decide +kernel) rfl (fun u hu => ?_) (show 3 ≤ gm_ml 88 by decide +kernel) (by decide +kernel) hd (Nat.zero_le _) (Nat.zero_le _) (gm_w88 hi ?_)
    · rcases List.mem_cons.mp hu with rfl | hu
      · simp [gm_sort]
      · rcases List.mem_cons.mp hu with rfl | hu
        · simp [gm_sort]
        · rcases List.mem_cons.mp hu with rfl | hu
          · exact hv
          · cases hu
    · show gm_Wp X LX d (bc - 0) (bs - 0) 87 8 (gm_ent 87 [gm_vi i, gm_vi m]) [gm_vi i] n K R M Q
      refine gm_sz (gm_p_pop (pc := 8) (by decide +kernel) (by simp [gm_sort])) ?_
      exact gm_r_void (pc := 9) (by decide +kernel) (by decide +kernel) hq
  refine gm_sz (gm_p_load (pc := 0) (i := .iload_n 0) (sr := 0) (j := 0) (by decide +kernel) rfl rfl rfl) ?_
  refine gm_sz (gm_p_load (pc := 1) (i := .iload_n 1) (sr := 0) (j := 1) (by decide +kernel) rfl rfl rfl) ?_
  exact gm_b_sio (pc := 2) (by decide +kernel) (by decide +kernel) (key _ (by simp [gm_sort])) (key _ (by simp [gm_sort]))
theorem gm_w86 {id : Nat} {i : Int} (hd : 2 ≤ d) (hid : id < gm_sl.length) (hi : 0 ≤ i ∧ i < gm_slen id) (hq : Q (.inl (some (gm_vi (gm_chv id i.toNat)))) n K R M) : gm_Wp X LX d bc bs 86 0 (gm_ent 86 [gm_vo (1000 + id), gm_vi i]) [] n K R M Q := by
  obtain ⟨⟨-, g1⟩, g2⟩ := gm_chk_s hid
  have h1 : gm_w i = i := gm_w_id (by omega) (by omega)
  refine gm_sz (gm_p_load (pc := 0) (i := .iload_n 1) (sr := 0) (j := 1) (by decide +kernel) rfl rfl rfl) ?_
  refine gm_sz (gm_p_load (pc := 1) (i := .aload_n 0) (sr := 2) (j := 0) (by decide +kernel) rfl rfl rfl) ?_
  refine gm_sz (gm_p_sale (pc := 2) hid (by decide +kernel)) ?_
  refine gm_c_stat (pc := 3) (ix := 9) (mj := 87) (as := [gm_vi i, gm_vi (gm_slen id : Int)]) (st := []) (d' := 1) (bc' := 0) (bs' := 0) (by decide +kernel) (by decide +kernel) (by decide +kernel) (by decide +kernel) rfl (fun u hu => ?_) (show 2 ≤ gm_ml 87 by decide +kernel) (by decide +kernel) (by omega) (Nat.zero_le _) (Nat.zero_le _) (gm_w87 (by omega) ⟨hi.1, hi.2, by omega⟩ ?_)
  · rcases List.mem_cons.mp hu with rfl | hu
    · simp [gm_sort]
    · rcases List.mem_cons.mp hu with rfl | hu
      · simp [gm_sort]
      · cases hu
  · show gm_Wp X LX d (bc - 0) (bs - 0) 86 6 (gm_ent 86 [gm_vo (1000 + id), gm_vi i]) [] n K R M Q
    refine gm_sz (gm_p_load (pc := 6) (i := .aload_n 0) (sr := 2) (j := 0) (by decide +kernel) rfl rfl rfl) ?_
    refine gm_sz (gm_p_load (pc := 7) (i := .iload_n 1) (sr := 0) (j := 1) (by decide +kernel) rfl rfl rfl) ?_
    refine gm_sz (gm_p_sbal (pc := 8) hid (by decide +kernel) (by rw [h1]; exact hi)) ?_
    refine gm_sz (gm_p_const (pc := 9) (i := .sipush 255) (v := gm_vi 255) (by decide +kernel) (by decide +kernel)) ?_
    refine gm_sz (gm_p_bin (pc := 12) (i := .iand) (f := fun x y => (Int32.ofInt x &&& Int32.ofInt y).toInt) (by decide +kernel) rfl) ?_
    refine gm_sz (gm_p_i2c (pc := 13) (by decide +kernel)) ?_
    rw [h1]
    show gm_Wp X LX d _ _ 86 14 _ [gm_vi (gm_chv id i.toNat)] n K R M Q
    exact gm_r_ty (pc := 14) (ty := .char) (by decide +kernel) (by decide +kernel) (g2 i.toNat (by omega)).1 hq
/-- String.length -/
theorem gm_w82 {id : Nat} (hd : 1 ≤ d) (hid : id < gm_sl.length) (hq : Q (.inl (some (gm_vi (gm_slen id : Int)))) n K R M) : gm_Wp X LX d bc bs 82 0 (gm_ent 82 [gm_vo id]) [] n K R M Q := by
  refine gm_sz (gm_p_load (pc := 0) (i := .aload_n 0) (sr := 2) (j := 0) (by decide +kernel) rfl rfl rfl) ?_
  refine gm_sz (gm_p_sval (pc := 1) hid (by decide +kernel) (by decide +kernel)) ?_
  refine gm_sz (gm_p_sale (pc := 4) hid (by decide +kernel)) ?_
  refine gm_sz (gm_p_load (pc := 5) (i := .aload_n 0) (sr := 2) (j := 0) (by decide +kernel) rfl rfl rfl) ?_
  refine gm_c_vstr (pc := 6) (ix := 335) (mj := 83) (id := id) (as := []) (st := [gm_vi (gm_slen id : Int)]) (d' := 0) (bc' := 0) (bs' := 0) (by decide +kernel) (by decide +kernel) (by decide +kernel) (by decide +kernel) hid (by decide +kernel) (by decide +kernel) (fun _ h => nomatch h) (by decide +kernel) (by simp [gm_cat, gm_sort]) hd (Nat.zero_le _) (Nat.zero_le _) (gm_w83 hid ?_)
  show gm_Wp X LX d (bc - 0) (bs - 0) 82 9 (gm_ent 82 [gm_vo id]) [gm_vi 0, gm_vi (gm_slen id : Int)] n K R M Q
  refine gm_sz (gm_p_bin (pc := 9) (i := .ishr) (f := fun x y => (Int32.ofInt x >>> (Int32.ofInt y &&& 31)).toInt) (by decide +kernel) rfl) ?_
  rw [(gm_chk_s hid).1.1]
  exact gm_r_int (pc := 10) (by decide +kernel) (Or.inl (by decide +kernel)) hq
/-- String.charAt -/
theorem gm_w84 {id : Nat} {i : Int} (hd : 3 ≤ d) (hid : id < gm_sl.length) (hi : 0 ≤ i ∧ i < gm_slen id) (hq : Q (.inl (some (gm_vi (gm_chv id i.toNat)))) n K R M) : gm_Wp X LX d bc bs 84 0 (gm_ent 84 [gm_vo id, gm_vi i]) [] n K R M Q := by
  have g2 := (gm_chk_s hid).2
  refine gm_sz (gm_p_load (pc := 0) (i := .aload_n 0) (sr := 2) (j := 0) (by decide +kernel) rfl rfl rfl) ?_
  refine gm_c_vstr (pc := 1) (ix := 492) (mj := 85) (id := id) (as := []) (st := []) (d' := 0) (bc' := 0) (bs' := 0) (by decide +kernel) (by decide +kernel) (by decide +kernel) (by decide +kernel) hid (by decide +kernel) (by decide +kernel) (fun _ h => nomatch h) (by decide +kernel) (by decide +kernel) (by omega) (Nat.zero_le _) (Nat.zero_le _) (gm_w85 hid ?_)
  show gm_Wp X LX d (bc - 0) (bs - 0) 84 4 (gm_ent 84 [gm_vo id, gm_vi i]) [gm_vi 1] n K R M Q
  refine gm_b_if (pc := 4) (cc := .eq) (off := 12) (by decide +kernel) (by decide +kernel) (fun hp => absurd hp (show ¬ (gm_w 1 = gm_w 0) by decide +kernel)) (fun _ => ?_)
  refine gm_sz (gm_p_load (pc := 7) (i := .aload_n 0) (sr := 2) (j := 0) (by decide +kernel) rfl rfl rfl) ?_
  refine gm_sz (gm_p_sval (pc := 8) hid (by decide +kernel) (by decide +kernel)) ?_
  refine gm_sz (gm_p_load (pc := 11) (i := .iload_n 1) (sr := 0) (j := 1) (by decide +kernel) rfl rfl rfl) ?_
  refine gm_c_stat (pc := 12) (ix := 495) (mj := 86) (as := [gm_vo (1000 + id), gm_vi i]) (st := []) (d' := 2) (bc' := 0) (bs' := 0) (by decide +kernel) (by decide +kernel) (by decide +kernel) (by decide +kernel) rfl (fun u hu => ?_) (show 2 ≤ gm_ml 86 by decide +kernel) (by decide +kernel) (by omega) (Nat.zero_le _) (Nat.zero_le _) (gm_w86 (by omega) hid hi ?_)
  · rcases List.mem_cons.mp hu with rfl | hu
    · simp [gm_sort]
    · rcases List.mem_cons.mp hu with rfl | hu
      · simp [gm_sort]
      · cases hu
  · show gm_Wp X LX d (bc - 0 - 0) (bs - 0 - 0) 84 15 (gm_ent 84 [gm_vo id, gm_vi i]) [gm_vi (gm_chv id i.toNat)] n K R M Q
    exact gm_r_ty (pc := 15) (ty := .char) (by decide +kernel) (by decide +kernel) (g2 i.toNat (by omega)).1 hq
end GST
end
/-! 12b.ck -/
section
/-! WHAT THE CHECKER STANDS ON (turned from 12.wx to 16.ib of p1): what is fixed in memory, kinds, references, and TYPES: bounds that a cell's numbers keep. -/
abbrev gm_JJ : Type := gm_K → gm_M → Prop
/-- what is said of memory looks at stretches that nothing writes, and at the kinds of their cells; and, with counted cells g (a row, the place of what goes on, the place where it began), at (0, 4), how far it is, (0, 3), where it began less what was laid down, and (0, 5), both together -/
def gm_hP (fp : Nat → List (Int × Int)) (J : gm_JJ) (gh : Option (Nat × Int × Int)) : Prop :=
  (∀ (K K' : gm_K) (M M' : gm_M), (∀ k r, r ∈ fp k → K' k = K k) → (∀ k r, r ∈ fp k → ∀ j, r.1 ≤ j → j ≤ r.2 → M' k j = M k j) → J K M → J K' M') ∧ ∀ g, gh = some g → (∀ (K : gm_K) (M : gm_M), J K M → M 0 4 = M g.1 g.2.1 - M g.1 g.2.2 ∧ M 0 5 = M 0 3 + M 0 4 ∧ M 0 3 ≤ M g.1 g.2.2) ∧ (1 ≤ g.1 ∧ ¬ g.2.1 = g.2.2) ∧ ∀ (K : gm_K) (M M' : gm_M), J K M → (∀ c j, ¬ (c = g.1 ∧ (j = g.2.1 ∨ j = g.2.2)) → ¬ (c = 0 ∧ (j = 3 ∨ j = 4 ∨ j = 5)) → M' c j = M c j) → M' 0 4 = M' g.1 g.2.1 - M' g.1 g.2.2 → M' 0 5 = M' 0 3 + M' 0 4 → M' 0 3 - M' g.1 g.2.2 = M 0 3 - M g.1 g.2.2 → J K M'
/-- types; stretches that nothing writes; what is said of them; names of cells' numbers at a method's begin; cells that are counted with others -/
def gm_O3 : Type := { q : (Nat → List (Int × Int × Int × Int)) × (Nat → List (Int × Int)) × gm_JJ × List (Nat × Nat × Int) × Option (Nat × Int × Int) // gm_hP q.2.1 q.2.2.1 q.2.2.2.2 }
def gm_O3.ty (o : gm_O3) : Nat → List (Int × Int × Int × Int) := o.1.1
def gm_O3.fp (o : gm_O3) : Nat → List (Int × Int) := o.1.2.1
def gm_O3.J (o : gm_O3) : gm_JJ := o.1.2.2.1
def gm_O3.nm (o : gm_O3) : List (Nat × Nat × Int) := o.1.2.2.2.1
def gm_O3.gh (o : gm_O3) : Option (Nat × Int × Int) := o.1.2.2.2.2
theorem gm_O3.hJ (o : gm_O3) : ∀ (K K' : gm_K) (M M' : gm_M), (∀ k r, r ∈ o.fp k → K' k = K k) → (∀ k r, r ∈ o.fp k → ∀ j, r.1 ≤ j → j ≤ r.2 → M' k j = M k j) → o.J K M → o.J K' M' := o.2.1
theorem gm_O3.hG (o : gm_O3) : ∀ g, o.gh = some g → (∀ (K : gm_K) (M : gm_M), o.J K M → M 0 4 = M g.1 g.2.1 - M g.1 g.2.2 ∧ M 0 5 = M 0 3 + M 0 4 ∧ M 0 3 ≤ M g.1 g.2.2) ∧ (1 ≤ g.1 ∧ ¬ g.2.1 = g.2.2) ∧ ∀ (K : gm_K) (M M' : gm_M), o.J K M → (∀ c j, ¬ (c = g.1 ∧ (j = g.2.1 ∨ j = g.2.2)) → ¬ (c = 0 ∧ (j = 3 ∨ j = 4 ∨ j = 5)) → M' c j = M c j) → M' 0 4 = M' g.1 g.2.1 - M' g.1 g.2.2 → M' 0 5 = M' 0 3 + M' 0 4 → M' 0 3 - M' g.1 g.2.2 = M 0 3 - M g.1 g.2.2 → o.J K M' := o.2.2
abbrev gm_Or : Type := (Nat → Option (Nat × Nat)) × (Nat → Int → Option Nat) × gm_O3
/-- kind and length, references, types: from .. to .., least, most -/
def gm_Fx (O : gm_Or) (n : Nat) (K : gm_K) (R : gm_R) (M : gm_M) : Prop :=
  (∀ k q, O.1 k = some q → 1 ≤ k ∧ k ≤ n ∧ K k = q) ∧ (∀ k j r, O.2.1 k j = some r → k ≤ n ∧ R k j = r) ∧ (∀ k r, r ∈ O.2.2.ty k → k ≤ n ∧ ∀ j, r.1 ≤ j → j ≤ r.2.1 → (-2147483648 ≤ M k j ∧ M k j < 2147483648) ∧ r.2.2.1 ≤ M k j ∧ M k j ≤ r.2.2.2) ∧ (∀ k r, r ∈ O.2.2.fp k → k ≤ n) ∧ O.2.2.J K M
/-- a write of a number between a and b, at a place between lo and hi, keeps the types of the cell k -/
noncomputable def gm_fpw (O : gm_Or) (k : Nat) (lo hi : Int) : Bool := fl_all (O.2.2.fp k) fun r => fl_if (fl_lt hi r.1) true (fl_lt r.2 lo)
theorem gm_fpw_def {O : gm_Or} {k : Nat} {lo hi : Int} : gm_fpw O k lo hi = (O.2.2.fp k).all fun r => decide (hi < r.1) || decide (r.2 < lo) := by
  simp only [gm_fpw, fl_and, fl_or, fl_beq, fl_blt, fl_le_eq, fl_lt_eq, fl_ie_eq, fl_any_eq, fl_all_eq, fl_find_eq, fl_lk_eq, fl_nth_eq]
noncomputable def gm_tyw (O : gm_Or) (k : Nat) (lo hi a b : Int) : Bool := fl_if (gm_fpw O k lo hi) (fl_all (O.2.2.ty k) fun r => fl_if (fl_lt hi r.1) true (fl_if (fl_lt r.2.1 lo) true (fl_if (fl_le r.2.2.1 a) (fl_if (fl_le b r.2.2.2) (fl_if (fl_le (-2147483648) a) (fl_lt b 2147483648) false) false) false))) false
theorem gm_tyw_def {O : gm_Or} {k : Nat} {lo hi a b : Int} : gm_tyw O k lo hi a b = (gm_fpw O k lo hi && (O.2.2.ty k).all fun r => decide (hi < r.1) || (decide (r.2.1 < lo) || (decide (r.2.2.1 ≤ a) && (decide (b ≤ r.2.2.2) && (decide (-2147483648 ≤ a) && decide (b < 2147483648)))))) := by
  simp only [gm_tyw, fl_and, fl_or, fl_beq, fl_blt, fl_le_eq, fl_lt_eq, fl_ie_eq, fl_any_eq, fl_all_eq, fl_find_eq, fl_lk_eq, fl_nth_eq]
theorem gm_J_M {O : gm_Or} {K : gm_K} {M : gm_M} {k : Nat} {j v lo hi : Int} (hJ : O.2.2.J K M) (h : gm_fpw O k lo hi = true) (h1 : lo ≤ j) (h2 : j ≤ hi) : O.2.2.J K (gm_uM M k j v) := by
  refine O.2.2.hJ K K M _ (fun _ _ _ => rfl) (fun c r hr i h3 h4 => ?_) hJ
  unfold gm_uM
  rw [if_neg]
  rintro ⟨rfl, rfl⟩
  have h7 := List.all_eq_true.mp (gm_fpw_def.symm.trans h) r hr
  simp only [Bool.or_eq_true, decide_eq_true_eq] at h7
  omega
theorem gm_Fx_M {O : gm_Or} {n : Nat} {K : gm_K} {R : gm_R} {M : gm_M} {k : Nat} {j v lo hi a b : Int} (hF : gm_Fx O n K R M) (h : gm_tyw O k lo hi a b = true) (h1 : lo ≤ j) (h2 : j ≤ hi) (h3 : a ≤ v) (h4 : v ≤ b) : gm_Fx O n K R (gm_uM M k j v) := by
  rw [gm_tyw_def] at h
  rw [Bool.and_eq_true] at h
  refine ⟨hF.1, hF.2.1, fun c r hr => ?_, hF.2.2.2.1, gm_J_M hF.2.2.2.2 h.1 h1 h2⟩
  obtain ⟨g1, g2⟩ := hF.2.2.1 c r hr
  refine ⟨g1, fun i h5 h6 => ?_⟩
  unfold gm_uM
  split
  · rename_i e
    obtain ⟨rfl, rfl⟩ := e
    have h7 := List.all_eq_true.mp h.2 r hr
    simp only [Bool.or_eq_true, Bool.and_eq_true, decide_eq_true_eq] at h7
    rcases h7 with h7 | h7 | ⟨h7, h8, h9, h10⟩
    · omega
    · omega
    · exact ⟨⟨by omega, by omega⟩, by omega, by omega⟩
  · exact g2 i h5 h6
theorem gm_Fx_E {O : gm_Or} {n : Nat} {K : gm_K} {R : gm_R} {M : gm_M} {k : Nat} {j v : Int} (hF : gm_Fx O n K R M) (h : ((O.2.2.ty k).isEmpty && (O.2.2.fp k).isEmpty) = true) : gm_Fx O n K R (gm_uM M k j v) := by
  rw [Bool.and_eq_true] at h
  refine ⟨hF.1, hF.2.1, fun c r hr => ?_, hF.2.2.2.1, gm_J_M (lo := j) (hi := j) hF.2.2.2.2 ?_ (Int.le_refl _) (Int.le_refl _)⟩
  · obtain ⟨g1, g2⟩ := hF.2.2.1 c r hr
    refine ⟨g1, fun i h5 h6 => ?_⟩
    unfold gm_uM
    split
    · rename_i e
      obtain ⟨rfl, rfl⟩ := e
      rw [List.isEmpty_iff.mp h.1] at hr
      cases hr
    · exact g2 i h5 h6
  · rw [gm_fpw_def]
    rw [List.isEmpty_iff.mp h.2]
    rfl
/-- the types alone -/
noncomputable def gm_tyv (O : gm_Or) (k : Nat) (lo hi a b : Int) : Bool := fl_all (O.2.2.ty k) fun r => fl_if (fl_lt hi r.1) true (fl_if (fl_lt r.2.1 lo) true (fl_if (fl_le r.2.2.1 a) (fl_if (fl_le b r.2.2.2) (fl_if (fl_le (-2147483648) a) (fl_lt b 2147483648) false) false) false))
theorem gm_tyv_def {O : gm_Or} {k : Nat} {lo hi a b : Int} : gm_tyv O k lo hi a b = (O.2.2.ty k).all fun r => decide (hi < r.1) || (decide (r.2.1 < lo) || (decide (r.2.2.1 ≤ a) && (decide (b ≤ r.2.2.2) && (decide (-2147483648 ≤ a) && decide (b < 2147483648))))) := by
  simp only [gm_tyv, fl_and, fl_or, fl_beq, fl_blt, fl_le_eq, fl_lt_eq, fl_ie_eq, fl_any_eq, fl_all_eq, fl_find_eq, fl_lk_eq, fl_nth_eq]
theorem gm_Fx_G {O : gm_Or} {n : Nat} {K : gm_K} {R : gm_R} {M M' : gm_M} {k : Nat} {j v a b : Int} (hF : gm_Fx O n K R M) (h : gm_tyv O k j j a b = true) (h0 : (O.2.2.ty 0).isEmpty = true) (h3 : a ≤ v) (h4 : v ≤ b) (hM : ∀ c i, 1 ≤ c → M' c i = gm_uM M k j v c i) (hJ : O.2.2.J K M') : gm_Fx O n K R M' := by
  refine ⟨hF.1, hF.2.1, fun c r hr => ?_, hF.2.2.2.1, hJ⟩
  obtain ⟨g1, g2⟩ := hF.2.2.1 c r hr
  refine ⟨g1, fun i h5 h6 => ?_⟩
  have hc : 1 ≤ c := by
    cases c with
    | zero => rw [List.isEmpty_iff.mp h0] at hr; cases hr
    | succ c => omega
  rw [hM c i hc]
  unfold gm_uM
  split
  · rename_i e
    obtain ⟨rfl, rfl⟩ := e
    have h7 := List.all_eq_true.mp (gm_tyv_def.symm.trans h) r hr
    simp only [Bool.or_eq_true, Bool.and_eq_true, decide_eq_true_eq] at h7
    rcases h7 with h7 | h7 | ⟨h7, h8, h9, h10⟩
    · omega
    · omega
    · exact ⟨⟨by omega, by omega⟩, by omega, by omega⟩
  · exact g2 i h5 h6
theorem gm_Fx_R {O : gm_Or} {n : Nat} {K : gm_K} {R : gm_R} {M : gm_M} {k : Nat} {j : Int} {v : Nat} (hF : gm_Fx O n K R M) (h : O.2.1 k j = none) : gm_Fx O n K (gm_uR R k j v) M := by
  refine ⟨hF.1, fun a b x hx => ?_, hF.2.2.1, hF.2.2.2⟩
  obtain ⟨h1, h3⟩ := hF.2.1 a b x hx
  refine ⟨h1, ?_⟩
  unfold gm_uR
  split
  · rename_i e
    obtain ⟨rfl, rfl⟩ := e
    rw [h] at hx; cases hx
  · exact h3
theorem gm_Fx_n {O : gm_Or} {n kd len : Nat} {K : gm_K} {R : gm_R} {M : gm_M} (hF : gm_Fx O n K R M) : gm_Fx O (n + 1) (gm_nK K n kd len) (gm_nR R n) (gm_nM M n) := by
  refine ⟨fun k q h => ?_, fun k j r h => ?_, fun k r h => ?_, fun k r h => ?_, O.2.2.hJ K _ M _ (fun k r h => ?_) (fun k r h j _ _ => ?_) hF.2.2.2.2⟩
  · obtain ⟨h1, h2, h3⟩ := hF.1 k q h
    exact ⟨h1, by omega, by unfold gm_nK; rw [if_neg (by omega)]; exact h3⟩
  · obtain ⟨h1, h2⟩ := hF.2.1 k j r h
    exact ⟨by omega, by unfold gm_nR; rw [if_neg (by omega)]; exact h2⟩
  · obtain ⟨h1, h2⟩ := hF.2.2.1 k r h
    refine ⟨by omega, fun j h3 h4 => ?_⟩
    unfold gm_nM
    rw [if_neg (by omega)]
    exact h2 j h3 h4
  · have := hF.2.2.2.1 k r h; omega
  · have := hF.2.2.2.1 k r h
    unfold gm_nK
    rw [if_neg (by omega)]
  · have := hF.2.2.2.1 k r h
    unfold gm_nM
    rw [if_neg (by omega)]
/-- what the types say of a stretch -/
noncomputable def gm_tyq (l : List (Int × Int × Int × Int)) : Nat → Int → Int → Option (Int × Int)
  | 0, _, _ => none
  | f + 1, lo, hi => match fl_find l fun r => fl_if (fl_le r.1 lo) (fl_le lo r.2.1) false with
    | none => none
    | some r => if hi ≤ r.2.1 then some (r.2.2.1, r.2.2.2) else (match gm_tyq l f (r.2.1 + 1) hi with
      | some q => some (if r.2.2.1 ≤ q.1 then r.2.2.1 else q.1, if r.2.2.2 ≤ q.2 then q.2 else r.2.2.2)
      | none => none)
noncomputable def gm_tyr (O : gm_Or) (k : Nat) (lo hi : Int) : Option (Int × Int) := gm_tyq (O.2.2.ty k) 400 lo hi
theorem gm_tyq_s {O : gm_Or} {n : Nat} {K : gm_K} {R : gm_R} {M : gm_M} {k : Nat} (hF : gm_Fx O n K R M) : ∀ (f : Nat) (lo hi : Int) (q : Int × Int), gm_tyq (O.2.2.ty k) f lo hi = some q → k ≤ n ∧ ∀ j, lo ≤ j → j ≤ hi → (-2147483648 ≤ M k j ∧ M k j < 2147483648) ∧ q.1 ≤ M k j ∧ M k j ≤ q.2 := by
  intro f
  induction f with
  | zero => intro lo hi q h; cases h
  | succ f ih =>
    intro lo hi q h
    unfold gm_tyq at h
    simp only [fl_and, fl_or, fl_beq, fl_blt, fl_le_eq, fl_lt_eq, fl_ie_eq, fl_any_eq, fl_all_eq, fl_find_eq, fl_lk_eq, fl_nth_eq] at h
    cases hr : (O.2.2.ty k).find? fun r => decide (r.1 ≤ lo) && decide (lo ≤ r.2.1) with
    | none => rw [hr] at h; cases h
    | some r =>
      rw [hr] at h
      dsimp only at h
      have h1 := List.find?_some hr
      simp only [Bool.and_eq_true, decide_eq_true_eq] at h1
      obtain ⟨h2, h3⟩ := hF.2.2.1 k r (List.mem_of_find?_eq_some hr)
      split at h
      · cases h
        exact ⟨h2, fun j h4 h5 => h3 j (by omega) (by omega)⟩
      · cases hq : gm_tyq (O.2.2.ty k) f (r.2.1 + 1) hi with
        | none => rw [hq] at h; cases h
        | some p =>
          rw [hq] at h
          dsimp only at h
          cases h
          obtain ⟨-, h6⟩ := ih _ _ _ hq
          refine ⟨h2, fun j h4 h5 => ?_⟩
          by_cases e : j ≤ r.2.1
          · obtain ⟨g1, g2, g3⟩ := h3 j (by omega) e
            refine ⟨g1, ?_, ?_⟩
            · dsimp only; split <;> omega
            · dsimp only; split <;> omega
          · obtain ⟨g1, g2, g3⟩ := h6 j (by omega) h5
            refine ⟨g1, ?_, ?_⟩
            · dsimp only; split <;> omega
            · dsimp only; split <;> omega
theorem gm_tyr_s {O : gm_Or} {n : Nat} {K : gm_K} {R : gm_R} {M : gm_M} {k : Nat} {lo hi : Int} {q : Int × Int} (hF : gm_Fx O n K R M) (h : gm_tyr O k lo hi = some q) : k ≤ n ∧ ∀ j, lo ≤ j → j ≤ hi → (-2147483648 ≤ M k j ∧ M k j < 2147483648) ∧ q.1 ≤ M k j ∧ M k j ≤ q.2 := gm_tyq_s hF _ _ _ _ h
def gm_ir (x : Int) : Prop := -2147483648 ≤ x ∧ x < 2147483648
/-- a comparison of numbers that are ints -/
def gm_cm : ClassFile.Cond → Int → Int → Prop
  | .eq, x, y => x = y
  | .ne, x, y => ¬ x = y
  | .lt, x, y => x < y
  | .ge, x, y => y ≤ x
  | .gt, x, y => y < x
  | .le, x, y => x ≤ y
theorem gm_ir_w {x : Int} (h : gm_ir x) : gm_w x = x := gm_w_id h.1 h.2
theorem gm_cm_w {c : ClassFile.Cond} {x y : Int} (hx : gm_ir x) (hy : gm_ir y) : gm_cmp c x y = gm_cm c x y := by
  cases c <;> simp only [gm_cmp, gm_cm, gm_ir_w hx, gm_ir_w hy]
def gm_and (x y : Int) : Int := (Int32.ofInt x &&& Int32.ofInt y).toInt
def gm_or (x y : Int) : Int := (Int32.ofInt x ||| Int32.ofInt y).toInt
def gm_xor (x y : Int) : Int := (Int32.ofInt x ^^^ Int32.ofInt y).toInt
def gm_shl (x y : Int) : Int := (Int32.ofInt x <<< (Int32.ofInt y &&& 31)).toInt
def gm_shr (x y : Int) : Int := (Int32.ofInt x >>> (Int32.ofInt y &&& 31)).toInt
def gm_ushr (x y : Int) : Int := ((Int32.ofInt x).toUInt32 >>> ((Int32.ofInt y).toUInt32 &&& Int32.toUInt32 31)).toInt32.toInt
def gm_land (x y : Int) : Int := (Int64.ofInt x &&& Int64.ofInt y).toInt
def gm_lor (x y : Int) : Int := (Int64.ofInt x ||| Int64.ofInt y).toInt
def gm_lxor (x y : Int) : Int := (Int64.ofInt x ^^^ Int64.ofInt y).toInt
/-- is here a throw: the class, and nothing else -/
noncomputable def gm_isx (mi pc ix : Nat) : Option Nat := match gm_xlk (gm_ow mi) ix, gm_at mi (pc + 3), gm_at mi (pc + 4) with
  | some q, some .dup, some (.ldc is) => if (gm_sld (gm_ow mi) is).isSome = true ∧ gm_at mi (pc + 6) = some (.invokespecial q.2) ∧ gm_at mi (pc + 9) = some .athrow then some q.1 else none
  | some q, some .dup, some (.ldc_w is) => if (gm_sld (gm_ow mi) is).isSome = true ∧ gm_at mi (pc + 7) = some (.invokespecial q.2) ∧ gm_at mi (pc + 10) = some .athrow then some q.1 else none
  | _, _, _ => none
section GS2
variable {X : Int → Int} {LX d bc bs mi pc : Nat} {L : gm_L} {st : List gm_V} {n : Nat} {K : gm_K} {R : gm_R} {M : gm_M} {Q Q' : gm_Q}
theorem gm_Wp_mono (hQ : ∀ o n K R M, Q o n K R M → Q' o n K R M) (h : gm_Wp X LX d bc bs mi pc L st n K R M Q) : gm_Wp X LX d bc bs mi pc L st n K R M Q' := by
  intro p l e Rm s m args below meth c D ti adK adV A α0 n0 mc ms hcx hev hd hd2 hmc hms hA α H locs cells slots ls sv hxt hc1 hc2 hR hL hS T hT Xs
  obtain ⟨t, a1, o, b1, b2, b3⟩ := h p l e Rm s m args below meth c D ti adK adV A α0 n0 mc ms hcx hev hd hd2 hmc hms hA α H locs cells slots ls sv hxt hc1 hc2 hR hL hS T hT Xs
  refine ⟨t, a1, o, b1, b2, ?_⟩
  rcases b3 with ⟨⟨⟨v, u, α', n', K', R', M', e1, e2, e3, e4⟩, e5⟩, e6⟩ | ⟨q, rfl, E1, ce, L1, ⟨⟨x, α', n', K', R', M', e1, e2, e3, e4⟩, e5⟩, e6⟩
  · exact Or.inl ⟨⟨⟨v, u, α', n', K', R', M', e1, e2, hQ _ _ _ _ _ e3, e4⟩, e5⟩, e6⟩
  · exact Or.inr ⟨q, rfl, E1, ce, L1, ⟨⟨x, α', n', K', R', M', e1, e2, hQ _ _ _ _ _ e3, e4⟩, e5⟩, e6⟩
theorem gm_Wp_wk {d' bc' bs' : Nat} (hd : d' ≤ d) (h1 : bc' ≤ bc) (h2 : bs' ≤ bs) (h : gm_Wp X LX d' bc' bs' mi pc L st n K R M Q) : gm_Wp X LX d bc bs mi pc L st n K R M Q := by
  intro p l e Rm s m args below meth c D ti adK adV A α0 n0 mc ms hcx hev hd1 hd2 hmc hms hA α H locs cells slots ls sv hxt hc1 hc2 hR hL hS
  exact h p l e Rm s m args below meth c D ti adK adV A α0 n0 mc ms hcx hev (Nat.le_trans hd hd1) (Nat.le_trans (Nat.mul_le_mul_right 300 hd) hd2) hmc hms hA α H locs cells slots ls sv hxt (Nat.le_trans (Nat.add_le_add_left h1 _) hc1) (Nat.le_trans (Nat.add_le_add_left h2 _) hc2) hR hL hS
/-- cell 0 is no cell -/
theorem gm_wl_g {ti : Nat → ClassId} {α : Nat → Nat} {n : Nat} {K : gm_K} {R : gm_R} {M M' : gm_M} (h : ∀ c i, 1 ≤ c → M' c i = M c i) : gm_wl ti α n K R M' = gm_wl ti α n K R M := by
  refine gm_wl_ext (fun k h1 h2 => ⟨rfl, ?_⟩)
  have e : M' k = M k := funext fun i => h k i h1
  have e2 : gm_fs α R M' k = gm_fs α R M k := by
    funext c
    unfold gm_fs
    rw [e]
  unfold gm_en
  rw [e, e2]
theorem gm_Wp_g {M' : gm_M} (hM : ∀ c i, 1 ≤ c → M' c i = M c i) (h : gm_Wp X LX d bc bs mi pc L st n K R M' Q) : gm_Wp X LX d bc bs mi pc L st n K R M Q := by
  intro p l e Rm s m args below meth c D ti adK adV A α0 n0 mc ms hcx hev hd hd2 hmc hms hA α H locs cells slots ls sv hxt hc1 hc2 hR hL hS
  refine h p l e Rm s m args below meth c D ti adK adV A α0 n0 mc ms hcx hev hd hd2 hmc hms hA α H locs cells slots ls sv hxt hc1 hc2 ?_ hL hS
  unfold gm_Rl at hR ⊢
  rw [gm_wl_g hM]
  exact hR
theorem gm_cio_spec {i : Nat} (hi : i < 370) (h : gm_cio i < 12) : gm_cn (gm_cio i) = (gm_mn i).cls := by
  have := List.all_eq_true.mp gm_cio_ok i (List.mem_range.mpr (by omega))
  simp only [Bool.or_eq_true, Bool.and_eq_true, decide_eq_true_eq] at this
  rcases this with h1 | h1
  · omega
  · exact h1.2
theorem gm_isx_of {ix x : Nat} (h : gm_isx mi pc ix = some x) : ∃ (ic is id : Nat) (lw : Bool), gm_xlk (gm_ow mi) ix = some (x, ic) ∧ gm_at mi (pc + 3) = some .dup ∧ gm_at mi (pc + 4) = some (if lw = true then .ldc_w is else .ldc is) ∧ gm_at mi (pc + (if lw = true then 7 else 6)) = some (.invokespecial ic) ∧ gm_at mi (pc + (if lw = true then 10 else 9)) = some .athrow ∧ gm_sld (gm_ow mi) is = some id := by
  unfold gm_isx at h
  split at h
  · rename_i q is e1 e2 e3
    obtain ⟨q1, q2⟩ := q
    split at h
    · rename_i e4
      cases h
      obtain ⟨id, hid⟩ := Option.isSome_iff_exists.mp e4.1
      exact ⟨q2, is, id, false, e1, e2, e3, e4.2.1, e4.2.2, hid⟩
    · cases h
  · rename_i q is e1 e2 e3
    obtain ⟨q1, q2⟩ := q
    split at h
    · rename_i e4
      cases h
      obtain ⟨id, hid⟩ := Option.isSome_iff_exists.mp e4.1
      exact ⟨q2, is, id, true, e1, e2, e3, e4.2.1, e4.2.2, hid⟩
    · cases h
  · cases h
theorem gm_cn1 : gm_cn 1 = "GlacierMail$State" := by decide +kernel
end GS2
end
