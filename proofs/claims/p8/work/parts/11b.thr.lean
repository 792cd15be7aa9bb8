/-! 11b.thr -/
section
/-! Object's constructor; max and min; a throw. -/
section GT
variable {X : Int → Int} {LX d bc bs mi pc : Nat} {L : gm_L} {st : List gm_V} {n : Nat} {K : gm_K} {R : gm_R} {M : gm_M} {Q : gm_Q}
theorem gm_p_oinit {ix k : Nat} (h : gm_at mi pc = some (.invokespecial ix)) (ho : gm_oi (gm_ow mi) ix = true) (hk : 1 ≤ k ∧ k ≤ n) (hst : (st.map gm_cat).sum ≤ 8) (hd' : 1 ≤ d) : gm_Sp X LX d mi pc L (gm_vr k :: st) n K R M (pc + 3) L st n K R M 0 0 := by
  intro p l e Rm s m args below meth c D ti adK adV A hcx hev hd hd2 hA α H locs cells slots ls sv Q' hc1 hc2 hR hL hS k2
  obtain ⟨w1, sv, rfl, ⟨rfl, -⟩, hS⟩ := hS
  have hdg := gm_dec hcx h rfl
  obtain ⟨hx, hb, hml, hown, -, -, hts, -⟩ := _root_.id hcx
  obtain ⟨q, hq⟩ := Option.isSome_iff_exists.mp ho
  have h1 := List.all_eq_true.mp gm_oil_ok _ (gm_lookup2 _ _ _ hq)
  simp only [decide_eq_true_eq] at h1
  rw [gm_rf_pos hk.1 (Nat.lt_of_le_of_lt hk.2 hR.2.2.2.2.1)]
  refine W.objInit hx hb hown (hts _ (gm_T_in h1 rfl)) (hts _ gm_oi1) (hts _ gm_oi2) rfl (by rw [hml]; exact hL.2.choose_spec.1.1) rfl hdg (by omega) ?_ (k2 α H locs ls sv gm_xt.rf hR hL hS)
  have : (sv.map fun v => v.category).sum ≤ 8 := by rw [gm_sum_eq hS]; exact hst
  show 2 * 0 + _ + 12 ≤ _
  omega
theorem gm_p_max {ix : Nat} {x y : Int} (h : gm_at mi pc = some (.invokestatic ix)) (hc : gm_cal (gm_ow mi) ix = some (2, gm_jmax)) (hx0 : gm_w x = x) (hy0 : gm_w y = y) (hst : (st.map gm_cat).sum ≤ 8) (hd' : 1 ≤ d) : gm_Sp X LX d mi pc L (gm_vi y :: gm_vi x :: st) n K R M (pc + 3) L (gm_vi (max x y) :: st) n K R M 0 0 := by
  intro p l e Rm s m args below meth c D ti adK adV A hcx hev hd hd2 hA α H locs cells slots ls sv Q' hc1 hc2 hR hL hS k2
  obtain ⟨w0, sv, rfl, h0, hS⟩ := hS
  obtain ⟨w1, sv, rfl, h1, hS⟩ := hS
  cases h0; cases h1
  have hdg := gm_dec hcx h rfl
  obtain ⟨hx, hb, hml, hown, -, -, hts, -⟩ := _root_.id hcx
  obtain ⟨hj, i1, i2, -, -, i5, -⟩ := gm_cal_spec hc
  rw [gm_jnmax] at i1 i2 i5
  have hsum : (sv.map fun v => v.category).sum ≤ 8 := by rw [gm_sum_eq hS]; exact hst
  refine va_mmax hx hb (by rw [hml]; exact hL.2.choose_spec.1.1.symm) hown (hts _ (i2 (by omega))) (hts _ (i5 (Or.inl rfl))) (hts _ i1) (hts _ gm_jwmax) (by omega) (by omega) (by omega) (by omega) hdg ?_
  have e : (if Int32.ofInt x < Int32.ofInt y then Int32.ofInt y else Int32.ofInt x) = Int32.ofInt (max x y) := by
    have := gm_lt x y
    rw [hx0, hy0] at this
    simp only [this]
    split
    · rename_i q; rw [Int.max_eq_right (by omega)]
    · rename_i q; rw [Int.max_eq_left (by omega)]
  rw [e]
  exact k2 α H locs ls _ gm_xt.rf hR hL ⟨_, _, rfl, rfl, hS⟩
theorem gm_p_min {ix : Nat} {x y : Int} (h : gm_at mi pc = some (.invokestatic ix)) (hc : gm_cal (gm_ow mi) ix = some (2, gm_jmin)) (hx0 : gm_w x = x) (hy0 : gm_w y = y) (hst : (st.map gm_cat).sum ≤ 8) (hd' : 1 ≤ d) : gm_Sp X LX d mi pc L (gm_vi y :: gm_vi x :: st) n K R M (pc + 3) L (gm_vi (min x y) :: st) n K R M 0 0 := by
  intro p l e Rm s m args below meth c D ti adK adV A hcx hev hd hd2 hA α H locs cells slots ls sv Q' hc1 hc2 hR hL hS k2
  obtain ⟨w0, sv, rfl, h0, hS⟩ := hS
  obtain ⟨w1, sv, rfl, h1, hS⟩ := hS
  cases h0; cases h1
  have hdg := gm_dec hcx h rfl
  obtain ⟨hx, hb, hml, hown, -, -, hts, -⟩ := _root_.id hcx
  obtain ⟨hj, i1, i2, -, -, i5, -⟩ := gm_cal_spec hc
  rw [gm_jnmin] at i1 i2 i5
  have hsum : (sv.map fun v => v.category).sum ≤ 8 := by rw [gm_sum_eq hS]; exact hst
  refine va_mmin hx hb (by rw [hml]; exact hL.2.choose_spec.1.1.symm) hown (hts _ (i2 (by omega))) (hts _ (i5 (Or.inl rfl))) (hts _ i1) (hts _ gm_jwmin) (by omega) (by omega) (by omega) (by omega) hdg ?_
  have e : (if Int32.ofInt y < Int32.ofInt x then Int32.ofInt y else Int32.ofInt x) = Int32.ofInt (min x y) := by
    have := gm_lt y x
    rw [hx0, hy0] at this
    simp only [this]
    split
    · rename_i q; rw [Int.min_eq_right (by omega)]
    · rename_i q; rw [Int.min_eq_left (by omega)]
  rw [e]
  exact k2 α H locs ls _ gm_xt.rf hR hL ⟨_, _, rfl, rfl, hS⟩
theorem gm_xlk_spec {o ik x ic : Nat} (h : gm_xlk o ik = some (x, ic)) : x < 5 ∧ Jvm.Cond.classLink (gm_rn o) ik (gm_xn x) ∈ gm_T ∧ Jvm.Cond.initialized (gm_xn x) ∈ gm_T ∧ (∀ w ∈ gm_xat o ic x, (w ∈ gm_T ∨ w = .castable (gm_xn x) (gm_xn x) ∨ ∃ y ∈ gm_dcs, w = .declares y) ∧ vx_ot w = true) ∧ Bundle.fit (gm_xn x) = true ∧ ∀ y ∈ gm_xnm, Bundle.fit y = true := by
  unfold gm_xlk at h
  cases hr : gm_xl.find? (fun q => decide (q.1 = o ∧ q.2.1 = ik)) with
  | none => rw [hr] at h; cases h
  | some q =>
    rw [hr] at h
    have h1 := List.find?_some hr
    have h3 := List.all_eq_true.mp gm_xl_ok q (List.mem_of_find?_eq_some hr)
    obtain ⟨a1, a2, a3, a4, a5, a6⟩ := q
    simp only [decide_eq_true_eq] at h1
    obtain ⟨rfl, rfl⟩ := h1
    simp only [Option.map_some, Option.some.injEq, Prod.mk.injEq] at h
    obtain ⟨rfl, rfl⟩ := h
    simp only [gm_xck, Bool.and_eq_true, decide_eq_true_eq] at h3
    obtain ⟨⟨⟨⟨b1, b2⟩, b3⟩, b4⟩, b5, b6⟩ := h3
    refine ⟨b1, gm_T_in b2 rfl, gm_T_in b3 rfl, fun w hw => ?_, b5, fun y hy => List.all_eq_true.mp b6 y hy⟩
    have h4 := List.all_eq_true.mp b4 w hw
    simp only [gm_xok, Bool.and_eq_true, Bool.or_eq_true, decide_eq_true_eq] at h4
    refine ⟨?_, h4.2⟩
    rcases h4.1 with (q | q) | q
    · exact Or.inl (List.mem_filter.mpr ⟨gm_mem_in q.1, q.2⟩)
    · exact Or.inr (Or.inl q)
    · obtain ⟨y, hy, hy2⟩ := List.any_eq_true.mp q
      exact Or.inr (Or.inr ⟨y, hy, by simpa using hy2⟩)
end GT
section GTX
variable {p : Program} {l : Launch} {e : Env} {R : Room} {s : State} {m : MethodId} {args : Array Value} {below : List Frame} {meth : Method} {c : Code} {H : Heap} {locs : List Loc} {cells slots : Nat} {Q : State → Prop} {ls : Array Slot} {rest : List Value}
theorem gm_makeX {cc : ByteArray} {pc : Nat} (lw : Bool) (hexec : p.tables.exec = Jvm.exec) (hb : c.code = cc) (hl : l.stackTraces = false) {own cls text : String} {names : List String} {ik is ic sa ix : Nat} {rx : ByteArray} (x0 : decode rx 0 = .ok (.aload_n 0, 1)) (x1 : decode rx 1 = .ok (.aload_n 1, 1)) (x2 : decode rx 2 = .ok (.invokespecial ix, 3)) (x5 : decode rx 5 = .ok (.return_, 1)) {A : Nat → Prop}
    (hown : s.vm.findClass own = some m.cls) (hcls : Bundle.fit cls = true) (hnames : ∀ n ∈ names, Bundle.fit n = true)
    (hk : (Cond.classLink own ik cls).before args s = true) (hini : (Cond.initialized cls).before args s = true) (hstr : vk_R own is text sa s) (hat : ∀ w ∈ gm_atX own ic cls ix rx names, w.before args s = true)
    (hgood : ∀ w ∈ Cond.classLink own ik cls :: Cond.initialized cls :: gm_atX own ic cls ix rx names, vx_ot w = true)
    (hU : vx_Zq Bundle.tN "UNASSIGNED_STACK" Bundle.steD A s s.heap) (hN : vx_Zq Bundle.tN "SUPPRESSED_SENTINEL" Bundle.listD A s s.heap) (hS : va_S A s.heap H locs) (hsize : ls.size = c.maxLocals)
    (d0 : decode cc pc = .ok (.new ik, 3)) (d3 : decode cc (pc + 3) = .ok (.dup, 1)) (d4 : decode cc (pc + 4) = .ok (if lw = true then (.ldc_w is, 3) else (.ldc is, 2))) (d6 : decode cc (pc + (if lw = true then 7 else 6)) = .ok (.invokespecial ic, 3))
    (hRframes : names.length + 3 < R.frames) (hRlocals : (rest.map fun v => v.category).sum + (13 * (names.length + 1) + 43) ≤ R.locals) (hRcells : cells + 1 ≤ R.cells) (hRslots : slots + 6 ≤ R.slots)
    (kk : ∀ (q : Nat) (H1 : Heap) (ce : Cell), H1[q]? = some ce → ce.vm = .none → s.vm.findClass cls = some ce.cls → H.size ≤ H1.size → (∀ a : Nat, a < H.size → H1[a]? = H[a]?) → va_S A s.heap H1 locs → W p l e R s m args below meth c H1 locs (cells + 1) (slots + 6) Q (F0 m (pc + (if lw = true then 7 else 6) + 3) ls (.ref q :: rest))) :
    W p l e R s m args below meth c H locs cells slots Q (F0 m pc ls rest) := by
  intro T hT X
  subst hT
  have htr : e.platform.stackTraces = false := (show e.platform.stackTraces = l.stackTraces by rw [X.admits.platform]).trans hl
  have Y := vx_rebase X (R' := { frames := R.frames, locals := R.locals, cells := 1, slots := 6 }) (Nat.le_refl _) (Nat.le_refl _) hRcells hRslots
  obtain ⟨s', hA'⟩ : ∃ z, z = (T.setVm s.vm).setFrames (.invoking m args :: below) := ⟨_, rfl⟩
  rw [← hA'] at Y
  have hvm : s'.vm = s.vm := by rw [hA']; rfl
  have hhp : s'.heap = T.heap := by rw [hA']; rfl
  have hW0 : s.WarmedH s'.vm := by rw [hvm]; exact State.WarmedH.refl s
  have hat' : ∀ w ∈ gm_atX own ic cls ix rx names, w.before args s' = true := fun w hw => vx_ot_at hW0 hvm.symm (hgood w (List.mem_cons_of_mem _ (List.mem_cons_of_mem _ hw))) (hat w hw)
  have hk' : (Cond.classLink own ik cls).before args s' = true := vx_ot_at hW0 hvm.symm (hgood _ List.mem_cons_self) hk
  have hini' : (Cond.initialized cls).before args s' = true := vx_ot_at hW0 hvm.symm (hgood _ (List.mem_cons_of_mem _ List.mem_cons_self)) hini
  have hU' : vx_Zq Bundle.tN "UNASSIGNED_STACK" Bundle.steD A s' s'.heap := by rw [hhp]; exact vx_Zq.moved hW0.alike (hU.kept hS.2.1)
  have hN' : vx_Zq Bundle.tN "SUPPRESSED_SENTINEL" Bundle.listD A s' s'.heap := by rw [hhp]; exact vx_Zq.moved hW0.alike (hN.kept hS.2.1)
  have h : ∀ w ∈ gm_ownX own ic cls ix rx names, w.before args s' = true := vx_own hat' (vx_isRefq hU'.1) (vx_isRefq hN'.1) hU'.2.word hN'.2.word
  have hown' : s'.vm.findClass own = some m.cls := by rw [hvm]; exact hown
  have hins : (Cond.instantiable cls 6).before args s' = true := h _ (by simp [gm_ownX])
  obtain ⟨vm₁, cX, kX, hfX, hkX, -, -, X₁, st1⟩ := Y.newCold hexec (own := own) (C := cls) (index := ik) (n := 6) hown' hk' hins hini'
    (g := F0 m pc ls rest) rfl (by rw [hb]; exact d0) (Nat.le_refl _) (Nat.le_refl _)
  generalize hT1 : (T.setVm vm₁).pushCell { cls := cX, slots := kX.instanceTypes.map defaultValue, vm := .none } = T1 at X₁ st1
  have hcat : (Value.ref T.heap.size).category = 1 := rfl
  have hcellA : T1.heap[T.heap.size]? = some (freshCell cX kX) := by rw [← hT1]; exact State.heap_pushCell_size _ _
  have d3' : decode c.code (pc + 3) = .ok (.dup, 1) := by rw [hb]; exact d3
  have hstr' : vk_R own is text sa s' := vk_R.warm hW0 hstr
  obtain ⟨V, ce, L, Z, hL, hlt, hcl9, hvm9, st⟩ := gm_ctorMadeX X₁ hexec htr (own := own) (cls := cls) (names := names) (ic := ic) x0 x1 x2 x5 hown' hcls hnames h (fun x hx => nomatch hx) hfX hkX hcellA (by rw [hhp]; exact Nat.le_refl _) (msg := .ref sa) rfl
    (g := { method := m, pc := pc + (if lw = true then 7 else 6), locals := ls, stack := .ref sa :: .ref T.heap.size :: .ref T.heap.size :: rest, locked := none }) rfl hsize (rest := rest) rfl
    (by rw [hb]; exact d6) hRframes (by simp only [List.map_cons, List.sum_cons, hcat]; omega)
  have Z0 := Stand.forget (locs := []) Z (fun y hy => by rw [hL y hy, hhp]; exact Nat.le_refl _)
  obtain ⟨f1, f2⟩ := vx_frame Z0.same
  rw [hhp] at f1 f2
  have hh : (V.setCell T.heap.size ce).heap[T.heap.size]? = some ce := heapAt_setCell_self (s := V) ce hlt
  subst hA'
  have X5 := vx_back9 X Y Z0
  have X6 : Stand p l e R s m args below meth c (V.setCell T.heap.size ce) locs (cells + 1) (slots + 6) := { X5 with same := X5.same.mono (by omega) (by omega) }
  obtain ⟨t, a1, b1⟩ := kk T.heap.size (V.setCell T.heap.size ce).heap ce hh hvm9 (by rw [hcl9]; exact hfX) f1 (fun q hq => f2 q hq (fun z hz => nomatch hz)) ⟨Nat.le_trans hS.1 f1, fun q h1 h2 => (f2 q (Nat.lt_of_lt_of_le h1 hS.1) (fun z hz => nomatch hz)).trans (hS.2.1 q h1 h2), hS.2.2⟩ _ rfl X6
  refine ⟨t, st1 _ ?_, b1⟩
  show Steps p.tables e below (T1.setTop { method := m, pc := pc + 3, locals := ls, stack := .ref T.heap.size :: rest, locked := none }) _
  jvm_step X₁.here [X₁.here.top, hexec, d3', Value.category]
  cases lw with
  | true => exact gm_ldcW X₁ hexec (own := own) (text := text) (index := is) (a := sa) hown' hstr'.1 hstr'.2 (g := { method := m, pc := pc + 4, locals := ls, stack := .ref T.heap.size :: .ref T.heap.size :: rest, locked := none }) rfl (by rw [hb]; exact d4) _ (st _ a1)
  | false => exact X₁.ldcString hexec (own := own) (text := text) (index := is) (a := sa) hown' hstr'.1 hstr'.2 (g := { method := m, pc := pc + 4, locals := ls, stack := .ref T.heap.size :: .ref T.heap.size :: rest, locked := none }) rfl (by rw [hb]; exact d4) _ (st _ a1)
end GTX
section GTY
variable {X : Int → Int} {LX d bc bs mi pc : Nat} {L : gm_L} {st : List gm_V} {n : Nat} {K : gm_K} {R : gm_R} {M : gm_M} {Q : gm_Q}
theorem gm_throw {ik is ic x id : Nat} {lw : Bool} (hh : gm_hh mi = []) (h : gm_at mi pc = some (.new ik)) (hx : gm_xlk (gm_ow mi) ik = some (x, ic)) (h3 : gm_at mi (pc + 3) = some .dup) (h4 : gm_at mi (pc + 4) = some (if lw = true then .ldc_w is else .ldc is)) (h5 : gm_at mi (pc + (if lw = true then 7 else 6)) = some (.invokespecial ic)) (h6 : gm_at mi (pc + (if lw = true then 10 else 9)) = some .athrow) (hs : gm_sld (gm_ow mi) is = some id) (hst : (st.map gm_cat).sum ≤ 8) (hd' : 6 ≤ d) (hb1 : 1 ≤ bc) (hb2 : 6 ≤ bs) (hq : Q (.inr x) n K R M) : gm_Wp X LX d bc bs mi pc L st n K R M Q := by
  intro p l e Rm s m args below meth c D ti adK adV A α0 n0 mc ms hcx hev hd hd2 hmc hms hA α H locs cells slots ls sv hxt hc1 hc2 hR hL hS
  obtain ⟨hx9, hb, hml, hown, -, hlk, hts, -, hl, -, htab⟩ := _root_.id hcx
  obtain ⟨hKn, hP, hD, hSv, hRv⟩ := _root_.id hR
  obtain ⟨x1, x2, x3, x4, x5, x6⟩ := gm_xlk_spec hx
  obtain ⟨hid, tx, hmem⟩ := gm_sld_spec hs
  have hZ := hev.2.1 _ hmem
  have d0 := gm_dec hcx h rfl
  have d3 := gm_dec hcx h3 rfl
  have hsum : (sv.map fun v => v.category).sum ≤ 8 := by rw [gm_sum_eq hS]; exact hst
  have hat : ∀ w ∈ gm_xat (gm_ow mi) ic x, w.before args s = true := by
    intro w hw
    rcases (x4 w hw).1 with q | q | ⟨y, hy, q⟩
    · exact hts _ q
    · have h9 := hev.2.2.2.2.2.2.2.2.2.2.2.1 x x x1 x1
      rw [if_pos rfl] at h9
      rw [q]
      exact va_Nw.use rfl h9
    · rw [q]
      exact va_Nw.use rfl (hev.2.2.2.2.2.2.2.2.2.2.2.2 y hy)
  have hgood : ∀ w ∈ Jvm.Cond.classLink (gm_rn (gm_ow mi)) ik (gm_xn x) :: Jvm.Cond.initialized (gm_xn x) :: gm_xat (gm_ow mi) ic x, vx_ot w = true := by
    intro w hw
    rcases List.mem_cons.mp hw with rfl | hw
    · rfl
    · rcases List.mem_cons.mp hw with rfl | hw
      · rfl
      · exact (x4 w hw).2
  have hout : ∀ pc' : Nat, ∀ z ∈ c.exceptionTable.toList, covers z pc' = false := by
    intro pc' z hz
    rw [htab, hh] at hz
    cases hz
  have hXC : ∀ t : State, s.vm.Alike t.vm → H.size ≤ t.heap.size → (∀ q : Nat, q < H.size → t.heap[q]? = H[q]?) → gm_XC D ti A α0 n0 Q (gm_xn x) s t := by
    intro t hvm hz hk
    refine ⟨⟨x, α, n, K, R, M, rfl, x1, hq, hxt, va_K.moved hvm hKn, hP.kept (fun k y hy => hk y.1 ((hP k y hy).lt)), hD, hRv⟩, Nat.le_trans hSv.1 hz, fun q h1 h2 => ?_⟩
    rw [hk q (Nat.lt_of_lt_of_le h1 hSv.1)]
    exact hSv.2.1 q h1 h2
  have hsz : ls.size = c.maxLocals := by rw [hml]; exact hL.2.choose_spec.1.1
  by_cases hx4 : x = 4
  · have e4 : gm_xat (gm_ow mi) ic x = gm_atX (gm_rn (gm_ow mi)) ic (gm_xn x) gm_xix gm_xrx gm_xnm := by unfold gm_xat; rw [if_pos hx4]
    rw [e4] at hat hgood
    have d4 : decode (gm_bc mi) (pc + 4) = .ok (if lw = true then (.ldc_w is, 3) else (.ldc is, 2)) := by
      cases lw with
      | true => exact gm_dec hcx h4 rfl
      | false => exact gm_dec hcx h4 rfl
    have d6 := gm_dec hcx h5 rfl
    have d9 := gm_dec hcx h6 rfl
    refine gm_makeX lw hx9 hb hl (names := gm_xnm) (ix := gm_xix) (rx := gm_xrx) (by decide +kernel) (by decide +kernel) (by decide +kernel) (by decide +kernel) hown x5 x6 (hts _ x2) (hts _ x3) hZ hat hgood hev.2.2.1 hev.2.2.2.1 hSv hsz d0 d3 d4 d6 (by show 2 + 3 < _; omega) (by show _ + (13 * (2 + 1) + 43) ≤ _; omega) (by omega) (by omega) (fun q H1 ce h1 h2 h3 h7 h8 h9 => ?_)
    refine vx_athrow hx9 hb (pc := pc + (if lw = true then 7 else 6) + 3) (by cases lw <;> exact d9) (vx_out (ce := ce) (E := gm_xn x) (hout _) hlk h1 h2 h3 (fun t ht hvm => hXC t hvm (by rw [ht]; exact h7) (fun q hq => by rw [ht]; exact h8 q hq)) h9.2.2 (by omega) (by omega))
  have e4 : gm_xat (gm_ow mi) ic x = vx_atS (gm_rn (gm_ow mi)) ic (gm_xn x) gm_xnm := by unfold gm_xat; rw [if_neg hx4]
  rw [e4] at hat hgood
  cases lw with
  | true =>
    have d4 := gm_dec hcx h4 rfl
    have d7 := gm_dec hcx h5 rfl
    have d10 := gm_dec hcx h6 rfl
    exact vx_throwSW (names := gm_xnm) hx9 hb hl hown x5 x6 (hts _ x2) (hts _ x3) hZ hat hgood hev.2.2.1 hev.2.2.2.1 hSv hsz d0 d3 d4 d7 d10 (hout _) (by show 2 + 3 < _; omega) (by show _ + (13 * (2 + 1) + 43) ≤ _; omega) (by omega) (by omega) hlk hXC hSv.2.2 (by omega) (by omega)
  | false =>
    have d4 := gm_dec hcx h4 rfl
    have d6 := gm_dec hcx h5 rfl
    have d9 := gm_dec hcx h6 rfl
    exact vx_throwS (names := gm_xnm) hx9 hb hl hown x5 x6 (hts _ x2) (hts _ x3) hZ hat hgood hev.2.2.1 hev.2.2.2.1 hSv hsz d0 d3 d4 d6 d9 (hout _) (by show 2 + 3 < _; omega) (by show _ + (13 * (2 + 1) + 43) ≤ _; omega) (by omega) (by omega) hlk hXC hSv.2.2 (by omega) (by omega)
end GTY
end
/-! 11c.acp -/
section
/-! SYSTEM.ARRAYCOPY: class of the code, place; word. Laid by wip/am/gen_tables.py -/
noncomputable def gm_acl : List ((Nat × Nat) × Nat) := [((2, 40), 756), ((5, 150), 1182)]
noncomputable def gm_ac (o ix : Nat) : Bool := (gm_acl.lookup (o, ix)).isSome
theorem gm_acl_ok : gm_acl.all (fun q => decide (gm_tb (q.2) = some (.methodLink (gm_rn q.1.1) q.1.2 arraycopyName))) = true := by decide +kernel
set_option maxRecDepth 100000 in
theorem gm_ac1 : (.native arraycopyName : Jvm.Cond) ∈ gm_T := gm_T_in (i := 758) (by decide +kernel) rfl
set_option maxRecDepth 100000 in
theorem gm_ac2 : (.static arraycopyName : Jvm.Cond) ∈ gm_T := gm_T_in (i := 757) (by decide +kernel) rfl
set_option maxRecDepth 100000 in
theorem gm_ac3 : (.initialized "java/lang/System" : Jvm.Cond) ∈ gm_T := gm_T_in (i := 168) (by decide +kernel) rfl
end
/-! 11d.cpy -/
section
/-! A ROW COPIED by System.arraycopy. -/
section GA2
variable {X : Int → Int} {LX d bc bs mi pc : Nat} {L : gm_L} {st : List gm_V} {n : Nat} {K : gm_K} {R : gm_R} {M : gm_M} {Q : gm_Q}
/-- m numbers of the row k1 from sp on, copied into the row k2 from dp on -/
noncomputable def gm_cpM (M : gm_M) (k1 k2 : Nat) (sp dp m : Int) : gm_M := fun a b => if a = k2 ∧ dp ≤ b ∧ b < dp + m then M k1 (sp + (b - dp)) else M a b
theorem gm_cpM_ne {k1 k2 k : Nat} {sp dp m : Int} (h : k ≠ k2) (ti : Nat → ClassId) (α : Nat → Nat) : gm_en ti α K R (gm_cpM M k1 k2 sp dp m) k = gm_en ti α K R M k := by
  have e : gm_cpM M k1 k2 sp dp m k = M k := by
    funext b
    unfold gm_cpM
    rw [if_neg (fun q => h q.1)]
  unfold gm_en gm_fs
  rw [e]
theorem gm_p_acopy {ix k1 k2 : Nat} {sp dp m : Int} (h : gm_at mi pc = some (.invokestatic ix)) (ha : gm_ac (gm_ow mi) ix = true) (hk1 : 1 ≤ k1 ∧ k1 ≤ n) (hK1 : (K k1).1 = 0) (hk2 : 1 ≤ k2 ∧ k2 ≤ n) (hK2 : (K k2).1 = 0) (i1 : gm_w sp = sp) (i2 : gm_w dp = dp) (i3 : gm_w m = m) (h1 : 0 ≤ sp) (h2 : 0 ≤ dp) (h3 : 0 ≤ m) (h4 : sp + m ≤ (K k1).2) (h5 : dp + m ≤ (K k2).2) (hst : (st.map gm_cat).sum ≤ 8) (hd' : 1 ≤ d) : gm_Sp X LX d mi pc L (gm_vi m :: gm_vi dp :: gm_vr k2 :: gm_vi sp :: gm_vr k1 :: st) n K R M (pc + 3) L st n K R (gm_cpM M k1 k2 sp dp m) 0 0 := by
  intro p l e Rm s me args below meth c D ti adK adV A hcx hev hd hd2 hA α H locs cells slots ls sv Q' hc1 hc2 hR hL hS kk
  obtain ⟨w3, sv, rfl, g3, hS⟩ := hS
  obtain ⟨w2, sv, rfl, g2, hS⟩ := hS
  obtain ⟨wb, sv, rfl, ⟨rfl, -⟩, hS⟩ := hS
  obtain ⟨w1, sv, rfl, g1, hS⟩ := hS
  obtain ⟨wa, sv, rfl, ⟨rfl, -⟩, hS⟩ := hS
  cases g1; cases g2; cases g3
  have hdg := gm_dec hcx h rfl
  obtain ⟨hx, hb, hml, hown, -, -, hts, -⟩ := _root_.id hcx
  obtain ⟨hKn, hP, hD, hSv, hRv⟩ := _root_.id hR
  obtain ⟨q, hq⟩ := Option.isSome_iff_exists.mp ha
  have h9 := List.all_eq_true.mp gm_acl_ok _ (gm_lookup2 _ _ _ hq)
  simp only [decide_eq_true_eq] at h9
  have he1 := gm_wl_at (ti := ti) (α := α) (K := K) (R := R) (M := M) hk1.1 hk1.2
  have he2 := gm_wl_at (ti := ti) (α := α) (K := K) (R := R) (M := M) hk2.1 hk2.2
  have e1 : gm_en ti α K R M k1 = .inl (ti 0, (K k1).2, .inl fun j => Int32.ofInt (M k1 j)) := by unfold gm_en; rw [hK1]
  have e2 : ∀ M : gm_M, gm_en ti α K R M k2 = .inl (ti 0, (K k2).2, .inl fun j => Int32.ofInt (M k2 j)) := by intro M; unfold gm_en; rw [hK2]
  rw [e1] at he1
  rw [e2] at he2
  rw [gm_rf_pos hk1.1 (Nat.lt_of_le_of_lt hk1.2 hRv.1), gm_rf_pos hk2.1 (Nat.lt_of_le_of_lt hk2.2 hRv.1)]
  have n1 : ((Int32.ofInt sp).toNatClampNeg : Int) = sp := by rw [gm_cl, i1]; omega
  have n2 : ((Int32.ofInt dp).toNatClampNeg : Int) = dp := by rw [gm_cl, i2]; omega
  have n3 : ((Int32.ofInt m).toNatClampNeg : Int) = m := by rw [gm_cl, i3]; omega
  have lt0 : ∀ z : Int, gm_w z = z → 0 ≤ z → ¬ Int32.ofInt z < 0 := by
    intro z hz hz0 hlt
    have h8 : Int32.ofInt z < Int32.ofInt 0 := hlt
    rw [gm_lt, hz] at h8
    have : gm_w 0 = 0 := by decide
    omega
  have hnf : nativeFrameWords "java/lang/System" "arraycopy" 5 ≤ 200 := by decide +kernel
  have hsum : (sv.map fun v => v.category).sum ≤ 8 := by rw [gm_sum_eq hS]; exact hst
  refine va_copyi hx hb (by rw [hml]; exact hL.2.choose_spec.1.1.symm) hown (hts _ (gm_T_in h9 rfl)) (hts _ gm_ac1) (hts _ gm_ac2) (hts _ gm_ac3) hKn hP hD hSv (k1 - 1) (k2 - 1) 0 0 he1 he2 rfl rfl rfl (lt0 _ i1 h1) (lt0 _ i2 h2) (lt0 _ i3 h3) (by omega) (by omega) (fun _ _ => rfl) (by omega) (by omega) hdg fun H1 locs1 p1 p2 p3 => ?_
  have e3 : (va_cpy (fun j : Nat => Int32.ofInt (M k1 j)) (fun j : Nat => Int32.ofInt (M k2 j)) (Int32.ofInt sp).toNatClampNeg (Int32.ofInt dp).toNatClampNeg (Int32.ofInt m).toNatClampNeg) = fun j : Nat => Int32.ofInt (gm_cpM M k1 k2 sp dp m k2 j) := by
    funext j
    unfold va_cpy gm_cpM
    by_cases e : (Int32.ofInt dp).toNatClampNeg ≤ j ∧ j < (Int32.ofInt dp).toNatClampNeg + (Int32.ofInt m).toNatClampNeg
    · rw [if_pos e, if_pos ⟨rfl, by omega, by omega⟩]
      have e5 : (((Int32.ofInt sp).toNatClampNeg + (j - (Int32.ofInt dp).toNatClampNeg) : Nat) : Int) = sp + ((j : Int) - dp) := by omega
      show Int32.ofInt (M k1 (((Int32.ofInt sp).toNatClampNeg + (j - (Int32.ofInt dp).toNatClampNeg) : Nat) : Int)) = _
      rw [e5]
    · rw [if_neg e, if_neg (fun q => e ⟨by omega, by omega⟩)]
  rw [e3, gm_wl_set (M' := gm_cpM M k1 k2 sp dp m) (R' := R) hk2.1 hk2.2 (e2 _) (fun k' hk' => gm_cpM_ne hk' ti α)] at p1 p2
  exact kk α H1 locs1 ls sv gm_xt.rf ⟨hKn, p1, p2, p3, hRv⟩ hL hS
end GA2
end
/-! 11e.upc -/
section
/-! CALLS of a method that is inherited or abstract where it is named: (class of the code, place, class of the object): the method, its name there, its owner; words. Laid by wip/am/gen_tables.py -/
noncomputable def gm_ul : List ((Nat × Nat × Nat) × Nat × MethodName × String × Nat × Nat × Nat × Nat × Nat) := [((0, 117, 7), 72, ⟨"GlacierMail$ValleyReader", "readText", "(I)I"⟩, "GlacierMail$TextReader", 814, 815, 817, 818, 163), ((10, 24, 9), 73, ⟨"GlacierMail$TextReader", "clear", "()V"⟩, "GlacierMail$TextReader", 820, 822, 823, 824, 166), ((10, 24, 7), 74, ⟨"GlacierMail$TextReader", "clear", "()V"⟩, "GlacierMail$TextReader", 820, 822, 827, 828, 164), ((10, 34, 9), 79, ⟨"GlacierMail$TextReader", "readLine", "()Z"⟩, "GlacierMail$TextReader", 845, 847, 848, 849, 166), ((10, 34, 7), 103, ⟨"GlacierMail$TextReader", "readLine", "()Z"⟩, "GlacierMail$TextReader", 845, 847, 968, 969, 164), ((0, 139, 9), 72, ⟨"GlacierMail$LawReader", "readText", "(I)I"⟩, "GlacierMail$TextReader", 1162, 1163, 1164, 818, 163)]
noncomputable def gm_wok (p : Nat) (w : Jvm.Cond) : Bool := decide (gm_tb (p) = some w) && goodWord w
noncomputable def gm_uck : (Nat × Nat × Nat) × Nat × MethodName × String × Nat × Nat × Nat × Nat × Nat → Bool
  | ((o, ix, ci), mj, x, ow, p1, p2, p3, p4, p5) => gm_wok p1 (.methodLink (gm_rn o) ix x) && (gm_wok p2 (.sameMethod x.cls ow x.name x.desc) && (gm_wok p3 (.selects (gm_cn ci) x (gm_mn mj)) && (gm_wok p4 (.instanceMethod (gm_mn mj)) && (gm_wok p5 (.initialized (gm_mn mj).cls) && (decide (⟨ow, x.name, x.desc⟩ ∈ gm_dcs) && (decide (ow ≠ "java/lang/invoke/MethodHandle" ∧ ow ≠ "java/lang/invoke/VarHandle") && (decide (x.desc = (gm_mn mj).desc) && (decide (mj < 370) && (decide (ci < 12) && (decide (gm_hh mj = []) && decide (gm_ow mj ≠ gm_mxi)))))))))))
set_option maxRecDepth 100000 in
theorem gm_ul_ok : gm_ul.all gm_uck = true := by decide +kernel
noncomputable def gm_up (o ix ci : Nat) : Option Nat := (gm_ul.find? fun q => decide (q.1 = (o, ix, ci))).map fun q => q.2.1
end
/-! 11f.upv -/
section
/-! A CALL of a method that is inherited, or abstract where it is named. -/
section GUP
variable {X : Int → Int} {LX d bc bs mi pc : Nat} {L : gm_L} {st : List gm_V} {n : Nat} {K : gm_K} {R : gm_R} {M : gm_M} {Q : gm_Q}
theorem gm_up_spec {o ix ci mj : Nat} (h : gm_up o ix ci = some mj) : ∃ (x : MethodName) (ow : String), Jvm.Cond.methodLink (gm_rn o) ix x ∈ gm_T ∧ Jvm.Cond.sameMethod x.cls ow x.name x.desc ∈ gm_T ∧ Jvm.Cond.selects (gm_cn ci) x (gm_mn mj) ∈ gm_T ∧ Jvm.Cond.instanceMethod (gm_mn mj) ∈ gm_T ∧ Jvm.Cond.initialized (gm_mn mj).cls ∈ gm_T ∧ ⟨ow, x.name, x.desc⟩ ∈ gm_dcs ∧ (ow ≠ "java/lang/invoke/MethodHandle" ∧ ow ≠ "java/lang/invoke/VarHandle") ∧ x.desc = (gm_mn mj).desc ∧ mj < 370 ∧ ci < 12 ∧ gm_hh mj = [] ∧ gm_ow mj ≠ gm_mxi := by
  unfold gm_up at h
  cases hq : gm_ul.find? fun q => decide (q.1 = (o, ix, ci)) with
  | none => rw [hq] at h; cases h
  | some q =>
    rw [hq] at h
    have h1 := List.find?_some hq
    have h2 := List.all_eq_true.mp gm_ul_ok q (List.mem_of_find?_eq_some hq)
    obtain ⟨q1, mj', x, ow, p1, p2, p3, p4, p5⟩ := q
    have h1 : q1 = (o, ix, ci) := of_decide_eq_true h1
    subst h1
    have e : mj' = mj := by simpa using h
    subst e
    simp only [gm_uck, gm_wok, Bool.and_eq_true, decide_eq_true_eq] at h2
    obtain ⟨a1, a2, a3, a4, a5, a6, a7, a8, a9, a10, a11, a12⟩ := h2
    exact ⟨x, ow, gm_T_in a1.1 a1.2, gm_T_in a2.1 a2.2, gm_T_in a3.1 a3.2, gm_T_in a4.1 a4.2, gm_T_in a5.1 a5.2, a6, a7, a8, a9, a10, a11, a12⟩
theorem gm_c_up {ix mj k ci d' bc' bs' : Nat} {as : List gm_V} (h : gm_at mi pc = some (.invokevirtual ix)) (hc : gm_up (gm_ow mi) ix ci = some mj) (hh : gm_hh mi = []) (hk : 1 ≤ k ∧ k ≤ n) (hK : (K k).1 = ci + 4) (hna : as.length = gm_na mj) (hcat : ∀ v ∈ as, ¬ gm_sort v = 1) (hlen : as.length + 1 ≤ gm_ml mj) (hst : (st.map gm_cat).sum ≤ 8) (hd' : d' + 1 ≤ d) (hb1 : bc' ≤ bc) (hb2 : bs' ≤ bs)
    (hW : gm_Wp X LX d' bc' bs' mj 0 (gm_ent mj (gm_vr k :: as)) [] n K R M (gm_cont X LX d (bc - bc') (bs - bs') mi (pc + 3) L st Q)) : gm_Wp X LX d bc bs mi pc L (as.reverse ++ gm_vr k :: st) n K R M Q := by
  intro p l e Rm s m args below meth c D ti adK adV A α0 n0 mc ms hcx hev hd hd2 hmc hms hA α H locs cells slots ls sv hxt hc1 hc2 hR hL hS
  obtain ⟨w1, w2, rfl, hw1, w, sv2, rfl, ⟨rfl, hkn⟩, hS2⟩ := gm_sr_app hS
  have hdg := gm_dec hcx h rfl
  obtain ⟨hx, hb, hml, hown, -, -, hts, -, hl, -⟩ := id hcx
  obtain ⟨hKn, hP, hD, hSv, hRv⟩ := id hR
  obtain ⟨x, ow, u1, u2, u3, u4, u5, u6, u7, u8, hj, hci, hhj, hmx⟩ := gm_up_spec hc
  obtain ⟨j1, -, j3, j4, j5, -⟩ := gm_mck_spec hj
  have hA1 := gm_sub_A hD hSv hA
  have hvs : gm_sr α adK n (gm_vr k :: as) (Value.ref (α k) :: w1.reverse) := ⟨_, _, rfl, ⟨(gm_rf_pos hk.1 (Nat.lt_of_le_of_lt hk.2 hRv.1)).symm, hkn⟩, by have := gm_sr_rev hw1; rwa [List.reverse_reverse] at this⟩
  have hM := gm_met (adV := adV) (ti := ti) (D := D) hj hmx hhj l hl hW hvs (by intro v hv; rcases List.mem_cons.mp hv with rfl | hv; exact (by simp [gm_sort]); exact hcat v hv) (by simpa using hlen) hP (hD.self (sz := H.size)) hRv (fun q h => Or.inr h)
  have he := gm_wl_at (ti := ti) (α := α) (K := K) (R := R) (M := M) hk.1 hk.2
  rw [gm_en_obj hK] at he
  obtain ⟨T, N, hcs, -⟩ := gm_cs_get hci
  have hcode : gm_cwd mj = .code (gm_mn mj) (gm_bc mj) (gm_ml mj) (gm_rt mj) := by unfold gm_cwd; rw [if_pos hhj]
  have hwl : w1.length = as.length := by have := (gm_sr_at hw1).1; simpa using this
  have hG : GoodIn gm_T (va_wsU (gm_rn (gm_ow mi)) ix (gm_cn ci) ow x (gm_mn mj) (gm_cwd mj :: gm_T)) := by
    intro w hw
    simp only [va_wsU, List.cons_append, List.nil_append, List.mem_cons] at hw
    rcases hw with rfl | rfl | rfl | rfl | rfl | rfl | hw
    · exact gm_T_good _ u1
    · exact gm_T_good _ u2
    · exact gm_T_good _ u3
    · exact gm_T_good _ u4
    · exact gm_T_good _ u5
    · exact gm_T_good _ j1
    · exact gm_T_good _ hw
  rw [gm_rf_pos hk.1 (Nat.lt_of_le_of_lt hk.2 hRv.1)]
  refine gm_tail (bc' := bc') (bs' := bs') hh hcx hev hd hd2 hmc hms hA hxt hb1 hb2 hc1 hc2 hSv hL hS2 hA1 (a := (Value.ref (α k) :: w1.reverse).toArray) ?_
  refine vx_runU (As := w1.reverse) (n := gm_na mj) (index := ix) (C := gm_cn ci) (owner := ow) (x := x) ⟨hx, hb, hml, hown, hts⟩ hM (va_cwA (rm := { frames := d', cells := bc', slots := bs', locals := d' * 300 }) (gm_na mj) hts hG (by rw [hcode]) rfl rfl (hev.2.2.2.2.2.2.2.2.2.2.2.2 _ u6) ⟨u7.1, u7.2, by rw [u8]; exact j4⟩ ⟨by show d' + 1 ≤ _; omega, by show 8 + (gm_ml mj + 11) + d' * 300 ≤ _; omega⟩) ⟨gm_blind, ?_, fun U hU hWm => ⟨rfl, hU, gm_Ev_to hev hWm (by rw [hU]; exact hSv.1) (fun a h1 h2 => by rw [hU]; exact hSv.2.1 a h1 h2) hA1, va_K.moved hWm.alike hKn⟩⟩ rfl (by rw [List.length_reverse, hwl, hna]) ?_ (by rw [List.reverse_reverse]) (lv_room (by rw [gm_sum_eq hS2]; exact hst)) hdg ⟨by omega, by omega⟩
  · exact va_recv hKn hP hcs he
  · exact hL.2.choose_spec.1.1
end GUP
end
/-! 11g.ctc -/
section
/-! WHAT IS CAUGHT: class of the code, place; the number of the class caught; word. Laid by wip/am/gen_tables.py -/
noncomputable def gm_ctl : List ((Nat × Nat) × Nat × Nat) := [((15, 13), 0, 808), ((15, 15), 1, 809), ((15, 28), 3, 1214), ((15, 37), 4, 1259), ((15, 57), 2, 1359)]
noncomputable def gm_ctc (o ix : Nat) : Option Nat := (gm_ctl.lookup (o, ix)).map fun q => q.1
theorem gm_ctl_ok : gm_ctl.all (fun q => decide (q.2.1 < 5) && decide (gm_tb (q.2.2) = some (.classLink (gm_rn q.1.1) q.1.2 (gm_xn q.2.1)))) = true := by decide +kernel
end
/-! 11h.hnd -/
section
/-! A CALLEE'S THROW goes on at this method's handler. -/
/-- none: not told; some none: not caught here; some (some h): caught, it goes on at h -/
noncomputable def gm_hit (o pc x : Nat) : Bool → List (Nat × Nat × Nat × Nat) → Option (Option Nat)
  | fl, [] => if fl = true then none else some none
  | fl, q :: r => if q.1 ≤ pc ∧ pc < q.2.1 then (if q.2.2.2 = 0 then none else match gm_ctc o q.2.2.2 with
    | some y => if y = x then some (some q.2.2.1) else gm_hit o pc x true r
    | none => none) else gm_hit o pc x fl r
theorem gm_hit_some {o pc x h : Nat} : ∀ {rows : List (Nat × Nat × Nat × Nat)} {fl : Bool}, gm_hit o pc x fl rows = some (some h) → ∃ pre q suf, rows = pre ++ q :: suf ∧ q.2.2.1 = h ∧ (q.1 ≤ pc ∧ pc < q.2.1) ∧ ¬ q.2.2.2 = 0 ∧ gm_ctc o q.2.2.2 = some x ∧ ∀ z ∈ pre, ¬ (z.1 ≤ pc ∧ pc < z.2.1) ∨ (¬ z.2.2.2 = 0 ∧ ∃ y, gm_ctc o z.2.2.2 = some y ∧ ¬ y = x) := by
  intro rows
  induction rows with
  | nil => intro fl h; unfold gm_hit at h; split at h <;> cases h
  | cons q r ih =>
    intro fl h1
    unfold gm_hit at h1
    split at h1
    · rename_i e1
      split at h1
      · cases h1
      · rename_i e2
        cases hc : gm_ctc o q.2.2.2 with
        | none => rw [hc] at h1; cases h1
        | some y =>
          rw [hc] at h1
          dsimp only at h1
          split at h1
          · rename_i e3
            cases h1
            subst e3
            exact ⟨[], q, r, rfl, rfl, e1, e2, hc, fun z hz => nomatch hz⟩
          · rename_i e3
            obtain ⟨pre, q', suf, a1, a2, a3, a4, a5, a6⟩ := ih h1
            refine ⟨q :: pre, q', suf, by rw [a1]; rfl, a2, a3, a4, a5, fun z hz => ?_⟩
            rcases List.mem_cons.mp hz with rfl | hz
            · exact .inr ⟨e2, y, hc, e3⟩
            · exact a6 z hz
    · rename_i e1
      obtain ⟨pre, q', suf, a1, a2, a3, a4, a5, a6⟩ := ih h1
      refine ⟨q :: pre, q', suf, by rw [a1]; rfl, a2, a3, a4, a5, fun z hz => ?_⟩
      rcases List.mem_cons.mp hz with rfl | hz
      · exact .inl e1
      · exact a6 z hz
theorem gm_hit_none {o pc x : Nat} : ∀ {rows : List (Nat × Nat × Nat × Nat)} {fl : Bool}, gm_hit o pc x fl rows = some none → ∀ z ∈ rows, ¬ (z.1 ≤ pc ∧ pc < z.2.1) ∨ fl = true := by
  intro rows
  induction rows with
  | nil => intro fl _ z hz; cases hz
  | cons q r ih =>
    intro fl h1 z hz
    unfold gm_hit at h1
    split at h1
    · split at h1
      · cases h1
      · cases hc : gm_ctc o q.2.2.2 with
        | none => rw [hc] at h1; cases h1
        | some y =>
          rw [hc] at h1
          dsimp only at h1
          split at h1
          · cases h1
          · exfalso
            clear ih hz
            induction r with
            | nil => unfold gm_hit at h1; cases h1
            | cons q2 r2 ih2 =>
              unfold gm_hit at h1
              split at h1
              · split at h1
                · cases h1
                · cases hc2 : gm_ctc o q2.2.2.2 with
                  | none => rw [hc2] at h1; cases h1
                  | some y2 =>
                    rw [hc2] at h1
                    dsimp only at h1
                    split at h1
                    · cases h1
                    · exact ih2 h1
              · exact ih2 h1
    · rename_i e1
      rcases List.mem_cons.mp hz with rfl | hz
      · exact .inl e1
      · exact ih h1 z hz
section GH
variable {X : Int → Int} {LX d bc bs mi pc : Nat} {L : gm_L} {st : List gm_V} {n : Nat} {K : gm_K} {R : gm_R} {M : gm_M} {Q : gm_Q}
theorem gm_cov0 {q : Nat × Nat × Nat × Nat} {pc : Nat} (h : ¬ (q.1 ≤ pc ∧ pc < q.2.1)) : covers ⟨q.1, q.2.1, q.2.2.1, q.2.2.2⟩ pc = false := by
  simp only [covers]
  simpa using h
theorem gm_cov1 {q : Nat × Nat × Nat × Nat} {pc : Nat} (h : q.1 ≤ pc ∧ pc < q.2.1) : covers ⟨q.1, q.2.1, q.2.2.1, q.2.2.2⟩ pc = true := by
  simp only [covers]
  simpa using h
/-- what a callee owes a caller with handlers -/
noncomputable def gm_contH (X : Int → Int) (LX d bc bs mi pc pc' : Nat) (L : gm_L) (st : List gm_V) (Q : gm_Q) : gm_Q := fun o n K R M => match o with
  | .inl u => gm_Wp X LX d bc bs mi pc' L (u.toList ++ st) n K R M Q
  | .inr x => match gm_hit (gm_ow mi) pc x false (gm_hh mi) with
    | some (some h) => gm_Wp X LX d bc bs mi h L [gm_vo 4000] n K R M Q
    | some none => Q (.inr x) n K R M
    | none => False
theorem gm_tailH {p : Program} {l : Launch} {e : Env} {Rm : Room} {s : State} {m : MethodId} {args : Array Value} {below : List Frame} {meth : Method} {c : Code} {H : Heap} {locs : List Loc} {cells slots bc' bs' mc ms n0 : Nat} {D : va_G} {ti : Nat → ClassId} {adK adV α α0 : Nat → Nat} {A A1 : Nat → Prop} {a : Array Value} {ls : Array Slot} {sv0 sv : List Value}
    (hcx : gm_Cx mi p l s m args meth c) (hev : gm_Ev X LX adK adV A s) (hd : d ≤ Rm.frames) (hd2 : d * 300 ≤ Rm.locals) (hmc : mc ≤ Rm.cells) (hms : ms ≤ Rm.slots) (hA : ∀ q, s.heap.size ≤ q → A q) (hxt : gm_xt α0 n0 α n) (hb1 : bc' ≤ bc) (hb2 : bs' ≤ bs) (hc1 : cells + bc ≤ mc) (hc2 : slots + bs ≤ ms) (hSv : va_S A s.heap H locs) (hL : gm_lr α adK n (gm_ml mi) L ls) (hS : gm_sr α adK n st sv) (hA1 : ∀ q, A1 q → A q)
    (hr : vx_Run p l e Rm s m args below meth c H locs cells slots bc' bs' (F0 m pc ls sv0) sv (gm_QC D ti adK A1 α n (gm_contH X LX d (bc - bc') (bs - bs') mi pc (pc + 3) L st Q) a) (gm_XC D ti A1 α n (gm_contH X LX d (bc - bc') (bs - bs') mi pc (pc + 3) L st Q)) A1) :
    W p l e Rm s m args below meth c H locs cells slots (vx_MQ below (gm_QC D ti adK A α0 n0 Q) (gm_XC D ti A α0 n0 Q) args s mc ms A) (F0 m pc ls sv0) := by
  refine gm_after hr hSv hA1 (fun v u α' n' K' R' M' H1 locs1 ho hq hx9 hk hp hdd hrv hs9 => ?_) (fun x ce q9 α' n' K' R' M' H1 locs1 hx5 hq hx9 hk hp hdd hrv hs9 hce hcv hcl => ?_)
  · refine hq p l e Rm s m args below meth c D ti adK adV A α0 n0 mc ms hcx hev hd hd2 hmc hms hA α' H1 locs1 (cells + bc') (slots + bs') ls (v.toList ++ sv) (hxt.trans hx9) (by omega) (by omega) ⟨hk, hp, hdd, hs9, hrv⟩ (gm_lr_ext hx9 hL) ?_
    cases u with
    | none => cases ho; exact gm_sr_ext hx9 hS
    | some u => obtain ⟨w, rfl, hw⟩ := ho; exact ⟨w, sv, rfl, hw, gm_sr_ext hx9 hS⟩
  · have htab : c.exceptionTable.toList = tableOf (gm_hh mi) := hcx.2.2.2.2.2.2.2.2.2.2
    have hq2 : (match gm_hit (gm_ow mi) pc x false (gm_hh mi) with
      | some (some h) => gm_Wp X LX d (bc - bc') (bs - bs') mi h L [gm_vo 4000] n' K' R' M' Q
      | some none => Q (.inr x) n' K' R' M'
      | none => False) := hq
    cases hhit : gm_hit (gm_ow mi) pc x false (gm_hh mi) with
    | none => rw [hhit] at hq2; exact hq2.elim
    | some o =>
      rw [hhit] at hq2
      cases o with
      | none =>
        dsimp only at hq2
        refine vx_out (ce := ce) (E := gm_xn x) (fun z hz => ?_) hcx.2.2.2.2.2.1 hce hcv hcl (fun t ht hvm => ⟨⟨x, α', n', K', R', M', rfl, hx5, hq2, hxt.trans hx9, va_K.moved hvm hk, by rw [ht]; exact hp, hdd, hrv⟩, hs9.F ht⟩) hs9.2.2 (by omega) (by omega)
        rw [htab] at hz
        obtain ⟨q, hq1, rfl⟩ := List.mem_map.mp hz
        rcases gm_hit_none hhit q hq1 with h9 | h9
        · exact gm_cov0 h9
        · cases h9
      | some h =>
        dsimp only at hq2
        obtain ⟨pre, q, suf, b1, b2, b3, b4, b5, b6⟩ := gm_hit_some hhit
        have hsplit : c.exceptionTable.toList = tableOf pre ++ ⟨q.1, q.2.1, q.2.2.1, q.2.2.2⟩ :: tableOf suf := by
          rw [htab, b1]
          simp [tableOf]
        obtain ⟨-, -, -, hown, -, -, hts, -⟩ := _root_.id hcx
        have hcs : ∀ (x y : Nat), x < 5 → y < 5 → if x = y then va_Nw (.castable (gm_xn x) (gm_xn y)) s else va_Nc (gm_xn x) (gm_xn y) s := hev.2.2.2.2.2.2.2.2.2.2.2.1
        have hlk : ∀ (t y : Nat), gm_ctc (gm_ow mi) t = some y → y < 5 ∧ (Jvm.Cond.classLink (gm_rn (gm_ow mi)) t (gm_xn y)).before args s = true := by
          intro t y hty
          unfold gm_ctc at hty
          cases hz : gm_ctl.lookup (gm_ow mi, t) with
          | none => rw [hz] at hty; cases hty
          | some z =>
            rw [hz] at hty
            have hz2 := List.all_eq_true.mp gm_ctl_ok _ (gm_lookup2 _ _ _ hz)
            simp only [Bool.and_eq_true, decide_eq_true_eq] at hz2
            have e9 : z.1 = y := by simpa using hty
            rw [e9] at hz2
            exact ⟨hz2.1, hts _ (gm_T_in hz2.2 rfl)⟩
        have hxx := hcs x x hx5 hx5
        rw [if_pos rfl] at hxx
        refine vx_catch (ce := ce) (E := gm_xn x) (name := gm_xn x) (own := gm_rn (gm_ow mi)) hown (tableOf pre) ⟨q.1, q.2.1, q.2.2.1, q.2.2.2⟩ (tableOf suf) hsplit (fun z hz => ?_) (gm_cov1 b3) b4 (hlk _ _ b5).2 (va_Nw.use rfl hxx) hce hcv hcl ?_
        · obtain ⟨q3, hq3, rfl⟩ := List.mem_map.mp hz
          rcases b6 q3 hq3 with h9 | ⟨h9, y, h10, h11⟩
          · exact .inl (gm_cov0 h9)
          · obtain ⟨h12, h13⟩ := hlk _ _ h10
            have h14 := hcs x y hx5 h12
            rw [if_neg (fun e => h11 e.symm)] at h14
            exact .inr ⟨h9, gm_xn y, h13, h14⟩
        · show W p l e Rm s m args below meth c H1 locs1 _ _ _ (F0 m q.2.2.1 ls [.ref q9])
          rw [b2]
          exact hq2 p l e Rm s m args below meth c D ti adK adV A α0 n0 mc ms hcx hev hd hd2 hmc hms hA α' H1 locs1 (cells + bc') (slots + bs') ls [.ref q9] (hxt.trans hx9) (by omega) (by omega) ⟨hk, hp, hdd, hs9, hrv⟩ (gm_lr_ext hx9 hL) ⟨_, _, rfl, ⟨q9, rfl, fun h => by omega⟩, rfl⟩
end GH
end
/-! 11i.vch -/
section
/-! A CALL out of a method with handlers. -/
section GVH
variable {X : Int → Int} {LX d bc bs mi pc : Nat} {L : gm_L} {st : List gm_V} {n : Nat} {K : gm_K} {R : gm_R} {M : gm_M} {Q : gm_Q}
theorem gm_c_virtH {ix mj k ci d' bc' bs' : Nat} {as : List gm_V} (h : gm_at mi pc = some (.invokevirtual ix)) (hc : gm_cal (gm_ow mi) ix = some (0, mj)) (hmx : gm_ow mj ≠ gm_mxi) (hk : 1 ≤ k ∧ k ≤ n) (hK : (K k).1 = ci + 4) (hci : ci < 12) (hcn : gm_cn ci = (gm_mn mj).cls) (hna : as.length = gm_na mj) (hcat : ∀ v ∈ as, ¬ gm_sort v = 1) (hlen : as.length + 1 ≤ gm_ml mj) (hst : (st.map gm_cat).sum ≤ 8) (hd' : d' + 1 ≤ d) (hb1 : bc' ≤ bc) (hb2 : bs' ≤ bs)
    (hW : gm_Wp X LX d' bc' bs' mj 0 (gm_ent mj (gm_vr k :: as)) [] n K R M (gm_contH X LX d (bc - bc') (bs - bs') mi pc (pc + 3) L st Q)) : gm_Wp X LX d bc bs mi pc L (as.reverse ++ gm_vr k :: st) n K R M Q := by
  intro p l e Rm s m args below meth c D ti adK adV A α0 n0 mc ms hcx hev hd hd2 hmc hms hA α H locs cells slots ls sv hxt hc1 hc2 hR hL hS
  obtain ⟨w1, w2, rfl, hw1, w, sv2, rfl, ⟨rfl, hkn⟩, hS2⟩ := gm_sr_app hS
  have hdg := gm_dec hcx h rfl
  obtain ⟨hx, hb, hml, hown, -, -, hts, -, hl, -⟩ := id hcx
  obtain ⟨hKn, hP, hD, hSv, hRv⟩ := id hR
  obtain ⟨hj, i1, i2, i3, -, -, i6, -⟩ := gm_cal_spec hc
  obtain ⟨j1, -, j3, j4, j5, -⟩ := gm_mck_spec hj
  have hA1 := gm_sub_A hD hSv hA
  have hvs : gm_sr α adK n (gm_vr k :: as) (Value.ref (α k) :: w1.reverse) := ⟨_, _, rfl, ⟨(gm_rf_pos hk.1 (Nat.lt_of_le_of_lt hk.2 hRv.1)).symm, hkn⟩, by have := gm_sr_rev hw1; rwa [List.reverse_reverse] at this⟩
  have hM := gm_met (adV := adV) (ti := ti) (D := D) hj hmx (i6 (by omega)) l hl hW hvs (by intro v hv; rcases List.mem_cons.mp hv with rfl | hv; exact (by simp [gm_sort]); exact hcat v hv) (by simpa using hlen) hP (hD.self (sz := H.size)) hRv (fun q h => Or.inr h)
  have he := gm_wl_at (ti := ti) (α := α) (K := K) (R := R) (M := M) hk.1 hk.2
  rw [gm_en_obj hK] at he
  obtain ⟨T, N, hcs, -⟩ := gm_cs_get hci
  have hcode : gm_cwd mj = .code (gm_mn mj) (gm_bc mj) (gm_ml mj) (gm_rt mj) := by unfold gm_cwd; rw [if_pos (i6 (by omega))]
  have hwl : w1.length = as.length := by have := (gm_sr_at hw1).1; simpa using this
  have hG : GoodIn gm_T (wsV (gm_rn (gm_ow mi)) ix (gm_mn mj).cls (gm_mn mj) (gm_cwd mj :: gm_T)) := by
    intro w hw
    refine ⟨?_, ?_⟩
    · simp only [wsV, List.cons_append, List.nil_append, List.mem_cons] at hw
      rcases hw with rfl | rfl | rfl | rfl | rfl | hw
      · exact i2 (by omega)
      · exact (i3 rfl).1
      · exact (i3 rfl).2
      · exact i1
      · exact j1
      · exact hw
    · simp only [wsV, List.cons_append, List.nil_append, List.mem_cons] at hw
      rcases hw with rfl | rfl | rfl | rfl | rfl | hw
      · exact Or.inl rfl
      · exact Or.inl rfl
      · exact Or.inl rfl
      · exact Or.inl rfl
      · exact (gm_T_good _ j1).2
      · exact (gm_T_good _ hw).2
  rw [gm_rf_pos hk.1 (Nat.lt_of_le_of_lt hk.2 hRv.1)]
  refine gm_tailH (bc' := bc') (bs' := bs') hcx hev hd hd2 hmc hms hA hxt hb1 hb2 hc1 hc2 hSv hL hS2 hA1 (a := (Value.ref (α k) :: w1.reverse).toArray) ?_
  refine vx_runV (As := w1.reverse) (n := gm_na mj) (index := ix) (C := (gm_mn mj).cls) ⟨hx, hb, hml, hown, hts⟩ hM (cwV (rm := { frames := d', cells := bc', slots := bs', locals := d' * 300 }) (gm_na mj) hts hG (by rw [hcode]) rfl rfl ⟨rfl, j3.1, j3.2, j4⟩ ⟨by show d' + 1 ≤ _; omega, by show 8 + (gm_ml mj + 11) + d' * 300 ≤ _; omega⟩) ⟨gm_blind, ?_, fun U hU hWm => ⟨rfl, hU, gm_Ev_to hev hWm (by rw [hU]; exact hSv.1) (fun a h1 h2 => by rw [hU]; exact hSv.2.1 a h1 h2) hA1, va_K.moved hWm.alike hKn⟩⟩ rfl (by rw [List.length_reverse, hwl, hna]) ?_ (by rw [List.reverse_reverse]) (lv_room (by rw [gm_sum_eq hS2]; exact hst)) hdg ⟨by omega, by omega⟩
  · have := va_recv hKn hP hcs he
    rw [hcn] at this
    exact this
  · exact hL.2.choose_spec.1.1
theorem gm_cont_H {L : gm_L} {st : List gm_V} {o : gm_O} (hh : gm_hh mi = []) {pc' : Nat} (h : gm_contH X LX d bc bs mi pc pc' L st Q o n K R M) : gm_cont X LX d bc bs mi pc' L st Q o n K R M := by
  cases o with
  | inl u => exact h
  | inr x =>
    have h2 : (match gm_hit (gm_ow mi) pc x false (gm_hh mi) with
      | some (some h) => gm_Wp X LX d bc bs mi h L [gm_vo 4000] n K R M Q
      | some none => Q (.inr x) n K R M
      | none => False) := h
    rw [hh] at h2
    exact h2
end GVH
end
/-! 11j.stx -/
section
/-! A STATIC CALL of a method with handlers. -/
section GSX
variable {X : Int → Int} {LX d bc bs mi pc : Nat} {L : gm_L} {st : List gm_V} {n : Nat} {K : gm_K} {R : gm_R} {M : gm_M} {Q : gm_Q}
theorem gm_metH {mj : Nat} {vs : List gm_V} {avs : List Value} (hm : mj < 370) (hmx : gm_ow mj ≠ gm_mxi) (hh : ¬ gm_hh mj = []) (l : Launch) (hl : l.stackTraces = false) {D : va_G} {ti : Nat → ClassId} {adK adV α : Nat → Nat} {A' : Nat → Prop} {H : Heap}
    (hW : gm_Wp X LX d bc bs mj 0 (gm_ent mj vs) [] n K R M Q) (hvs : gm_sr α adK n vs avs) (hcat : ∀ v ∈ vs, ¬ gm_sort v = 1) (hlen : vs.length ≤ gm_ml mj) (hP : va_P D gm_cs (gm_wl ti α n K R M) H) (hD : va_D A' (gm_wl ti α n K R M)) (hRv : gm_Rv n R) (hA' : ∀ q, H.size ≤ q → A' q) :
    vx_Met l (gm_mn mj) (gm_cwd mj :: gm_T) ({ frames := d, cells := bc, slots := bs, locals := d * 300 }) (va_Pc avs (fun U => U.heap = H ∧ gm_Ev X LX adK adV A' U ∧ va_K D gm_cs (gm_ty ti) U)) (gm_QC D ti adK A' α n Q) (gm_XC D ti A' α n Q) bc bs A' := by
  obtain ⟨-, hpl, -, -, -, hown9⟩ := gm_mck_spec hm
  refine vx_ofWH (cc := gm_bc mj) (maxL := gm_ml mj) (ret := gm_rt mj) (ws' := gm_T) (hpl hmx) (hh := gm_hh mj) (by unfold gm_cwd; rw [if_neg hh]) ?_
  intro p e s m args below meth c s₁ B hml hv
  obtain ⟨rfl, hsz, hev, hK⟩ := hv
  have hts := atoms_spec (ws := gm_cwd mj :: gm_T) B.pre
  have hown : s.vm.findClass (gm_mn mj).cls = some m.cls := findClass_of_methodNamed B.named
  have hin : meth.name = (gm_mn mj).name := (name_of_methodNamed B.named B.method).1
  have htab : c.exceptionTable.toList = tableOf (gm_hh mj) := by
    have h1 := hts (gm_cwd mj) List.mem_cons_self
    unfold gm_cwd at h1
    rw [if_neg hh] at h1
    exact vx_table (x := gm_mn mj) B h1
  subst hsz
  rw [lg_entry_eq]
  exact hW p l e _ s m _ below meth c D ti adK adV A' α n bc bs ⟨B.exec, B.bytes, hml, by rw [hown9]; exact hown, B.returns, B.notSynchronized, fun w hw => hts w (List.mem_cons_of_mem _ hw), hin, hl, (by omega), htab⟩ hev (Nat.le_refl _) (Nat.le_refl _) (Nat.le_refl _) (Nat.le_refl _) hA' α s.heap [] 0 0 _ [] gm_xt.rf (by omega) (by omega) ⟨hK, hP, hD, va_S.rf, hRv⟩ (gm_lr_ent hvs hcat hlen) rfl
theorem gm_c_statX {ix mj d' bc' bs' : Nat} {as : List gm_V} (h : gm_at mi pc = some (.invokestatic ix)) (hc : gm_cal (gm_ow mi) ix = some (5, mj)) (hmx : gm_ow mj ≠ gm_mxi) (hh : gm_hh mi = []) (hhj : ¬ gm_hh mj = []) (hna : as.length = gm_na mj) (hcat : ∀ v ∈ as, ¬ gm_sort v = 1) (hlen : as.length ≤ gm_ml mj) (hst : (st.map gm_cat).sum ≤ 8) (hd' : d' + 1 ≤ d) (hb1 : bc' ≤ bc) (hb2 : bs' ≤ bs)
    (hW : gm_Wp X LX d' bc' bs' mj 0 (gm_ent mj as) [] n K R M (gm_cont X LX d (bc - bc') (bs - bs') mi (pc + 3) L st Q)) : gm_Wp X LX d bc bs mi pc L (as.reverse ++ st) n K R M Q := by
  intro p l e Rm s m args below meth c D ti adK adV A α0 n0 mc ms hcx hev hd hd2 hmc hms hA α H locs cells slots ls sv hxt hc1 hc2 hR hL hS
  obtain ⟨w1, sv2, rfl, hw1, hS2⟩ := gm_sr_app hS
  have hdg := gm_dec hcx h rfl
  obtain ⟨hx, hb, hml, hown, -, -, hts, -, hl, -⟩ := id hcx
  obtain ⟨hKn, hP, hD, hSv, hRv⟩ := id hR
  obtain ⟨hj, i1, i2, -, -, i5, i6, -⟩ := gm_cal_spec hc
  obtain ⟨j1, -, j3, j4, j5, -⟩ := gm_mck_spec hj
  have hA1 := gm_sub_A hD hSv hA
  have hvs : gm_sr α adK n as w1.reverse := by have := gm_sr_rev hw1; rwa [List.reverse_reverse] at this
  have hM := gm_metH (adV := adV) (ti := ti) (D := D) hj hmx hhj l hl hW hvs hcat hlen hP (hD.self (sz := H.size)) hRv (fun q h => Or.inr h)
  have hcode : gm_cwd mj = .codeWith (gm_mn mj) (gm_bc mj) (gm_ml mj) (gm_rt mj) (gm_hh mj) := by unfold gm_cwd; rw [if_neg hhj]
  have hwl : w1.length = as.length := by have := (gm_sr_at hw1).1; simpa using this
  have hpre : PreS s H (va_Pc w1.reverse (fun U => U.heap = H ∧ gm_Ev X LX adK adV (va_A (gm_wl ti α n K R M) H.size) U ∧ va_K D gm_cs (gm_ty ti) U)) w1.reverse := ⟨gm_blind, fun U hU hWm => ⟨rfl, hU, gm_Ev_to hev hWm (by rw [hU]; exact hSv.1) (fun a h1 h2 => by rw [hU]; exact hSv.2.1 a h1 h2) hA1, va_K.moved hWm.alike hKn⟩⟩
  refine gm_tail (bc' := bc') (bs' := bs') hh hcx hev hd hd2 hmc hms hA hxt hb1 hb2 hc1 hc2 hSv hL hS2 hA1 (a := w1.reverse.toArray) ?_
  have hR1 : d' + 1 ≤ Rm.frames ∧ 8 + (gm_ml mj + 11) + d' * 300 ≤ Rm.locals := ⟨by omega, by omega⟩
  have hroom := lv_room (m := m) (pc := pc) (ls := ls) (rest := w1 ++ sv2) (st := sv2) (by rw [gm_sum_eq hS2]; exact hst)
  have hG9 : GoodIn gm_T (va_wsS (gm_rn (gm_ow mi)) ix (gm_mn mj) (gm_cwd mj :: gm_T)) := by
    intro w hw
    simp only [va_wsS, List.cons_append, List.nil_append, List.mem_cons] at hw
    rcases hw with rfl | rfl | rfl | rfl | hw
    all_goals first | exact gm_T_good _ i1 | exact gm_T_good _ (i2 (by omega)) | exact gm_T_good _ (i5 (Or.inr rfl)) | exact gm_T_good _ j1 | exact gm_T_good _ hw
  exact vx_runSX (hh := gm_hh mj) (As := w1.reverse) (n := gm_na mj) (index := ix) ⟨hx, hb, hml, hown, hts⟩ hM (vx_cwSW (rm := { frames := d', cells := bc', slots := bs', locals := d' * 300 }) (gm_na mj) hts hG9 (by rw [hcode]) rfl rfl ⟨j3.1, j3.2, j4⟩ hR1) hpre rfl (by rw [List.length_reverse, hwl, hna]) hL.2.choose_spec.1.1 (by rw [List.reverse_reverse]) hroom hdg ⟨by omega, by omega⟩
end GSX
end
/-! 11k.str -/
section
/-! STRINGS: how long they are, their letters. -/
section GST
variable {X : Int → Int} {LX d bc bs mi pc : Nat} {L : gm_L} {st : List gm_V} {n : Nat} {K : gm_K} {R : gm_R} {M : gm_M} {Q : gm_Q}
theorem gm_sz {pc' : Nat} {L' : gm_L} {st' : List gm_V} {n' : Nat} {K' : gm_K} {R' : gm_R} {M' : gm_M} (h : gm_Sp X LX d mi pc L st n K R M pc' L' st' n' K' R' M' 0 0) (k : gm_Wp X LX d bc bs mi pc' L' st' n' K' R' M' Q) : gm_Wp X LX d bc bs mi pc L st n K R M Q := gm_sp h (Nat.zero_le _) (Nat.zero_le _) k
noncomputable def gm_slen (id : Nat) : Nat := gm_sl.getD id 0
noncomputable def gm_sby (id j : Nat) : Int32 := (gm_sb.getD id []).getD j 0
noncomputable def gm_sws : List Jvm.Cond := [.fieldLink "java/lang/String" 38 "java/lang/String" "COMPACT_STRINGS" "Z", .fieldLink "java/lang/String" 9 "java/lang/String" "value" "[B", .fieldLink "java/lang/String" 15 "java/lang/String" "coder" "B", .fieldLink "java/lang/String" 1053 "jdk/internal/util/Preconditions" "SIOOBE_FORMATTER" "Ljava/util/function/BiFunction;"]
theorem gm_sws_ok : gm_sws.all (fun w => gm_mem w && goodWord w) = true := by decide +kernel
theorem gm_sws_in {i : Nat} {w : Jvm.Cond} (h : gm_sws[i]? = some w) : w ∈ gm_T := by
  have h1 := List.all_eq_true.mp gm_sws_ok w (List.mem_of_getElem? h)
  rw [Bool.and_eq_true] at h1
  exact List.mem_filter.mpr ⟨gm_mem_in h1.1, h1.2⟩
theorem gm_sl75 : gm_sl.length = 75 := by decide +kernel
theorem gm_p_cs (h : gm_at mi pc = some (.getstatic 38)) (ho : gm_rn (gm_ow mi) = "java/lang/String") : gm_Sp X LX d mi pc L st n K R M (pc + 3) L (gm_vi 1 :: st) n K R M 0 0 := by
  intro p l e Rm s m args below meth c D ti adK adV A hcx hev hd hd2 hA α H locs cells slots ls sv Q' hc1 hc2 hR hL hS k2
  have hdg := gm_dec hcx h rfl
  obtain ⟨hx, hb, -, hown, -, -, hts, -⟩ := id hcx
  obtain ⟨hKn, hP, hD, hSv, hRv⟩ := id hR
  rw [ho] at hown
  exact va_gets hx hb hev.2.2.2.2.1.1 hSv hown (hts _ (gm_sws_in (i := 0) rfl)) (fun _ h => h) hdg (k2 α H locs ls _ gm_xt.rf hR hL ⟨_, _, rfl, rfl, hS⟩)
/-- the maker of what an index out of bounds would throw: null or a reference, it is only passed on -/
theorem gm_b_sio (h : gm_at mi pc = some (.getstatic 1053)) (ho : gm_rn (gm_ow mi) = "java/lang/String") (k0 : gm_Wp X LX d bc bs mi (pc + 3) L (gm_vr 0 :: st) n K R M Q) (k1 : gm_Wp X LX d bc bs mi (pc + 3) L (gm_vo 5000 :: st) n K R M Q) : gm_Wp X LX d bc bs mi pc L st n K R M Q := by
  intro p l e Rm s m args below meth c D ti adK adV A α0 n0 mc ms hcx hev hd hd2 hmc hms hA α H locs cells slots ls sv hxt hc1 hc2 hR hL hS
  have hdg := gm_dec hcx h rfl
  obtain ⟨hx, hb, -, hown, -, -, hts, -⟩ := id hcx
  obtain ⟨hKn, hP, hD, hSv, hRv⟩ := id hR
  rw [ho] at hown
  rcases hev.2.2.2.2.1.2.1 with hz | ⟨t, hz⟩
  · exact va_gets hx hb hz hSv hown (hts _ (gm_sws_in (i := 3) rfl)) (fun _ h => h) hdg (k0 p l e Rm s m args below meth c D ti adK adV A α0 n0 mc ms hcx hev hd hd2 hmc hms hA α H locs cells slots ls _ hxt hc1 hc2 hR hL ⟨_, _, rfl, ⟨rfl, Or.inl (Nat.zero_le _)⟩, hS⟩)
  · exact va_gets hx hb hz hSv hown (hts _ (gm_sws_in (i := 3) rfl)) (fun _ h => h) hdg (k1 p l e Rm s m args below meth c D ti adK adV A α0 n0 mc ms hcx hev hd hd2 hmc hms hA α H locs cells slots ls _ hxt hc1 hc2 hR hL ⟨_, _, rfl, ⟨t, rfl, fun h => absurd h (by omega)⟩, hS⟩)
theorem gm_p_sval {id : Nat} (hid : id < gm_sl.length) (h : gm_at mi pc = some (.getfield 9)) (ho : gm_rn (gm_ow mi) = "java/lang/String") : gm_Sp X LX d mi pc L (gm_vo id :: st) n K R M (pc + 3) L (gm_vo (1000 + id) :: st) n K R M 0 0 := by
  intro p l e Rm s m args below meth c D ti adK adV A hcx hev hd hd2 hA α H locs cells slots ls sv Q' hc1 hc2 hR hL hS k2
  obtain ⟨w1, sv, rfl, ⟨a, rfl, ha⟩, hS⟩ := hS
  have hdg := gm_dec hcx h rfl
  obtain ⟨hx, hb, -, hown, -, -, hts, -⟩ := _root_.id hcx
  obtain ⟨hKn, hP, hD, hSv, hRv⟩ := _root_.id hR
  rw [ho] at hown
  have h75 := gm_sl75
  obtain ⟨o1, o2, o3, o4⟩ := (hev.1 id hid).1 0 (by omega)
  have ha := ha (by omega)
  subst ha
  exact vk_getf hx hb o3 hSv hown (hts _ (gm_sws_in (i := 1) rfl)) (fun _ h => h) hdg (k2 α H locs ls _ gm_xt.rf hR hL ⟨_, _, rfl, ⟨adV id, rfl, fun _ => (hev.2.2.2.2.1.2.2 id hid).symm⟩, hS⟩)
theorem gm_p_scod {id : Nat} (hid : id < gm_sl.length) (h : gm_at mi pc = some (.getfield 15)) (ho : gm_rn (gm_ow mi) = "java/lang/String") : gm_Sp X LX d mi pc L (gm_vo id :: st) n K R M (pc + 3) L (gm_vi 0 :: st) n K R M 0 0 := by
  intro p l e Rm s m args below meth c D ti adK adV A hcx hev hd hd2 hA α H locs cells slots ls sv Q' hc1 hc2 hR hL hS k2
  obtain ⟨w1, sv, rfl, ⟨a, rfl, ha⟩, hS⟩ := hS
  have hdg := gm_dec hcx h rfl
  obtain ⟨hx, hb, -, hown, -, -, hts, -⟩ := _root_.id hcx
  obtain ⟨hKn, hP, hD, hSv, hRv⟩ := _root_.id hR
  rw [ho] at hown
  have h75 := gm_sl75
  obtain ⟨o1, o2, o3, o4⟩ := (hev.1 id hid).1 0 (by omega)
  have ha := ha (by omega)
  subst ha
  exact vk_getf hx hb o2 hSv hown (hts _ (gm_sws_in (i := 2) rfl)) (fun _ h => h) hdg (k2 α H locs ls _ gm_xt.rf hR hL ⟨_, _, rfl, rfl, hS⟩)
theorem gm_p_sale {id : Nat} (hid : id < gm_sl.length) (h : gm_at mi pc = some .arraylength) : gm_Sp X LX d mi pc L (gm_vo (1000 + id) :: st) n K R M (pc + 1) L (gm_vi (gm_slen id : Int) :: st) n K R M 0 0 := by
  intro p l e Rm s m args below meth c D ti adK adV A hcx hev hd hd2 hA α H locs cells slots ls sv Q' hc1 hc2 hR hL hS k2
  obtain ⟨w1, sv, rfl, ⟨a, rfl, ha⟩, hS⟩ := hS
  have hdg := gm_dec hcx h rfl
  obtain ⟨hx, hb, -⟩ := _root_.id hcx
  obtain ⟨hKn, hP, hD, hSv, hRv⟩ := _root_.id hR
  have h75 := gm_sl75
  obtain ⟨o1, o2, o3, o4⟩ := (hev.1 id hid).1 0 (by omega)
  have ha := (ha (by omega)).trans (hev.2.2.2.2.1.2.2 id hid)
  subst ha
  exact va_tlen hx hb o4 hSv (gm_ofNat _) hdg (k2 α H locs ls _ gm_xt.rf hR hL ⟨_, _, rfl, rfl, hS⟩)
theorem gm_p_sbal {id : Nat} {e0 : Int} (hid : id < gm_sl.length) (h : gm_at mi pc = some .baload) (hi : 0 ≤ gm_w e0 ∧ gm_w e0 < gm_slen id) : gm_Sp X LX d mi pc L (gm_vi e0 :: gm_vo (1000 + id) :: st) n K R M (pc + 1) L (gm_vi (gm_sby id (gm_w e0).toNat).toInt :: st) n K R M 0 0 := by
  intro p l e Rm s m args below meth c D ti adK adV A hcx hev hd hd2 hA α H locs cells slots ls sv Q' hc1 hc2 hR hL hS k2
  obtain ⟨w0, sv, rfl, h0, hS⟩ := hS
  obtain ⟨w1, sv, rfl, ⟨a, rfl, ha⟩, hS⟩ := hS
  cases h0
  have hdg := gm_dec hcx h rfl
  obtain ⟨hx, hb, -⟩ := _root_.id hcx
  obtain ⟨hKn, hP, hD, hSv, hRv⟩ := _root_.id hR
  have h75 := gm_sl75
  obtain ⟨o1, o2, o3, o4⟩ := (hev.1 id hid).1 0 (by omega)
  have ha := (ha (by omega)).trans (hev.2.2.2.2.1.2.2 id hid)
  subst ha
  refine va_tb hx hb o4 hSv (gm_in hi.1 hi.2) rfl hdg (k2 α H locs ls _ gm_xt.rf hR hL ⟨_, _, rfl, ?_, hS⟩)
  show Value.int (gm_sby id (Int32.ofInt e0).toNatClampNeg) = Value.int (Int32.ofInt (gm_sby id (gm_w e0).toNat).toInt)
  rw [gm_cl, ← gm_ti]
noncomputable def gm_i2c (x : Int) : Int := ((Int32.ofInt x).toUInt32 % 65536).toInt32.toInt
theorem gm_p_i2c {x : Int} (h : gm_at mi pc = some .i2c) : gm_Sp X LX d mi pc L (gm_vi x :: st) n K R M (pc + 1) L (gm_vi (gm_i2c x) :: st) n K R M 0 0 := by
  refine gm_stk fun p l e Rm s m args below meth c hcx α adK H locs cells slots ls sv Q' hL hS k => ?_
  obtain ⟨w, sv, rfl, h1, hS⟩ := hS
  cases h1
  have hdg := gm_dec hcx h rfl
  obtain ⟨hx, hb, -⟩ := hcx
  exact lv_i2c hx hb hdg (gm_ti _) (k _ ⟨_, _, rfl, rfl, hS⟩)
theorem gm_r_ty {x : Int} {ty : FieldType} (h : gm_at mi pc = some .ireturn) (hr : gm_rt mi = some ty) (hn : narrow ty (.int (Int32.ofInt x)) = .int (Int32.ofInt x)) (hq : Q (.inl (some (gm_vi x))) n K R M) : gm_Wp X LX d bc bs mi pc L [gm_vi x] n K R M Q := by
  intro p l e Rm s m args below meth c D ti adK adV A α0 n0 mc ms hcx hev hd hd2 hmc hms hA α H locs cells slots ls sv hxt hc1 hc2 hR hL hS
  obtain ⟨w, sv, rfl, h1, hS⟩ := hS
  cases h1; cases hS
  have hdg := gm_dec hcx h rfl
  obtain ⟨hx, hb, -, -, hret, hlk, -⟩ := id hcx
  obtain ⟨hKn, hP, hD, hSv, hRv⟩ := id hR
  have hq' : ∀ t : State, t.heap = H → s.WarmedH t.vm → gm_QC D ti adK A α0 n0 Q args s (.returned (some (.int (Int32.ofInt x)))) t := fun t ht hW => ⟨⟨_, some (gm_vi x), α, n, K, R, M, rfl, ⟨_, rfl, rfl⟩, hq, hxt, va_K.moved hW.alike hKn, by rw [ht]; exact hP, hD, hRv⟩, hSv.F ht⟩
  refine W.widen (k := mc) (n := ms) (by omega) (by omega) (vx_ret ?_)
  exact W.zret hx hb (by rw [hret]; exact hr) hn hq' hSv.2.2 hdg hlk
theorem gm_c_vstr {ix mj id d' bc' bs' : Nat} {as : List gm_V} (h : gm_at mi pc = some (.invokevirtual ix)) (hc : gm_cal (gm_ow mi) ix = some (0, mj)) (hmx : gm_ow mj ≠ gm_mxi) (hh : gm_hh mi = []) (hid : id < gm_sl.length) (hcn : (gm_mn mj).cls = "java/lang/String") (hna : as.length = gm_na mj) (hcat : ∀ v ∈ as, ¬ gm_sort v = 1) (hlen : as.length + 1 ≤ gm_ml mj) (hst : (st.map gm_cat).sum ≤ 8) (hd' : d' + 1 ≤ d) (hb1 : bc' ≤ bc) (hb2 : bs' ≤ bs)
    (hW : gm_Wp X LX d' bc' bs' mj 0 (gm_ent mj (gm_vo id :: as)) [] n K R M (gm_cont X LX d (bc - bc') (bs - bs') mi (pc + 3) L st Q)) : gm_Wp X LX d bc bs mi pc L (as.reverse ++ gm_vo id :: st) n K R M Q := by
  intro p l e Rm s m args below meth c D ti adK adV A α0 n0 mc ms hcx hev hd hd2 hmc hms hA α H locs cells slots ls sv hxt hc1 hc2 hR hL hS
  obtain ⟨w1, w2, rfl, hw1, w, sv2, rfl, ⟨a, rfl, ha⟩, hS2⟩ := gm_sr_app hS
  have h75 := gm_sl75
  have ha := ha (by omega)
  subst ha
  have hdg := gm_dec hcx h rfl
  obtain ⟨hx, hb, hml, hown, -, -, hts, -, hl, -⟩ := _root_.id hcx
  obtain ⟨hKn, hP, hD, hSv, hRv⟩ := _root_.id hR
  obtain ⟨hj, i1, i2, i3, -, -, i6, -⟩ := gm_cal_spec hc
  obtain ⟨j1, -, j3, j4, j5, -⟩ := gm_mck_spec hj
  have hA1 := gm_sub_A hD hSv hA
  have hvs : gm_sr α adK n (gm_vo id :: as) (Value.ref (adK id) :: w1.reverse) := ⟨_, _, rfl, ⟨_, rfl, fun _ => rfl⟩, by have := gm_sr_rev hw1; rwa [List.reverse_reverse] at this⟩
  have hM := gm_met (adV := adV) (ti := ti) (D := D) hj hmx (i6 (by omega)) l hl hW hvs (by intro v hv; rcases List.mem_cons.mp hv with rfl | hv; exact (by simp [gm_sort]); exact hcat v hv) (by simpa using hlen) hP (hD.self (sz := H.size)) hRv (fun q h => Or.inr h)
  obtain ⟨o1, -⟩ := (hev.1 id hid).1 0 (by omega)
  obtain ⟨cell, c1, c2, c3, -⟩ := o1.kept (fun a h1 h2 => hSv.2.1 a h1 h2)
  have hcode : gm_cwd mj = .code (gm_mn mj) (gm_bc mj) (gm_ml mj) (gm_rt mj) := by unfold gm_cwd; rw [if_pos (i6 (by omega))]
  have hwl : w1.length = as.length := by have := (gm_sr_at hw1).1; simpa using this
  have hG : GoodIn gm_T (wsV (gm_rn (gm_ow mi)) ix (gm_mn mj).cls (gm_mn mj) (gm_cwd mj :: gm_T)) := by
    intro w hw
    refine ⟨?_, ?_⟩
    · simp only [wsV, List.cons_append, List.nil_append, List.mem_cons] at hw
      rcases hw with rfl | rfl | rfl | rfl | rfl | hw
      · exact i2 (by omega)
      · exact (i3 rfl).1
      · exact (i3 rfl).2
      · exact i1
      · exact j1
      · exact hw
    · simp only [wsV, List.cons_append, List.nil_append, List.mem_cons] at hw
      rcases hw with rfl | rfl | rfl | rfl | rfl | hw
      · exact Or.inl rfl
      · exact Or.inl rfl
      · exact Or.inl rfl
      · exact Or.inl rfl
      · exact (gm_T_good _ j1).2
      · exact (gm_T_good _ hw).2
  refine gm_tail (bc' := bc') (bs' := bs') hh hcx hev hd hd2 hmc hms hA hxt hb1 hb2 hc1 hc2 hSv hL hS2 hA1 (a := (Value.ref (adK id) :: w1.reverse).toArray) ?_
  refine vx_runV (As := w1.reverse) (n := gm_na mj) (index := ix) (C := (gm_mn mj).cls) ⟨hx, hb, hml, hown, hts⟩ hM (cwV (rm := { frames := d', cells := bc', slots := bs', locals := d' * 300 }) (gm_na mj) hts hG (by rw [hcode]) rfl rfl ⟨rfl, j3.1, j3.2, j4⟩ ⟨by show d' + 1 ≤ _; omega, by show 8 + (gm_ml mj + 11) + d' * 300 ≤ _; omega⟩) ⟨gm_blind, ?_, fun U hU hWm => ⟨rfl, hU, gm_Ev_to hev hWm (by rw [hU]; exact hSv.1) (fun a h1 h2 => by rw [hU]; exact hSv.2.1 a h1 h2) hA1, va_K.moved hWm.alike hKn⟩⟩ rfl (by rw [List.length_reverse, hwl, hna]) ?_ (by rw [List.reverse_reverse]) (lv_room (by rw [gm_sum_eq hS2]; exact hst)) hdg ⟨by omega, by omega⟩
  · rw [hcn]; exact ⟨cell, c1, c2, c3⟩
  · exact hL.2.choose_spec.1.1
/-- a letter of a String constant -/
noncomputable def gm_chv (id j : Nat) : Int := gm_i2c (Int32.ofInt (gm_sby id j).toInt &&& Int32.ofInt 255).toInt
noncomputable def gm_chk : Bool := (List.range 75).all fun id => decide ((Int32.ofInt (gm_slen id : Int) >>> (Int32.ofInt 0 &&& 31)).toInt = (gm_slen id : Int)) && (decide (gm_slen id < 100) && (List.range (gm_slen id)).all fun j => (match narrow .char (.int (Int32.ofInt (gm_chv id j))) with | .int u => decide (u = Int32.ofInt (gm_chv id j)) | _ => false) && (decide (0 ≤ gm_chv id j) && decide (gm_chv id j < 128)))
theorem gm_chk_ok : gm_chk = true := by decide +kernel
theorem gm_chk_s {id : Nat} (hid : id < gm_sl.length) : ((Int32.ofInt (gm_slen id : Int) >>> (Int32.ofInt 0 &&& 31)).toInt = (gm_slen id : Int) ∧ gm_slen id < 100) ∧ ∀ j, j < gm_slen id → narrow .char (.int (Int32.ofInt (gm_chv id j))) = .int (Int32.ofInt (gm_chv id j)) ∧ 0 ≤ gm_chv id j ∧ gm_chv id j < 128 := by
  rw [gm_sl75] at hid
  have h := List.all_eq_true.mp gm_chk_ok id (List.mem_range.mpr hid)
  simp only [Bool.and_eq_true, decide_eq_true_eq] at h
  refine ⟨⟨h.1, h.2.1⟩, fun j hj => ?_⟩
  have h2 := List.all_eq_true.mp h.2.2 j (List.mem_range.mpr hj)
  rw [Bool.and_eq_true, Bool.and_eq_true, decide_eq_true_eq, decide_eq_true_eq] at h2
  refine ⟨?_, h2.2⟩
  have h3 := h2.1
  split at h3
  · rename_i u hu
    rw [hu, of_decide_eq_true h3]
  · cases h3

theorem gm_w83 {id : Nat} (hid : id < gm_sl.length) (hq : Q (.inl (some (gm_vi 0))) n K R M) : gm_Wp X LX d bc bs 83 0 (gm_ent 83 [gm_vo id]) [] n K R M Q := by
  refine gm_sz (gm_p_cs (pc := 0) (by decide +kernel) (by decide +kernel)) ?_
  refine gm_b_if (pc := 3) (cc := .eq) (off := 10) (by decide +kernel) (by decide +kernel) (fun hp => absurd hp (show ¬ (gm_w 1 = gm_w 0) by decide +kernel)) (fun _ => ?_)
  refine gm_sz (gm_p_load (pc := 6) (i := .aload_n 0) (sr := 2) (j := 0) (by decide +kernel) rfl rfl rfl) ?_
  refine gm_sz (gm_p_scod (pc := 7) hid (by decide +kernel) (by decide +kernel)) ?_
  refine gm_sz (gm_p_goto (pc := 10) (off := 4) (by decide +kernel) (by decide +kernel)) ?_
  exact gm_r_ty (pc := 14) (ty := .byte) (by decide +kernel) (by decide +kernel) rfl hq
theorem gm_w85 {id : Nat} (hid : id < gm_sl.length) (hq : Q (.inl (some (gm_vi 1))) n K R M) : gm_Wp X LX d bc bs 85 0 (gm_ent 85 [gm_vo id]) [] n K R M Q := by
  refine gm_sz (gm_p_cs (pc := 0) (by decide +kernel) (by decide +kernel)) ?_
  refine gm_b_if (pc := 3) (cc := .eq) (off := 14) (by decide +kernel) (by decide +kernel) (fun hp => absurd hp (show ¬ (gm_w 1 = gm_w 0) by decide +kernel)) (fun _ => ?_)
  refine gm_sz (gm_p_load (pc := 6) (i := .aload_n 0) (sr := 2) (j := 0) (by decide +kernel) rfl rfl rfl) ?_
  refine gm_sz (gm_p_scod (pc := 7) hid (by decide +kernel) (by decide +kernel)) ?_
  refine gm_b_if (pc := 10) (cc := .ne) (off := 7) (by decide +kernel) (by decide +kernel) (fun hp => absurd (show gm_w 0 = gm_w 0 from rfl) hp) (fun _ => ?_)
  refine gm_sz (gm_p_const (pc := 13) (i := .iconst 1) (v := gm_vi 1) (by decide +kernel) rfl) ?_
  refine gm_sz (gm_p_goto (pc := 14) (off := 4) (by decide +kernel) (by decide +kernel)) ?_
  exact gm_r_int (pc := 18) (by decide +kernel) (Or.inr ⟨(by decide +kernel), Or.inr rfl⟩) hq
theorem gm_w88 {v : gm_V} {i m : Int} (hi : 0 ≤ i ∧ i < m ∧ m < 2147483648) (hq : Q (.inl (some (gm_vi i))) n K R M) : gm_Wp X LX d bc bs 88 0 (gm_ent 88 [gm_vi i, gm_vi m, v]) [] n K R M Q := by
  have h1 : gm_w i = i := gm_w_id (by omega) (by omega)
  have h2 : gm_w m = m := gm_w_id (by omega) (by omega)
  refine gm_sz (gm_p_load (pc := 0) (i := .iload_n 0) (sr := 0) (j := 0) (by decide +kernel) rfl rfl rfl) ?_
  refine gm_b_if (pc := 1) (cc := .lt) (off := 8) (by decide +kernel) (by decide +kernel) (fun hp => ?_) (fun _ => ?_)
  · have hp : gm_w i < gm_w 0 := hp
    rw [h1, show gm_w 0 = 0 from rfl] at hp
    omega
  refine gm_sz (gm_p_load (pc := 4) (i := .iload_n 0) (sr := 0) (j := 0) (by decide +kernel) rfl rfl rfl) ?_
  refine gm_sz (gm_p_load (pc := 5) (i := .iload_n 1) (sr := 0) (j := 1) (by decide +kernel) rfl rfl rfl) ?_
  refine gm_b_ic (pc := 6) (cc := .lt) (off := 10) (by decide +kernel) (by decide +kernel) (fun _ => ?_) (fun hp => ?_)
  · refine gm_sz (gm_p_load (pc := 16) (i := .iload_n 0) (sr := 0) (j := 0) (by decide +kernel) rfl rfl rfl) ?_
    exact gm_r_int (pc := 17) (by decide +kernel) (Or.inl (by decide +kernel)) hq
  · exact absurd (show gm_w i < gm_w m by rw [h1, h2]; exact hi.2.1) hp
theorem gm_w87 {i m : Int} (hd : 1 ≤ d) (hi : 0 ≤ i ∧ i < m ∧ m < 2147483648) (hq : Q (.inl none) n K R M) : gm_Wp X LX d bc bs 87 0 (gm_ent 87 [gm_vi i, gm_vi m]) [] n K R M Q := by
  have key : ∀ v : gm_V, ¬ gm_sort v = 1 → gm_Wp X LX d bc bs 87 5 (gm_ent 87 [gm_vi i, gm_vi m]) [v, gm_vi m, gm_vi i] n K R M Q := by
    intro v hv
    refine gm_c_stat (pc := 5) (ix := 1059) (mj := 88) (as := [gm_vi i, gm_vi m, v]) (st := []) (d' := 0) (bc' := 0) (bs' := 0) (by decide +kernel) (by decide +kernel) (by decide +kernel) (by decide +kernel) rfl (fun u hu => ?_) (show 3 ≤ gm_ml 88 by decide +kernel) (by decide +kernel) hd (Nat.zero_le _) (Nat.zero_le _) (gm_w88 hi ?_)
    · rcases List.mem_cons.mp hu with rfl | hu
      · simp [gm_sort]
      · rcases List.mem_cons.mp hu with rfl | hu
        · simp [gm_sort]
        · rcases List.mem_cons.mp hu with rfl | hu
          · exact hv
          · cases hu
    · show gm_Wp X LX d (bc - 0) (bs - 0) 87 8 (gm_ent 87 [gm_vi i, gm_vi m]) [gm_vi i] n K R M Q
      refine gm_sz (gm_p_pop (pc := 8) (by decide +kernel) (by simp [gm_sort])) ?_
      exact gm_r_void (pc := 9) (by decide +kernel) (by decide +kernel) hq
  refine gm_sz (gm_p_load (pc := 0) (i := .iload_n 0) (sr := 0) (j := 0) (by decide +kernel) rfl rfl rfl) ?_
  refine gm_sz (gm_p_load (pc := 1) (i := .iload_n 1) (sr := 0) (j := 1) (by decide +kernel) rfl rfl rfl) ?_
  exact gm_b_sio (pc := 2) (by decide +kernel) (by decide +kernel) (key _ (by simp [gm_sort])) (key _ (by simp [gm_sort]))
theorem gm_w86 {id : Nat} {i : Int} (hd : 2 ≤ d) (hid : id < gm_sl.length) (hi : 0 ≤ i ∧ i < gm_slen id) (hq : Q (.inl (some (gm_vi (gm_chv id i.toNat)))) n K R M) : gm_Wp X LX d bc bs 86 0 (gm_ent 86 [gm_vo (1000 + id), gm_vi i]) [] n K R M Q := by
  obtain ⟨⟨-, g1⟩, g2⟩ := gm_chk_s hid
  have h1 : gm_w i = i := gm_w_id (by omega) (by omega)
  refine gm_sz (gm_p_load (pc := 0) (i := .iload_n 1) (sr := 0) (j := 1) (by decide +kernel) rfl rfl rfl) ?_
  refine gm_sz (gm_p_load (pc := 1) (i := .aload_n 0) (sr := 2) (j := 0) (by decide +kernel) rfl rfl rfl) ?_
  refine gm_sz (gm_p_sale (pc := 2) hid (by decide +kernel)) ?_
  refine gm_c_stat (pc := 3) (ix := 9) (mj := 87) (as := [gm_vi i, gm_vi (gm_slen id : Int)]) (st := []) (d' := 1) (bc' := 0) (bs' := 0) (by decide +kernel) (by decide +kernel) (by decide +kernel) (by decide +kernel) rfl (fun u hu => ?_) (show 2 ≤ gm_ml 87 by decide +kernel) (by decide +kernel) (by omega) (Nat.zero_le _) (Nat.zero_le _) (gm_w87 (by omega) ⟨hi.1, hi.2, by omega⟩ ?_)
  · rcases List.mem_cons.mp hu with rfl | hu
    · simp [gm_sort]
    · rcases List.mem_cons.mp hu with rfl | hu
      · simp [gm_sort]
      · cases hu
  · show gm_Wp X LX d (bc - 0) (bs - 0) 86 6 (gm_ent 86 [gm_vo (1000 + id), gm_vi i]) [] n K R M Q
    refine gm_sz (gm_p_load (pc := 6) (i := .aload_n 0) (sr := 2) (j := 0) (by decide +kernel) rfl rfl rfl) ?_
    refine gm_sz (gm_p_load (pc := 7) (i := .iload_n 1) (sr := 0) (j := 1) (by decide +kernel) rfl rfl rfl) ?_
    refine gm_sz (gm_p_sbal (pc := 8) hid (by decide +kernel) (by rw [h1]; exact hi)) ?_
    refine gm_sz (gm_p_const (pc := 9) (i := .sipush 255) (v := gm_vi 255) (by decide +kernel) (by decide +kernel)) ?_
    refine gm_sz (gm_p_bin (pc := 12) (i := .iand) (f := fun x y => (Int32.ofInt x &&& Int32.ofInt y).toInt) (by decide +kernel) rfl) ?_
    refine gm_sz (gm_p_i2c (pc := 13) (by decide +kernel)) ?_
    rw [h1]
    show gm_Wp X LX d _ _ 86 14 _ [gm_vi (gm_chv id i.toNat)] n K R M Q
    exact gm_r_ty (pc := 14) (ty := .char) (by decide +kernel) (by decide +kernel) (g2 i.toNat (by omega)).1 hq
/-- String.length -/
theorem gm_w82 {id : Nat} (hd : 1 ≤ d) (hid : id < gm_sl.length) (hq : Q (.inl (some (gm_vi (gm_slen id : Int)))) n K R M) : gm_Wp X LX d bc bs 82 0 (gm_ent 82 [gm_vo id]) [] n K R M Q := by
  refine gm_sz (gm_p_load (pc := 0) (i := .aload_n 0) (sr := 2) (j := 0) (by decide +kernel) rfl rfl rfl) ?_
  refine gm_sz (gm_p_sval (pc := 1) hid (by decide +kernel) (by decide +kernel)) ?_
  refine gm_sz (gm_p_sale (pc := 4) hid (by decide +kernel)) ?_
  refine gm_sz (gm_p_load (pc := 5) (i := .aload_n 0) (sr := 2) (j := 0) (by decide +kernel) rfl rfl rfl) ?_
  refine gm_c_vstr (pc := 6) (ix := 335) (mj := 83) (id := id) (as := []) (st := [gm_vi (gm_slen id : Int)]) (d' := 0) (bc' := 0) (bs' := 0) (by decide +kernel) (by decide +kernel) (by decide +kernel) (by decide +kernel) hid (by decide +kernel) (by decide +kernel) (fun _ h => nomatch h) (by decide +kernel) (by simp [gm_cat, gm_sort]) hd (Nat.zero_le _) (Nat.zero_le _) (gm_w83 hid ?_)
  show gm_Wp X LX d (bc - 0) (bs - 0) 82 9 (gm_ent 82 [gm_vo id]) [gm_vi 0, gm_vi (gm_slen id : Int)] n K R M Q
  refine gm_sz (gm_p_bin (pc := 9) (i := .ishr) (f := fun x y => (Int32.ofInt x >>> (Int32.ofInt y &&& 31)).toInt) (by decide +kernel) rfl) ?_
  rw [(gm_chk_s hid).1.1]
  exact gm_r_int (pc := 10) (by decide +kernel) (Or.inl (by decide +kernel)) hq
/-- String.charAt -/
theorem gm_w84 {id : Nat} {i : Int} (hd : 3 ≤ d) (hid : id < gm_sl.length) (hi : 0 ≤ i ∧ i < gm_slen id) (hq : Q (.inl (some (gm_vi (gm_chv id i.toNat)))) n K R M) : gm_Wp X LX d bc bs 84 0 (gm_ent 84 [gm_vo id, gm_vi i]) [] n K R M Q := by
  have g2 := (gm_chk_s hid).2
  refine gm_sz (gm_p_load (pc := 0) (i := .aload_n 0) (sr := 2) (j := 0) (by decide +kernel) rfl rfl rfl) ?_
  refine gm_c_vstr (pc := 1) (ix := 492) (mj := 85) (id := id) (as := []) (st := []) (d' := 0) (bc' := 0) (bs' := 0) (by decide +kernel) (by decide +kernel) (by decide +kernel) (by decide +kernel) hid (by decide +kernel) (by decide +kernel) (fun _ h => nomatch h) (by decide +kernel) (by decide +kernel) (by omega) (Nat.zero_le _) (Nat.zero_le _) (gm_w85 hid ?_)
  show gm_Wp X LX d (bc - 0) (bs - 0) 84 4 (gm_ent 84 [gm_vo id, gm_vi i]) [gm_vi 1] n K R M Q
  refine gm_b_if (pc := 4) (cc := .eq) (off := 12) (by decide +kernel) (by decide +kernel) (fun hp => absurd hp (show ¬ (gm_w 1 = gm_w 0) by decide +kernel)) (fun _ => ?_)
  refine gm_sz (gm_p_load (pc := 7) (i := .aload_n 0) (sr := 2) (j := 0) (by decide +kernel) rfl rfl rfl) ?_
  refine gm_sz (gm_p_sval (pc := 8) hid (by decide +kernel) (by decide +kernel)) ?_
  refine gm_sz (gm_p_load (pc := 11) (i := .iload_n 1) (sr := 0) (j := 1) (by decide +kernel) rfl rfl rfl) ?_
  refine gm_c_stat (pc := 12) (ix := 495) (mj := 86) (as := [gm_vo (1000 + id), gm_vi i]) (st := []) (d' := 2) (bc' := 0) (bs' := 0) (by decide +kernel) (by decide +kernel) (by decide +kernel) (by decide +kernel) rfl (fun u hu => ?_) (show 2 ≤ gm_ml 86 by decide +kernel) (by decide +kernel) (by omega) (Nat.zero_le _) (Nat.zero_le _) (gm_w86 (by omega) hid hi ?_)
  · rcases List.mem_cons.mp hu with rfl | hu
    · simp [gm_sort]
    · rcases List.mem_cons.mp hu with rfl | hu
      · simp [gm_sort]
      · cases hu
  · show gm_Wp X LX d (bc - 0 - 0) (bs - 0 - 0) 84 15 (gm_ent 84 [gm_vo id, gm_vi i]) [gm_vi (gm_chv id i.toNat)] n K R M Q
    exact gm_r_ty (pc := 15) (ty := .char) (by decide +kernel) (by decide +kernel) (g2 i.toNat (by omega)).1 hq
end GST
end
/-! 12b.ck -/
section
/-! WHAT THE CHECKER STANDS ON (turned from 12.wx to 16.ib of p1): what is fixed in memory, kinds, references, and TYPES: bounds that a cell's numbers keep. -/
noncomputable abbrev gm_JJ : Type := gm_K → gm_M → Prop
/-- what is said of memory looks at stretches that nothing writes, and at the kinds of their cells; and, with counted cells g (a row, the place of what goes on, the place where it began), at (0, 4), how far it is, (0, 3), where it began less what was laid down, and (0, 5), both together -/
noncomputable def gm_hP (fp : Nat → List (Int × Int)) (J : gm_JJ) (gh : Option (Nat × Int × Int)) : Prop :=
  (∀ (K K' : gm_K) (M M' : gm_M), (∀ k r, r ∈ fp k → K' k = K k) → (∀ k r, r ∈ fp k → ∀ j, r.1 ≤ j → j ≤ r.2 → M' k j = M k j) → J K M → J K' M') ∧ ∀ g, gh = some g → (∀ (K : gm_K) (M : gm_M), J K M → M 0 4 = M g.1 g.2.1 - M g.1 g.2.2 ∧ M 0 5 = M 0 3 + M 0 4 ∧ M 0 3 ≤ M g.1 g.2.2) ∧ (1 ≤ g.1 ∧ ¬ g.2.1 = g.2.2) ∧ ∀ (K : gm_K) (M M' : gm_M), J K M → (∀ c j, ¬ (c = g.1 ∧ (j = g.2.1 ∨ j = g.2.2)) → ¬ (c = 0 ∧ (j = 3 ∨ j = 4 ∨ j = 5)) → M' c j = M c j) → M' 0 4 = M' g.1 g.2.1 - M' g.1 g.2.2 → M' 0 5 = M' 0 3 + M' 0 4 → M' 0 3 - M' g.1 g.2.2 = M 0 3 - M g.1 g.2.2 → J K M'
/-- types; stretches that nothing writes; what is said of them; names of cells' numbers at a method's begin; cells that are counted with others -/
noncomputable def gm_O3 : Type := { q : (Nat → List (Int × Int × Int × Int)) × (Nat → List (Int × Int)) × gm_JJ × List (Nat × Nat × Int) × Option (Nat × Int × Int) // gm_hP q.2.1 q.2.2.1 q.2.2.2.2 }
noncomputable def gm_O3.ty (o : gm_O3) : Nat → List (Int × Int × Int × Int) := o.1.1
noncomputable def gm_O3.fp (o : gm_O3) : Nat → List (Int × Int) := o.1.2.1
noncomputable def gm_O3.J (o : gm_O3) : gm_JJ := o.1.2.2.1
noncomputable def gm_O3.nm (o : gm_O3) : List (Nat × Nat × Int) := o.1.2.2.2.1
noncomputable def gm_O3.gh (o : gm_O3) : Option (Nat × Int × Int) := o.1.2.2.2.2
theorem gm_O3.hJ (o : gm_O3) : ∀ (K K' : gm_K) (M M' : gm_M), (∀ k r, r ∈ o.fp k → K' k = K k) → (∀ k r, r ∈ o.fp k → ∀ j, r.1 ≤ j → j ≤ r.2 → M' k j = M k j) → o.J K M → o.J K' M' := o.2.1
theorem gm_O3.hG (o : gm_O3) : ∀ g, o.gh = some g → (∀ (K : gm_K) (M : gm_M), o.J K M → M 0 4 = M g.1 g.2.1 - M g.1 g.2.2 ∧ M 0 5 = M 0 3 + M 0 4 ∧ M 0 3 ≤ M g.1 g.2.2) ∧ (1 ≤ g.1 ∧ ¬ g.2.1 = g.2.2) ∧ ∀ (K : gm_K) (M M' : gm_M), o.J K M → (∀ c j, ¬ (c = g.1 ∧ (j = g.2.1 ∨ j = g.2.2)) → ¬ (c = 0 ∧ (j = 3 ∨ j = 4 ∨ j = 5)) → M' c j = M c j) → M' 0 4 = M' g.1 g.2.1 - M' g.1 g.2.2 → M' 0 5 = M' 0 3 + M' 0 4 → M' 0 3 - M' g.1 g.2.2 = M 0 3 - M g.1 g.2.2 → o.J K M' := o.2.2
noncomputable abbrev gm_Or : Type := (Nat → Option (Nat × Nat)) × (Nat → Int → Option Nat) × gm_O3
/-- kind and length, references, types: from .. to .., least, most -/
noncomputable def gm_Fx (O : gm_Or) (n : Nat) (K : gm_K) (R : gm_R) (M : gm_M) : Prop :=
  (∀ k q, O.1 k = some q → 1 ≤ k ∧ k ≤ n ∧ K k = q) ∧ (∀ k j r, O.2.1 k j = some r → k ≤ n ∧ R k j = r) ∧ (∀ k r, r ∈ O.2.2.ty k → k ≤ n ∧ ∀ j, r.1 ≤ j → j ≤ r.2.1 → (-2147483648 ≤ M k j ∧ M k j < 2147483648) ∧ r.2.2.1 ≤ M k j ∧ M k j ≤ r.2.2.2) ∧ (∀ k r, r ∈ O.2.2.fp k → k ≤ n) ∧ O.2.2.J K M
/-- a write of a number between a and b, at a place between lo and hi, keeps the types of the cell k -/
noncomputable def gm_fpw (O : gm_Or) (k : Nat) (lo hi : Int) : Bool := fl_all (O.2.2.fp k) fun r => fl_if (fl_lt hi r.1) true (fl_lt r.2 lo)
theorem gm_fpw_def {O : gm_Or} {k : Nat} {lo hi : Int} : gm_fpw O k lo hi = (O.2.2.fp k).all fun r => decide (hi < r.1) || decide (r.2 < lo) := by
  simp only [gm_fpw, fl_and, fl_or, fl_beq, fl_blt, fl_le_eq, fl_lt_eq, fl_ie_eq, fl_any_eq, fl_all_eq, fl_find_eq, fl_lk_eq, fl_nth_eq]
noncomputable def gm_tyw (O : gm_Or) (k : Nat) (lo hi a b : Int) : Bool := fl_if (gm_fpw O k lo hi) (fl_all (O.2.2.ty k) fun r => fl_if (fl_lt hi r.1) true (fl_if (fl_lt r.2.1 lo) true (fl_if (fl_le r.2.2.1 a) (fl_if (fl_le b r.2.2.2) (fl_if (fl_le (-2147483648) a) (fl_lt b 2147483648) false) false) false))) false
theorem gm_tyw_def {O : gm_Or} {k : Nat} {lo hi a b : Int} : gm_tyw O k lo hi a b = (gm_fpw O k lo hi && (O.2.2.ty k).all fun r => decide (hi < r.1) || (decide (r.2.1 < lo) || (decide (r.2.2.1 ≤ a) && (decide (b ≤ r.2.2.2) && (decide (-2147483648 ≤ a) && decide (b < 2147483648)))))) := by
  simp only [gm_tyw, fl_and, fl_or, fl_beq, fl_blt, fl_le_eq, fl_lt_eq, fl_ie_eq, fl_any_eq, fl_all_eq, fl_find_eq, fl_lk_eq, fl_nth_eq]
theorem gm_J_M {O : gm_Or} {K : gm_K} {M : gm_M} {k : Nat} {j v lo hi : Int} (hJ : O.2.2.J K M) (h : gm_fpw O k lo hi = true) (h1 : lo ≤ j) (h2 : j ≤ hi) : O.2.2.J K (gm_uM M k j v) := by
  refine O.2.2.hJ K K M _ (fun _ _ _ => rfl) (fun c r hr i h3 h4 => ?_) hJ
  unfold gm_uM
  rw [if_neg]
  rintro ⟨rfl, rfl⟩
  have h7 := List.all_eq_true.mp (gm_fpw_def.symm.trans h) r hr
  simp only [Bool.or_eq_true, decide_eq_true_eq] at h7
  omega
theorem gm_Fx_M {O : gm_Or} {n : Nat} {K : gm_K} {R : gm_R} {M : gm_M} {k : Nat} {j v lo hi a b : Int} (hF : gm_Fx O n K R M) (h : gm_tyw O k lo hi a b = true) (h1 : lo ≤ j) (h2 : j ≤ hi) (h3 : a ≤ v) (h4 : v ≤ b) : gm_Fx O n K R (gm_uM M k j v) := by
  rw [gm_tyw_def] at h
  rw [Bool.and_eq_true] at h
  refine ⟨hF.1, hF.2.1, fun c r hr => ?_, hF.2.2.2.1, gm_J_M hF.2.2.2.2 h.1 h1 h2⟩
  obtain ⟨g1, g2⟩ := hF.2.2.1 c r hr
  refine ⟨g1, fun i h5 h6 => ?_⟩
  unfold gm_uM
  split
  · rename_i e
    obtain ⟨rfl, rfl⟩ := e
    have h7 := List.all_eq_true.mp h.2 r hr
    simp only [Bool.or_eq_true, Bool.and_eq_true, decide_eq_true_eq] at h7
    rcases h7 with h7 | h7 | ⟨h7, h8, h9, h10⟩
    · omega
    · omega
    · exact ⟨⟨by omega, by omega⟩, by omega, by omega⟩
  · exact g2 i h5 h6
theorem gm_Fx_E {O : gm_Or} {n : Nat} {K : gm_K} {R : gm_R} {M : gm_M} {k : Nat} {j v : Int} (hF : gm_Fx O n K R M) (h : ((O.2.2.ty k).isEmpty && (O.2.2.fp k).isEmpty) = true) : gm_Fx O n K R (gm_uM M k j v) := by
  rw [Bool.and_eq_true] at h
  refine ⟨hF.1, hF.2.1, fun c r hr => ?_, hF.2.2.2.1, gm_J_M (lo := j) (hi := j) hF.2.2.2.2 ?_ (Int.le_refl _) (Int.le_refl _)⟩
  · obtain ⟨g1, g2⟩ := hF.2.2.1 c r hr
    refine ⟨g1, fun i h5 h6 => ?_⟩
    unfold gm_uM
    split
    · rename_i e
      obtain ⟨rfl, rfl⟩ := e
      rw [List.isEmpty_iff.mp h.1] at hr
      cases hr
    · exact g2 i h5 h6
  · rw [gm_fpw_def]
    rw [List.isEmpty_iff.mp h.2]
    rfl
/-- the types alone -/
noncomputable def gm_tyv (O : gm_Or) (k : Nat) (lo hi a b : Int) : Bool := fl_all (O.2.2.ty k) fun r => fl_if (fl_lt hi r.1) true (fl_if (fl_lt r.2.1 lo) true (fl_if (fl_le r.2.2.1 a) (fl_if (fl_le b r.2.2.2) (fl_if (fl_le (-2147483648) a) (fl_lt b 2147483648) false) false) false))
theorem gm_tyv_def {O : gm_Or} {k : Nat} {lo hi a b : Int} : gm_tyv O k lo hi a b = (O.2.2.ty k).all fun r => decide (hi < r.1) || (decide (r.2.1 < lo) || (decide (r.2.2.1 ≤ a) && (decide (b ≤ r.2.2.2) && (decide (-2147483648 ≤ a) && decide (b < 2147483648))))) := by
  simp only [gm_tyv, fl_and, fl_or, fl_beq, fl_blt, fl_le_eq, fl_lt_eq, fl_ie_eq, fl_any_eq, fl_all_eq, fl_find_eq, fl_lk_eq, fl_nth_eq]
theorem gm_Fx_G {O : gm_Or} {n : Nat} {K : gm_K} {R : gm_R} {M M' : gm_M} {k : Nat} {j v a b : Int} (hF : gm_Fx O n K R M) (h : gm_tyv O k j j a b = true) (h0 : (O.2.2.ty 0).isEmpty = true) (h3 : a ≤ v) (h4 : v ≤ b) (hM : ∀ c i, 1 ≤ c → M' c i = gm_uM M k j v c i) (hJ : O.2.2.J K M') : gm_Fx O n K R M' := by
  refine ⟨hF.1, hF.2.1, fun c r hr => ?_, hF.2.2.2.1, hJ⟩
  obtain ⟨g1, g2⟩ := hF.2.2.1 c r hr
  refine ⟨g1, fun i h5 h6 => ?_⟩
  have hc : 1 ≤ c := by
    cases c with
    | zero => rw [List.isEmpty_iff.mp h0] at hr; cases hr
    | succ c => omega
  rw [hM c i hc]
  unfold gm_uM
  split
  · rename_i e
    obtain ⟨rfl, rfl⟩ := e
    have h7 := List.all_eq_true.mp (gm_tyv_def.symm.trans h) r hr
    simp only [Bool.or_eq_true, Bool.and_eq_true, decide_eq_true_eq] at h7
    rcases h7 with h7 | h7 | ⟨h7, h8, h9, h10⟩
    · omega
    · omega
    · exact ⟨⟨by omega, by omega⟩, by omega, by omega⟩
  · exact g2 i h5 h6
theorem gm_Fx_R {O : gm_Or} {n : Nat} {K : gm_K} {R : gm_R} {M : gm_M} {k : Nat} {j : Int} {v : Nat} (hF : gm_Fx O n K R M) (h : O.2.1 k j = none) : gm_Fx O n K (gm_uR R k j v) M := by
  refine ⟨hF.1, fun a b x hx => ?_, hF.2.2.1, hF.2.2.2⟩
  obtain ⟨h1, h3⟩ := hF.2.1 a b x hx
  refine ⟨h1, ?_⟩
  unfold gm_uR
  split
  · rename_i e
    obtain ⟨rfl, rfl⟩ := e
    rw [h] at hx; cases hx
  · exact h3
theorem gm_Fx_n {O : gm_Or} {n kd len : Nat} {K : gm_K} {R : gm_R} {M : gm_M} (hF : gm_Fx O n K R M) : gm_Fx O (n + 1) (gm_nK K n kd len) (gm_nR R n) (gm_nM M n) := by
  refine ⟨fun k q h => ?_, fun k j r h => ?_, fun k r h => ?_, fun k r h => ?_, O.2.2.hJ K _ M _ (fun k r h => ?_) (fun k r h j _ _ => ?_) hF.2.2.2.2⟩
  · obtain ⟨h1, h2, h3⟩ := hF.1 k q h
    exact ⟨h1, by omega, by unfold gm_nK; rw [if_neg (by omega)]; exact h3⟩
  · obtain ⟨h1, h2⟩ := hF.2.1 k j r h
    exact ⟨by omega, by unfold gm_nR; rw [if_neg (by omega)]; exact h2⟩
  · obtain ⟨h1, h2⟩ := hF.2.2.1 k r h
    refine ⟨by omega, fun j h3 h4 => ?_⟩
    unfold gm_nM
    rw [if_neg (by omega)]
    exact h2 j h3 h4
  · have := hF.2.2.2.1 k r h; omega
  · have := hF.2.2.2.1 k r h
    unfold gm_nK
    rw [if_neg (by omega)]
  · have := hF.2.2.2.1 k r h
    unfold gm_nM
    rw [if_neg (by omega)]
/-- what the types say of a stretch -/
noncomputable def gm_tyq (l : List (Int × Int × Int × Int)) : Nat → Int → Int → Option (Int × Int)
  | 0, _, _ => none
  | f + 1, lo, hi => match fl_find l fun r => fl_if (fl_le r.1 lo) (fl_le lo r.2.1) false with
    | none => none
    | some r => if hi ≤ r.2.1 then some (r.2.2.1, r.2.2.2) else (match gm_tyq l f (r.2.1 + 1) hi with
      | some q => some (if r.2.2.1 ≤ q.1 then r.2.2.1 else q.1, if r.2.2.2 ≤ q.2 then q.2 else r.2.2.2)
      | none => none)
noncomputable def gm_tyr (O : gm_Or) (k : Nat) (lo hi : Int) : Option (Int × Int) := gm_tyq (O.2.2.ty k) 400 lo hi
theorem gm_tyq_s {O : gm_Or} {n : Nat} {K : gm_K} {R : gm_R} {M : gm_M} {k : Nat} (hF : gm_Fx O n K R M) : ∀ (f : Nat) (lo hi : Int) (q : Int × Int), gm_tyq (O.2.2.ty k) f lo hi = some q → k ≤ n ∧ ∀ j, lo ≤ j → j ≤ hi → (-2147483648 ≤ M k j ∧ M k j < 2147483648) ∧ q.1 ≤ M k j ∧ M k j ≤ q.2 := by
  intro f
  induction f with
  | zero => intro lo hi q h; cases h
  | succ f ih =>
    intro lo hi q h
    unfold gm_tyq at h
    simp only [fl_and, fl_or, fl_beq, fl_blt, fl_le_eq, fl_lt_eq, fl_ie_eq, fl_any_eq, fl_all_eq, fl_find_eq, fl_lk_eq, fl_nth_eq] at h
    cases hr : (O.2.2.ty k).find? fun r => decide (r.1 ≤ lo) && decide (lo ≤ r.2.1) with
    | none => rw [hr] at h; cases h
    | some r =>
      rw [hr] at h
      dsimp only at h
      have h1 := List.find?_some hr
      simp only [Bool.and_eq_true, decide_eq_true_eq] at h1
      obtain ⟨h2, h3⟩ := hF.2.2.1 k r (List.mem_of_find?_eq_some hr)
      split at h
      · cases h
        exact ⟨h2, fun j h4 h5 => h3 j (by omega) (by omega)⟩
      · cases hq : gm_tyq (O.2.2.ty k) f (r.2.1 + 1) hi with
        | none => rw [hq] at h; cases h
        | some p =>
          rw [hq] at h
          dsimp only at h
          cases h
          obtain ⟨-, h6⟩ := ih _ _ _ hq
          refine ⟨h2, fun j h4 h5 => ?_⟩
          by_cases e : j ≤ r.2.1
          · obtain ⟨g1, g2, g3⟩ := h3 j (by omega) e
            refine ⟨g1, ?_, ?_⟩
            · dsimp only; split <;> omega
            · dsimp only; split <;> omega
          · obtain ⟨g1, g2, g3⟩ := h6 j (by omega) h5
            refine ⟨g1, ?_, ?_⟩
            · dsimp only; split <;> omega
            · dsimp only; split <;> omega
theorem gm_tyr_s {O : gm_Or} {n : Nat} {K : gm_K} {R : gm_R} {M : gm_M} {k : Nat} {lo hi : Int} {q : Int × Int} (hF : gm_Fx O n K R M) (h : gm_tyr O k lo hi = some q) : k ≤ n ∧ ∀ j, lo ≤ j → j ≤ hi → (-2147483648 ≤ M k j ∧ M k j < 2147483648) ∧ q.1 ≤ M k j ∧ M k j ≤ q.2 := gm_tyq_s hF _ _ _ _ h
noncomputable def gm_ir (x : Int) : Prop := -2147483648 ≤ x ∧ x < 2147483648
/-- a comparison of numbers that are ints -/
noncomputable def gm_cm : ClassFile.Cond → Int → Int → Prop
  | .eq, x, y => x = y
  | .ne, x, y => ¬ x = y
  | .lt, x, y => x < y
  | .ge, x, y => y ≤ x
  | .gt, x, y => y < x
  | .le, x, y => x ≤ y
theorem gm_ir_w {x : Int} (h : gm_ir x) : gm_w x = x := gm_w_id h.1 h.2
theorem gm_cm_w {c : ClassFile.Cond} {x y : Int} (hx : gm_ir x) (hy : gm_ir y) : gm_cmp c x y = gm_cm c x y := by
  cases c <;> simp only [gm_cmp, gm_cm, gm_ir_w hx, gm_ir_w hy]
noncomputable def gm_and (x y : Int) : Int := (Int32.ofInt x &&& Int32.ofInt y).toInt
noncomputable def gm_or (x y : Int) : Int := (Int32.ofInt x ||| Int32.ofInt y).toInt
noncomputable def gm_xor (x y : Int) : Int := (Int32.ofInt x ^^^ Int32.ofInt y).toInt
noncomputable def gm_shl (x y : Int) : Int := (Int32.ofInt x <<< (Int32.ofInt y &&& 31)).toInt
noncomputable def gm_shr (x y : Int) : Int := (Int32.ofInt x >>> (Int32.ofInt y &&& 31)).toInt
noncomputable def gm_ushr (x y : Int) : Int := ((Int32.ofInt x).toUInt32 >>> ((Int32.ofInt y).toUInt32 &&& Int32.toUInt32 31)).toInt32.toInt
noncomputable def gm_land (x y : Int) : Int := (Int64.ofInt x &&& Int64.ofInt y).toInt
noncomputable def gm_lor (x y : Int) : Int := (Int64.ofInt x ||| Int64.ofInt y).toInt
noncomputable def gm_lxor (x y : Int) : Int := (Int64.ofInt x ^^^ Int64.ofInt y).toInt
/-- is here a throw: the class, and nothing else -/
noncomputable def gm_isx (mi pc ix : Nat) : Option Nat := match gm_xlk (gm_ow mi) ix, gm_at mi (pc + 3), gm_at mi (pc + 4) with
  | some q, some .dup, some (.ldc is) => if (gm_sld (gm_ow mi) is).isSome = true ∧ gm_at mi (pc + 6) = some (.invokespecial q.2) ∧ gm_at mi (pc + 9) = some .athrow then some q.1 else none
  | some q, some .dup, some (.ldc_w is) => if (gm_sld (gm_ow mi) is).isSome = true ∧ gm_at mi (pc + 7) = some (.invokespecial q.2) ∧ gm_at mi (pc + 10) = some .athrow then some q.1 else none
  | _, _, _ => none
section GS2
variable {X : Int → Int} {LX d bc bs mi pc : Nat} {L : gm_L} {st : List gm_V} {n : Nat} {K : gm_K} {R : gm_R} {M : gm_M} {Q Q' : gm_Q}
theorem gm_Wp_mono (hQ : ∀ o n K R M, Q o n K R M → Q' o n K R M) (h : gm_Wp X LX d bc bs mi pc L st n K R M Q) : gm_Wp X LX d bc bs mi pc L st n K R M Q' := by
  intro p l e Rm s m args below meth c D ti adK adV A α0 n0 mc ms hcx hev hd hd2 hmc hms hA α H locs cells slots ls sv hxt hc1 hc2 hR hL hS T hT Xs
  obtain ⟨t, a1, o, b1, b2, b3⟩ := h p l e Rm s m args below meth c D ti adK adV A α0 n0 mc ms hcx hev hd hd2 hmc hms hA α H locs cells slots ls sv hxt hc1 hc2 hR hL hS T hT Xs
  refine ⟨t, a1, o, b1, b2, ?_⟩
  rcases b3 with ⟨⟨⟨v, u, α', n', K', R', M', e1, e2, e3, e4⟩, e5⟩, e6⟩ | ⟨q, rfl, E1, ce, L1, ⟨⟨x, α', n', K', R', M', e1, e2, e3, e4⟩, e5⟩, e6⟩
  · exact Or.inl ⟨⟨⟨v, u, α', n', K', R', M', e1, e2, hQ _ _ _ _ _ e3, e4⟩, e5⟩, e6⟩
  · exact Or.inr ⟨q, rfl, E1, ce, L1, ⟨⟨x, α', n', K', R', M', e1, e2, hQ _ _ _ _ _ e3, e4⟩, e5⟩, e6⟩
theorem gm_Wp_wk {d' bc' bs' : Nat} (hd : d' ≤ d) (h1 : bc' ≤ bc) (h2 : bs' ≤ bs) (h : gm_Wp X LX d' bc' bs' mi pc L st n K R M Q) : gm_Wp X LX d bc bs mi pc L st n K R M Q := by
  intro p l e Rm s m args below meth c D ti adK adV A α0 n0 mc ms hcx hev hd1 hd2 hmc hms hA α H locs cells slots ls sv hxt hc1 hc2 hR hL hS
  exact h p l e Rm s m args below meth c D ti adK adV A α0 n0 mc ms hcx hev (Nat.le_trans hd hd1) (Nat.le_trans (Nat.mul_le_mul_right 300 hd) hd2) hmc hms hA α H locs cells slots ls sv hxt (Nat.le_trans (Nat.add_le_add_left h1 _) hc1) (Nat.le_trans (Nat.add_le_add_left h2 _) hc2) hR hL hS
/-- cell 0 is no cell -/
theorem gm_wl_g {ti : Nat → ClassId} {α : Nat → Nat} {n : Nat} {K : gm_K} {R : gm_R} {M M' : gm_M} (h : ∀ c i, 1 ≤ c → M' c i = M c i) : gm_wl ti α n K R M' = gm_wl ti α n K R M := by
  refine gm_wl_ext (fun k h1 h2 => ⟨rfl, ?_⟩)
  have e : M' k = M k := funext fun i => h k i h1
  have e2 : gm_fs α R M' k = gm_fs α R M k := by
    funext c
    unfold gm_fs
    rw [e]
  unfold gm_en
  rw [e, e2]
theorem gm_Wp_g {M' : gm_M} (hM : ∀ c i, 1 ≤ c → M' c i = M c i) (h : gm_Wp X LX d bc bs mi pc L st n K R M' Q) : gm_Wp X LX d bc bs mi pc L st n K R M Q := by
  intro p l e Rm s m args below meth c D ti adK adV A α0 n0 mc ms hcx hev hd hd2 hmc hms hA α H locs cells slots ls sv hxt hc1 hc2 hR hL hS
  refine h p l e Rm s m args below meth c D ti adK adV A α0 n0 mc ms hcx hev hd hd2 hmc hms hA α H locs cells slots ls sv hxt hc1 hc2 ?_ hL hS
  unfold gm_Rl at hR ⊢
  rw [gm_wl_g hM]
  exact hR
theorem gm_cio_spec {i : Nat} (hi : i < 370) (h : gm_cio i < 12) : gm_cn (gm_cio i) = (gm_mn i).cls := by
  have := List.all_eq_true.mp gm_cio_ok i (List.mem_range.mpr (by omega))
  simp only [Bool.or_eq_true, Bool.and_eq_true, decide_eq_true_eq] at this
  rcases this with h1 | h1
  · omega
  · exact h1.2
theorem gm_isx_of {ix x : Nat} (h : gm_isx mi pc ix = some x) : ∃ (ic is id : Nat) (lw : Bool), gm_xlk (gm_ow mi) ix = some (x, ic) ∧ gm_at mi (pc + 3) = some .dup ∧ gm_at mi (pc + 4) = some (if lw = true then .ldc_w is else .ldc is) ∧ gm_at mi (pc + (if lw = true then 7 else 6)) = some (.invokespecial ic) ∧ gm_at mi (pc + (if lw = true then 10 else 9)) = some .athrow ∧ gm_sld (gm_ow mi) is = some id := by
  unfold gm_isx at h
  split at h
  · rename_i q is e1 e2 e3
    obtain ⟨q1, q2⟩ := q
    split at h
    · rename_i e4
      cases h
      obtain ⟨id, hid⟩ := Option.isSome_iff_exists.mp e4.1
      exact ⟨q2, is, id, false, e1, e2, e3, e4.2.1, e4.2.2, hid⟩
    · cases h
  · rename_i q is e1 e2 e3
    obtain ⟨q1, q2⟩ := q
    split at h
    · rename_i e4
      cases h
      obtain ⟨id, hid⟩ := Option.isSome_iff_exists.mp e4.1
      exact ⟨q2, is, id, true, e1, e2, e3, e4.2.1, e4.2.2, hid⟩
    · cases h
  · cases h
theorem gm_cn1 : gm_cn 1 = "GlacierMail$State" := by decide +kernel
end GS2
end
/-! 20.ck -/
section
/-! THE CHECKER: a method is explored over bounds of ints, with names; the heap is a list of facts; loops are cut where it is told. -/
noncomputable abbrev ck_I : Type := Int × Int × List (Nat × Int)
noncomputable abbrev ck_A : Type := ck_I ⊕ (ck_I ⊕ (Nat ⊕ Nat))
/-- where a number stands too: a local, a cell; it is more by so much -/
noncomputable abbrev ck_S : Type := Option ((Nat × Int) ⊕ ((Nat × Int × Int) ⊕ (Nat × Int × Nat × Int × Int)))
noncomputable abbrev ck_AL : Type := List (Option ck_A)
noncomputable abbrev ck_AS : Type := List (ck_A × ck_S)
/-- kinds and lengths; references; ints: cell, from, to, bounds -/
noncomputable abbrev ck_F : Type := List (Nat × Nat × Nat) × List (Nat × Int × Nat) × List (Nat × Int × Int × ck_I)
/-- how it ends (a throw, or a value or none), how many cells there are then, facts -/
noncomputable abbrev ck_Oc : Type := (Nat ⊕ Option ck_A) × Nat × ck_F
/-- frames, cells, slots; cells that are there; arguments; facts; what may be written: ints, references; ends -/
noncomputable abbrev ck_Sum : Type := (Nat × Nat × Nat) × Nat × List ck_A × ck_F × (List (Nat × Int × Int) × List (Nat × Int)) × List ck_Oc
/-- a cut: locals, facts, the name, its place, whether it grows -/
noncomputable abbrev ck_C : Type := ck_AL × ck_F × Nat × (Nat ⊕ (Nat × Int)) × Bool
/-- a cut on the way: place, what is known there, cells, slots, cells that are there -/
noncomputable abbrev ck_H : Type := Nat × ck_C × Nat × Nat × Nat
/-! meanings -/
noncomputable def ck_r6 (x : Int) : Prop := -9223372036854775808 ≤ x ∧ x < 9223372036854775808
/-- a name and an offset: the number itself; a name from 1000000 on: the number is not less -/
noncomputable def ck_g1 (σ : Nat → Int) (q : Nat × Int) (x : Int) : Prop := (q.1 < 1000000 → x = σ q.1 + q.2) ∧ (1000000 ≤ q.1 → σ (q.1 - 1000000) + q.2 ≤ x)
noncomputable def ck_gt (σ : Nat → Int) (t : List (Nat × Int)) (x : Int) : Prop := ∀ q, q ∈ t → ck_g1 σ q x
noncomputable def ck_gi (σ : Nat → Int) (a : ck_I) (x : Int) : Prop := a.1 ≤ x ∧ x ≤ a.2.1 ∧ ck_gt σ a.2.2 x
noncomputable def ck_ga (σ : Nat → Int) : ck_A → gm_V → Prop
  | .inl a, v => ∃ x, v = gm_vi x ∧ gm_ir x ∧ ck_gi σ a x
  | .inr (.inl a), v => ∃ x, v = gm_vl x ∧ ck_r6 x ∧ ck_gi σ a x
  | .inr (.inr (.inl k)), v => v = gm_vr k
  | .inr (.inr (.inr c)), v => v = gm_vo c
noncomputable def ck_gl (σ : Nat → Int) (AL : ck_AL) (L : gm_L) : Prop := AL.length = L.length ∧ ∀ (j : Nat) (b : ck_A), AL[j]? = some (some b) → ∃ u, L[j]? = some (some u) ∧ ck_ga σ b u
noncomputable def ck_gr (L : gm_L) (M : gm_M) : ck_S → gm_V → Prop
  | none, _ => True
  | some (.inl q), v => ∃ u, L[q.1]? = some (some u) ∧ (v = u ∧ q.2 = 0 ∨ ∃ y, u = gm_vi y ∧ v = gm_vi (y + q.2))
  | some (.inr (.inl q)), v => v = gm_vi (M q.1 q.2.1 + q.2.2)
  | some (.inr (.inr q)), v => v = gm_vi (M q.1 q.2.1 - M q.2.2.1 q.2.2.2.1 + q.2.2.2.2)
noncomputable def ck_gs (σ : Nat → Int) (L : gm_L) (M : gm_M) : ck_AS → List gm_V → Prop
  | [], st => st = []
  | a :: as, st => ∃ v vs, st = v :: vs ∧ (ck_ga σ a.1 v ∧ ck_gr L M a.2 v) ∧ ck_gs σ L M as vs
noncomputable def ck_gf (σ : Nat → Int) (F : ck_F) (n : Nat) (K : gm_K) (R : gm_R) (M : gm_M) : Prop :=
  (∀ q ∈ F.1, (1 ≤ q.1 ∧ q.1 ≤ n) ∧ K q.1 = q.2) ∧ (∀ q ∈ F.2.1, q.1 ≤ n ∧ R q.1 q.2.1 = q.2.2) ∧ ∀ q ∈ F.2.2, q.1 ≤ n ∧ ∀ j, q.2.1 ≤ j → j ≤ q.2.2.1 → gm_ir (M q.1 j) ∧ ck_gi σ q.2.2.2 (M q.1 j)
noncomputable def ck_fr (W : List (Nat × Int × Int) × List (Nat × Int)) (n0 : Nat) (K0 : gm_K) (R0 : gm_R) (M0 : gm_M) (n : Nat) (K : gm_K) (R : gm_R) (M : gm_M) : Prop :=
  n0 ≤ n ∧ (∀ k, k ≤ n0 → K k = K0 k) ∧ (∀ k j, k ≤ n0 → (∀ w ∈ W.1, ¬ (w.1 = k ∧ w.2.1 ≤ j ∧ j ≤ w.2.2)) → M k j = M0 k j) ∧ (∀ k j, k ≤ n0 → ¬ (k, j) ∈ W.2 → R k j = R0 k j)
/-! words of the checker -/
noncomputable def ck_top : ck_I := (-2147483648, 2147483647, [])
noncomputable def ck_tp6 : ck_I := (-9223372036854775808, 9223372036854775807, [])
noncomputable def ck_one (z : Int) : ck_I := (z, z, [])
noncomputable def ck_in (a : ck_I) : Bool := decide (-2147483648 ≤ a.1) && decide (a.2.1 ≤ 2147483647)
noncomputable def ck_nrm (a : ck_I) : ck_I := if ck_in a = true then a else ck_top
noncomputable def ck_sg (a : ck_I) : Bool := decide (a.1 = a.2.1)
noncomputable def ck_mv (t : List (Nat × Int)) (z : Int) : List (Nat × Int) := t.map fun q => (q.1, q.2 + z)
noncomputable def ck_cv : gm_V → ck_A
  | .inl x => .inl (ck_one x)
  | .inr (.inl x) => .inr (.inl (ck_one x))
  | .inr (.inr (.inl k)) => .inr (.inr (.inl k))
  | .inr (.inr (.inr c)) => .inr (.inr (.inr c))
noncomputable def ck_cvk : gm_V → Bool
  | .inl x => decide (-2147483648 ≤ x) && decide (x < 2147483648)
  | .inr (.inl x) => decide (-9223372036854775808 ≤ x) && decide (x < 9223372036854775808)
  | _ => true
noncomputable def ck_so : ck_A → Nat
  | .inl _ => 0
  | .inr (.inl _) => 1
  | .inr (.inr _) => 2
/-- two ints, first and second: bounds of the result -/
noncomputable def ck_aop : Instr → ck_I → ck_I → ck_I
  | .iadd, a, b => (a.1 + b.1, a.2.1 + b.2.1, if ck_sg b = true then ck_mv a.2.2 b.1 else if ck_sg a = true then ck_mv b.2.2 a.1 else [])
  | .isub, a, b => (a.1 - b.2.1, a.2.1 - b.1, if ck_sg b = true then ck_mv a.2.2 (- b.1) else [])
  | .imul, a, b => if 0 ≤ a.1 ∧ 0 ≤ b.1 then (a.1 * b.1, a.2.1 * b.2.1, []) else ck_top
  | .iand, a, b => if 0 ≤ b.1 then (0, b.2.1, []) else if 0 ≤ a.1 then (0, a.2.1, []) else ck_top
  | _, _, _ => ck_top
noncomputable def ck_bo (i : Instr) (f : Int → Int → Int) (a b : ck_I) : ck_I := if (ck_sg a && ck_sg b) = true then ck_one (gm_w (f a.1 b.1)) else ck_nrm (ck_aop i a b)
/-- no name s -/
noncomputable def ck_nI (s : Nat) (a : ck_I) : Bool := a.2.2.all fun q => !(q.1 == s) && !(q.1 == s + 1000000)
noncomputable def ck_nA (s : Nat) : ck_A → Bool
  | .inl a => ck_nI s a
  | .inr (.inl a) => ck_nI s a
  | _ => true
noncomputable def ck_nL (s : Nat) (AL : ck_AL) : Bool := AL.all fun a => match a with
  | some b => ck_nA s b
  | none => true
noncomputable def ck_nF (s : Nat) (F : ck_F) : Bool := F.2.2.all fun q => ck_nI s q.2.2.2
/-- what is known is enough -/
noncomputable def ck_im (t : List (Nat × Int)) (q : Nat × Int) : Bool := t.any fun p => (p.1 == q.1 && decide (p.2 = q.2)) || (decide (1000000 ≤ q.1) && (decide (q.2 ≤ p.2) && (p.1 == q.1 || (p.1 + 1000000 == q.1 && decide (p.1 < 1000000)))))
noncomputable def ck_leI (a b : ck_I) : Bool := fl_if (fl_le b.1 a.1) (fl_if (fl_le a.2.1 b.2.1) (fl_all b.2.2 (ck_im a.2.2)) false) false
theorem ck_leI_def {a b : ck_I} : ck_leI a b = (decide (b.1 ≤ a.1) && decide (a.2.1 ≤ b.2.1) && b.2.2.all (ck_im a.2.2)) := by
  simp only [ck_leI, fl_and, fl_or, fl_beq, fl_blt, fl_le_eq, fl_lt_eq, fl_ie_eq, fl_any_eq, fl_all_eq, fl_find_eq, fl_lk_eq, fl_nth_eq, Bool.and_assoc]
noncomputable def ck_ex (a : ck_I) : Bool := a.2.2.any fun p => decide (p.1 < 1000000)
noncomputable def ck_leA : ck_A → ck_A → Bool
  | .inl a, .inl b => ck_leI a b
  | .inr (.inl a), .inr (.inl b) => ck_leI a b
  | .inr (.inr (.inl k)), .inr (.inr (.inl j)) => k == j
  | .inr (.inr (.inr k)), .inr (.inr (.inr j)) => k == j
  | _, _ => false
noncomputable def ck_leL : ck_AL → ck_AL → Bool
  | [], [] => true
  | _ :: as, none :: bs => ck_leL as bs
  | some a :: as, some b :: bs => ck_leA a b && ck_leL as bs
  | _, _ => false
noncomputable def ck_fi (F : ck_F) (k : Nat) (lo hi : Int) : Option ck_I := (fl_find F.2.2 fun q => fl_if (Nat.beq q.1 k) (fl_if (fl_le q.2.1 lo) (fl_le hi q.2.2.1) false) false).map fun q => q.2.2.2
theorem ck_fi_def {F : ck_F} {k : Nat} {lo hi : Int} : ck_fi F k lo hi = (F.2.2.find? fun q => q.1 == k && (decide (q.2.1 ≤ lo) && decide (hi ≤ q.2.2.1))).map fun q => q.2.2.2 := by
  simp only [ck_fi, fl_and, fl_or, fl_beq, fl_blt, fl_le_eq, fl_lt_eq, fl_ie_eq, fl_any_eq, fl_all_eq, fl_find_eq, fl_lk_eq, fl_nth_eq]
noncomputable def ck_fR (O : gm_Or) (F : ck_F) (k : Nat) (j : Int) : Option Nat := match O.2.1 k j with
  | some r => some r
  | none => (fl_find F.2.1 fun q => fl_if (Nat.beq q.1 k) (fl_ie q.2.1 j) false).map fun q => q.2.2
theorem ck_fR_def {O : gm_Or} {F : ck_F} {k : Nat} {j : Int} : ck_fR O F k j = match O.2.1 k j with
  | some r => some r
  | none => (F.2.1.find? fun q => q.1 == k && decide (q.2.1 = j)).map fun q => q.2.2 := by
  simp only [ck_fR, fl_and, fl_or, fl_beq, fl_blt, fl_le_eq, fl_lt_eq, fl_ie_eq, fl_any_eq, fl_all_eq, fl_find_eq, fl_lk_eq, fl_nth_eq]
noncomputable def ck_kd (O : gm_Or) (F : ck_F) (k : Nat) : Option (Nat × Nat) := match O.1 k with
  | some q => some q
  | none => (fl_find F.1 fun q => Nat.beq q.1 k).map fun q => q.2
theorem ck_kd_def {O : gm_Or} {F : ck_F} {k : Nat} : ck_kd O F k = match O.1 k with
  | some q => some q
  | none => (F.1.find? fun q => q.1 == k).map fun q => q.2 := by
  simp only [ck_kd, fl_and, fl_or, fl_beq, fl_blt, fl_le_eq, fl_lt_eq, fl_ie_eq, fl_any_eq, fl_all_eq, fl_find_eq, fl_lk_eq, fl_nth_eq]
/-- a fact, or else what the types say -/
noncomputable def ck_rd (O : gm_Or) (F : ck_F) (k : Nat) (lo hi : Int) : Option ck_I := match ck_fi F k lo hi with
  | some a => some a
  | none => (match gm_tyr O k lo hi with
    | some t => some (t.1, t.2, [])
    | none => none)
/-- a row of cells, piece by piece -/
noncomputable def ck_pcs (F : ck_F) (k : Nat) (b : ck_I) : Nat → Int → Int → Bool
  | 0, lo, hi => decide (hi < lo)
  | f + 1, lo, hi => decide (hi < lo) || (match fl_find F.2.2 fun q => fl_if (Nat.beq q.1 k) (fl_if (fl_le q.2.1 lo) (fl_le lo q.2.2.1) false) false with
    | some q => ck_leI q.2.2.2 b && ck_pcs F k b f (q.2.2.1 + 1) hi
    | none => false)
noncomputable def ck_leF (O : gm_Or) (F G : ck_F) : Bool := fl_if (fl_all G.1 fun q => match ck_kd O F q.1 with
    | some p => p.1 == q.2.1 && p.2 == q.2.2
    | none => false) (fl_if (fl_all G.2.1 fun q => match ck_fR O F q.1 q.2.1 with
    | some r => r == q.2.2
    | none => false) (fl_all G.2.2 fun q => (match ck_rd O F q.1 q.2.1 q.2.2.1 with
    | some a => ck_leI a q.2.2.2
    | none => false) || (decide (q.2.1 ≤ q.2.2.1) && ck_pcs F q.1 q.2.2.2 40 q.2.1 q.2.2.1)) false) false
theorem ck_leF_def {O : gm_Or} {F G : ck_F} : ck_leF O F G = ((G.1.all fun q => match ck_kd O F q.1 with
    | some p => p.1 == q.2.1 && p.2 == q.2.2
    | none => false) && ((G.2.1.all fun q => match ck_fR O F q.1 q.2.1 with
    | some r => r == q.2.2
    | none => false) && G.2.2.all fun q => (match ck_rd O F q.1 q.2.1 q.2.2.1 with
    | some a => ck_leI a q.2.2.2
    | none => false) || (decide (q.2.1 ≤ q.2.2.1) && ck_pcs F q.1 q.2.2.2 40 q.2.1 q.2.2.1))) := by
  unfold ck_leF
  rw [fl_and, fl_and, fl_all_eq, fl_all_eq, fl_all_eq]
noncomputable def ck_jn (a b : ck_I) : ck_I := (if a.1 ≤ b.1 then a.1 else b.1, if a.2.1 ≤ b.2.1 then b.2.1 else a.2.1, a.2.2.filter (ck_im b.2.2))
/-- an int is written into cell k, at a place from lo to hi -/
noncomputable def ck_cut (lo hi : Int) (a : ck_I) (q : Nat × Int × Int × ck_I) : List (Nat × Int × Int × ck_I) := if lo = hi then (if q.2.1 < lo then [(q.1, q.2.1, lo - 1, q.2.2.2)] else []) ++ (if lo < q.2.2.1 then [(q.1, lo + 1, q.2.2.1, q.2.2.2)] else []) else [(q.1, q.2.1, q.2.2.1, ck_jn q.2.2.2 a)]
noncomputable def fl_up (k : Nat) (lo hi : Int) (a : ck_I) (l : List (Nat × Int × Int × ck_I)) : List (Nat × Int × Int × ck_I) := @List.rec _ (fun _ => List (Nat × Int × Int × ck_I)) [] (fun q _ ih => fl_if (fl_if (Nat.beq q.1 k) (fl_if (fl_le q.2.1 hi) (fl_le lo q.2.2.1) false) false) (ck_cut lo hi a q ++ ih) (q :: ih)) l
theorem fl_up_eq {k : Nat} {lo hi : Int} {a : ck_I} {l : List (Nat × Int × Int × ck_I)} : fl_up k lo hi a l = l.flatMap fun q => if q.1 = k ∧ q.2.1 ≤ hi ∧ lo ≤ q.2.2.1 then ck_cut lo hi a q else [q] := by
  induction l with
  | nil => rfl
  | cons q l ih =>
    rw [List.flatMap_cons, ← ih]
    show fl_if (fl_if (Nat.beq q.1 k) (fl_if (fl_le q.2.1 hi) (fl_le lo q.2.2.1) false) false) (ck_cut lo hi a q ++ fl_up k lo hi a l) (q :: fl_up k lo hi a l) = _
    rw [fl_and, fl_and, fl_beq, fl_le_eq, fl_le_eq]
    by_cases h : q.1 = k ∧ q.2.1 ≤ hi ∧ lo ≤ q.2.2.1
    · rw [if_pos h, show (q.1 == k && (decide (q.2.1 ≤ hi) && decide (lo ≤ q.2.2.1))) = true by simp [h.1, h.2.1, h.2.2]]; rfl
    · rw [if_neg h, show (q.1 == k && (decide (q.2.1 ≤ hi) && decide (lo ≤ q.2.2.1))) = false by
        rw [Bool.eq_false_iff]; intro h2; simp only [Bool.and_eq_true, beq_iff_eq, decide_eq_true_eq] at h2; exact h h2]; rfl
noncomputable def ck_up (F : ck_F) (k : Nat) (lo hi : Int) (a : ck_I) : ck_F := (F.1, F.2.1, (if lo = hi then [(k, lo, lo, a)] else []) ++ fl_up k lo hi a F.2.2)
theorem ck_up_def {F : ck_F} {k : Nat} {lo hi : Int} {a : ck_I} : ck_up F k lo hi a = (F.1, F.2.1, (if lo = hi then [(k, lo, lo, a)] else []) ++ F.2.2.flatMap fun q => if q.1 = k ∧ q.2.1 ≤ hi ∧ lo ≤ q.2.2.1 then ck_cut lo hi a q else [q]) := by
  unfold ck_up
  rw [fl_up_eq]
/-- as ck_up; a write that says no more than the type leaves no fact -/
noncomputable def ck_upc (O : gm_Or) (k : Nat) (lo hi : Int) (a : ck_I) : Bool := decide (lo = hi) && (a.2.2.isEmpty && (match gm_tyr O k lo lo with
  | some t => decide (t.1 = a.1) && decide (t.2 = a.2.1)
  | none => false))
noncomputable def ck_upT (O : gm_Or) (F : ck_F) (k : Nat) (lo hi : Int) (a : ck_I) : ck_F := if ck_upc O k lo hi a = true then (F.1, F.2.1, (ck_up F k lo hi a).2.2.drop 1) else ck_up F k lo hi a
noncomputable def ck_upR (F : ck_F) (k : Nat) (j : Int) (r : Nat) : ck_F := (F.1, (k, j, r) :: F.2.1.filter (fun q => !(q.1 == k && decide (q.2.1 = j))), F.2.2)
/-- may it be written -/
noncomputable def ck_okW (W : List (Nat × Int × Int)) (n0 k : Nat) (lo hi : Int) : Bool := fl_if (Nat.ble (Nat.succ n0) k) true (fl_any W fun w => fl_if (Nat.beq w.1 k) (fl_if (fl_le w.2.1 lo) (fl_le hi w.2.2) false) false)
theorem ck_okW_def {W : List (Nat × Int × Int)} {n0 k : Nat} {lo hi : Int} : ck_okW W n0 k lo hi = (decide (n0 < k) || W.any fun w => w.1 == k && (decide (w.2.1 ≤ lo) && decide (hi ≤ w.2.2))) := by
  simp only [ck_okW, fl_and, fl_or, fl_beq, fl_blt, fl_le_eq, fl_lt_eq, fl_ie_eq, fl_any_eq, fl_all_eq, fl_find_eq, fl_lk_eq, fl_nth_eq]
noncomputable def ck_okR (W : List (Nat × Int)) (n0 k : Nat) (j : Int) : Bool := fl_if (Nat.ble (Nat.succ n0) k) true (fl_any W fun w => fl_if (Nat.beq w.1 k) (fl_ie w.2 j) false)
theorem ck_okR_def {W : List (Nat × Int)} {n0 k : Nat} {j : Int} : ck_okR W n0 k j = (decide (n0 < k) || W.any fun w => w.1 == k && decide (w.2 = j)) := by
  simp only [ck_okR, fl_and, fl_or, fl_beq, fl_blt, fl_le_eq, fl_lt_eq, fl_ie_eq, fl_any_eq, fl_all_eq, fl_find_eq, fl_lk_eq, fl_nth_eq]
noncomputable def ck_lc (L : ck_AL) : Nat → ck_AL
  | 0 => L
  | i + 1 => match L[i]? with
    | some (some (.inr (.inl _))) => L.set i none
    | _ => L
noncomputable def ck_lst (L : ck_AL) (j : Nat) (v : ck_A) : ck_AL := match v with
  | .inr (.inl _) => ((ck_lc L j).set j (some v)).set (j + 1) none
  | _ => (ck_lc L j).set j (some v)
/-- the stack without what it says of locals, of the heap -/
noncomputable def ck_sl (AS : ck_AS) : ck_AS := AS.map fun q => (q.1, match q.2 with
  | some (.inl _) => none
  | s => s)
noncomputable def ck_sh (AS : ck_AS) : ck_AS := AS.map fun q => (q.1, match q.2 with
  | some (.inr _) => none
  | s => s)
/-- a stands to b as c says: what of a is left -/
noncomputable def ck_rf (c : ClassFile.Cond) (a b : ck_I) : ck_I := match c with
  | .lt => (a.1, if a.2.1 ≤ b.2.1 - 1 then a.2.1 else b.2.1 - 1, a.2.2)
  | .le => (a.1, if a.2.1 ≤ b.2.1 then a.2.1 else b.2.1, a.2.2)
  | .gt => (if b.1 + 1 ≤ a.1 then a.1 else b.1 + 1, a.2.1, a.2.2)
  | .ge => (if b.1 ≤ a.1 then a.1 else b.1, a.2.1, a.2.2)
  | .eq => (if b.1 ≤ a.1 then a.1 else b.1, if a.2.1 ≤ b.2.1 then a.2.1 else b.2.1, a.2.2)
  | .ne => if b.1 = b.2.1 then (if a.1 = b.1 then (a.1 + 1, a.2.1, a.2.2) else if a.2.1 = b.1 then (a.1, a.2.1 - 1, a.2.2) else a) else a
noncomputable def ck_ng : ClassFile.Cond → ClassFile.Cond
  | .lt => .ge
  | .ge => .lt
  | .gt => .le
  | .le => .gt
  | .eq => .ne
  | .ne => .eq
noncomputable def ck_sw : ClassFile.Cond → ClassFile.Cond
  | .lt => .gt
  | .gt => .lt
  | .le => .ge
  | .ge => .le
  | .eq => .eq
  | .ne => .ne
noncomputable def ck_no (a : ck_I) : Bool := decide (a.2.1 < a.1)
noncomputable def ck_rL (s : ck_S) (a : ck_I) (AL : ck_AL) : ck_AL := match s with
  | some (.inl q) => (match AL[q.1]? with
    | some (some (.inl b)) => AL.set q.1 (some (.inl (if b.1 ≤ a.1 - q.2 then a.1 - q.2 else b.1, if a.2.1 - q.2 ≤ b.2.1 then a.2.1 - q.2 else b.2.1, b.2.2)))
    | _ => AL)
  | _ => AL
noncomputable def ck_rF (s : ck_S) (a a0 : ck_I) (F : ck_F) : ck_F := match s with
  | some (.inr (.inl q)) => (match ck_fi F q.1 q.2.1 q.2.1 with
    | some b => if ¬ (a.1 = a0.1 ∧ a.2.1 = a0.2.1) then (F.1, F.2.1, (q.1, q.2.1, q.2.1, (if b.1 ≤ a.1 - q.2.2 then a.1 - q.2.2 else b.1, if a.2.1 - q.2.2 ≤ b.2.1 then a.2.1 - q.2.2 else b.2.1, b.2.2)) :: F.2.2) else F
    | none => F)
  | some (.inr (.inr q)) => (match ck_fi F q.1 q.2.1 q.2.1, ck_fi F q.2.2.1 q.2.2.2.1 q.2.2.2.1 with
    | some b, some c => if ¬ (a.1 = a0.1 ∧ a.2.1 = a0.2.1) then (F.1, F.2.1, (q.1, q.2.1, q.2.1, (if b.1 ≤ c.1 + a.1 - q.2.2.2.2 then c.1 + a.1 - q.2.2.2.2 else b.1, if c.2.1 + a.2.1 - q.2.2.2.2 ≤ b.2.1 then c.2.1 + a.2.1 - q.2.2.2.2 else b.2.1, b.2.2)) :: (q.2.2.1, q.2.2.2.1, q.2.2.2.1, (if c.1 ≤ b.1 - a.2.1 + q.2.2.2.2 then b.1 - a.2.1 + q.2.2.2.2 else c.1, if b.2.1 - a.1 + q.2.2.2.2 ≤ c.2.1 then b.2.1 - a.1 + q.2.2.2.2 else c.2.1, c.2.2)) :: F.2.2) else F
    | _, _ => F)
  | _ => F
/-- a constant more -/
noncomputable def ck_sm (s : ck_S) (z : Int) : ck_S := match s with
  | some (.inl q) => some (.inl (q.1, q.2 + z))
  | some (.inr (.inl q)) => some (.inr (.inl (q.1, q.2.1, q.2.2 + z)))
  | some (.inr (.inr q)) => some (.inr (.inr (q.1, q.2.1, q.2.2.1, q.2.2.2.1, q.2.2.2.2 + z)))
  | none => none
noncomputable def ck_sb (i : Instr) (a : ck_I) (s : ck_S) (b : ck_I) (t : ck_S) : ck_S := match i with
  | .iadd => if (ck_sg b && ck_in (a.1 + b.1, a.2.1 + b.1, [])) = true then ck_sm s b.1 else if (ck_sg a && ck_in (b.1 + a.1, b.2.1 + a.1, [])) = true then ck_sm t a.1 else none
  | .isub => if (ck_sg b && ck_in (a.1 - b.1, a.2.1 - b.1, [])) = true then ck_sm s (- b.1) else if ck_in (a.1 - b.2.1, a.2.1 - b.1, []) = true then (match s, t with
    | some (.inr (.inl p)), some (.inr (.inl q)) => some (.inr (.inr (p.1, p.2.1, q.1, q.2.1, p.2.2 - q.2.2)))
    | _, _ => none) else none
  | _ => none
/-- a name's number lies between lo and hi: so do all that have the name -/
noncomputable def ck_tg (nm : Nat) (lo hi : Int) (b : ck_I) : ck_I := match b.2.2.find? fun q => q.1 == nm with
  | some q => (if b.1 ≤ lo + q.2 then lo + q.2 else b.1, if hi + q.2 ≤ b.2.1 then hi + q.2 else b.2.1, b.2.2)
  | none => b
noncomputable def ck_tgA (nm : Nat) (lo hi : Int) : ck_A → ck_A
  | .inl a => .inl (ck_tg nm lo hi a)
  | x => x
noncomputable def ck_tgL (nm : Nat) (lo hi : Int) (AL : ck_AL) : ck_AL := AL.map fun a => match a with
  | some b => some (ck_tgA nm lo hi b)
  | none => none
noncomputable def ck_tgF (nm : Nat) (lo hi : Int) (F : ck_F) : ck_F := (F.1, F.2.1, F.2.2.map fun q => (q.1, q.2.1, q.2.2.1, ck_tg nm lo hi q.2.2.2))
noncomputable def ck_ptL (lo hi : Int) : List (Nat × Int) → ck_AL → ck_AL
  | [], AL => AL
  | q :: l, AL => ck_ptL lo hi l (if q.1 < 100 then ck_tgL q.1 (lo - q.2) (hi - q.2) AL else AL)
noncomputable def ck_ptF (lo hi : Int) : List (Nat × Int) → ck_F → ck_F
  | [], F => F
  | q :: l, F => ck_ptF lo hi l (if q.1 < 100 then ck_tgF q.1 (lo - q.2) (hi - q.2) F else F)
noncomputable def ck_eqb (a b : ck_I) : Bool := decide (a.1 = b.1) && decide (a.2.1 = b.2.1)
noncomputable def ck_qL (a a0 : ck_I) (AL : ck_AL) : ck_AL := cond (ck_eqb a a0) AL (ck_ptL a.1 a.2.1 a0.2.2 AL)
noncomputable def ck_qF (a a0 : ck_I) (F : ck_F) : ck_F := cond (ck_eqb a a0) F (ck_ptF a.1 a.2.1 a0.2.2 F)
/-- how far it is: what goes on less where it began -/
noncomputable def ck_lks (O : gm_Or) (s : ck_S) : ck_S := match O.2.2.gh with
  | none => s
  | some g => (match s with
    | some (.inr (.inr q)) => cond (q.1 == g.1 && (q.2.2.1 == g.1 && (decide (q.2.1 = g.2.1) && decide (q.2.2.2.1 = g.2.2)))) (some (.inr (.inl (0, 4, q.2.2.2.2)))) s
    | _ => s)
/-- the one and the other stand to one another as how far it is stands to 0 -/
noncomputable def ck_lkp (O : gm_Or) (F : ck_F) (s t : ck_S) : Option ck_I := match O.2.2.gh with
  | none => none
  | some g => (match s, t with
    | some (.inr (.inl p)), some (.inr (.inl q)) => cond ((p.1 == g.1 && (q.1 == g.1 && (decide (p.2.1 = g.2.1) && decide (q.2.1 = g.2.2)))) && (decide (p.2.2 = 0) && decide (q.2.2 = 0))) (ck_fi F 0 4 4) none
    | _, _ => none)
/-- tags of a number that is more by w -/
noncomputable def ck_ltg (w : ck_I) (z : Int) (t : List (Nat × Int)) : List (Nat × Int) := cond (ck_sg w) (ck_mv t (w.1 + z)) (t.map fun q => (if q.1 < 1000000 then q.1 + 1000000 else q.1, q.2 + (w.1 + z)))
noncomputable def ck_mn (x y : Int) : Int := if x ≤ y then x else y
noncomputable def ck_mx (x y : Int) : Int := if x ≤ y then y else x
/-- a write of one of the two: how far it is then, where it began then, both -/
noncomputable def ck_gp (O : gm_Or) (F : ck_F) (r : Nat) (j : Int) (s : ck_S) (a : ck_I) : Option (ck_I × ck_I × ck_I) := match O.2.2.gh with
  | none => none
  | some g => (match s with
    | some (.inr (.inl q)) => cond (r == g.1 && q.1 == g.1) (match ck_fi F 0 4 4, ck_fi F 0 3 3, ck_fi F 0 5 5, gm_tyr O g.1 g.2.2 g.2.2 with
      | some w, some e, some f, some t => if j = g.2.1 then (if q.2.1 = g.2.1 then some ((w.1 + q.2.2, ck_mn (w.2.1 + q.2.2) (a.2.1 - t.1), ck_mv w.2.2 q.2.2), e, (f.1 + q.2.2, ck_mn (f.2.1 + q.2.2) a.2.1, ck_mv f.2.2 q.2.2)) else if q.2.1 = g.2.2 then some (ck_one q.2.2, e, (e.1 + q.2.2, ck_mn (e.2.1 + q.2.2) a.2.1, ck_mv e.2.2 q.2.2)) else none) else if j = g.2.2 then (if q.2.1 = g.2.1 then some (ck_one (- q.2.2), (f.1 + q.2.2, ck_mn (f.2.1 + q.2.2) a.2.1, ck_mv f.2.2 q.2.2), f) else none) else none
      | _, _, _, _ => none) none
    | _ => none)
noncomputable def ck_gF (F : ck_F) (r : Nat) (j : Int) (a : ck_I) (g : ck_I × ck_I × ck_I) : ck_F := ck_up (ck_up (ck_up (ck_up F r j j a) 0 4 4 g.1) 0 3 3 g.2.1) 0 5 5 g.2.2
/-- how far it is is known: so are both together -/
noncomputable def ck_rE (O : gm_Or) (F : ck_F) : ck_F := match O.2.2.gh with
  | none => F
  | some g => (match ck_fi F 0 3 3, ck_fi F 0 4 4, ck_fi F 0 5 5, ck_rd O F g.1 g.2.1 g.2.1, ck_rd O F g.1 g.2.2 g.2.2 with
    | some e, some w, some f, some p, some b => if 0 ≤ w.1 then (F.1, F.2.1, (0, 5, 5, (ck_mx f.1 (e.1 + w.1), ck_mn f.2.1 (e.2.1 + w.2.1), f.2.2 ++ (ck_ltg w 0 e.2.2).filter fun q => !ck_im f.2.2 q)) :: (g.1, g.2.2, g.2.2, (ck_mx b.1 (p.1 - w.2.1), ck_mn b.2.1 (p.2.1 - w.1), b.2.2)) :: F.2.2) else F
    | _, _, _, _, _ => F)
/-- one way of a branch: x stands to y as c says -/
noncomputable def ck_br (c : ClassFile.Cond) (a : ck_I) (s : ck_S) (b : ck_I) (t : ck_S) (AL : ck_AL) (F : ck_F) (k : ck_AL → ck_F → Bool) : Bool :=
  if (ck_no (ck_rf c a b) || ck_no (ck_rf (ck_sw c) b a)) = true then true
  else k (ck_qL (ck_rf (ck_sw c) b a) b (ck_qL (ck_rf c a b) a (ck_rL t (ck_rf (ck_sw c) b a) (ck_rL s (ck_rf c a b) AL)))) (ck_qF (ck_rf (ck_sw c) b a) b (ck_qF (ck_rf c a b) a (ck_rF t (ck_rf (ck_sw c) b a) b (ck_rF s (ck_rf c a b) a F))))
noncomputable def ck_swk (a : ck_I) (s : ck_S) (AL : ck_AL) (F : ck_F) (pc : Nat) (k : Nat → ck_AL → ck_F → Bool) : List Int → Int → Bool
  | [], _ => true
  | o :: os, v => ck_br .eq a s (ck_one v) none AL F (k (gm_tgt pc o)) && ck_swk a s AL F pc k os (v + 1)
/-- only names below 100: they mean the same from the first to the last -/
noncomputable def ck_tI (a : ck_I) : Bool := fl_all a.2.2 fun q => decide (q.1 < 100) || (decide (1000000 ≤ q.1) && decide (q.1 < 1000100))
theorem ck_tI_def {a : ck_I} : ck_tI a = a.2.2.all fun q => decide (q.1 < 100) || (decide (1000000 ≤ q.1) && decide (q.1 < 1000100)) := by
  unfold ck_tI
  rw [fl_all_eq]
noncomputable def ck_tA : ck_A → Bool
  | .inl a => ck_tI a
  | .inr (.inl a) => ck_tI a
  | _ => true
noncomputable def ck_tF (F : ck_F) : Bool := fl_all F.2.2 fun q => ck_tI q.2.2.2
theorem ck_tF_def {F : ck_F} : ck_tF F = F.2.2.all fun q => ck_tI q.2.2.2 := by
  unfold ck_tF
  rw [fl_all_eq]
noncomputable def ck_leO : (Nat ⊕ Option ck_A) → (Nat ⊕ Option ck_A) → Bool
  | .inl x, .inl y => x == y
  | .inr none, .inr none => true
  | .inr (some a), .inr (some b) => ck_leA a b && ck_tA b
  | _, _ => false
noncomputable def ck_end (O : gm_Or) (outs : List ck_Oc) (how : Nat ⊕ Option ck_A) (n : Nat) (F : ck_F) : Bool := fl_any outs fun oc => ck_leO how oc.1 && (n == oc.2.1 && (ck_leF O F oc.2.2 && ck_tF oc.2.2))
theorem ck_end_def {O : gm_Or} {outs : List ck_Oc} {how : Nat ⊕ Option ck_A} {n : Nat} {F : ck_F} : ck_end O outs how n F = outs.any fun oc => ck_leO how oc.1 && (n == oc.2.1 && (ck_leF O F oc.2.2 && ck_tF oc.2.2)) := by
  unfold ck_end
  rw [fl_any_eq]
/-- a callee's throw: at the handler, or to the end -/
noncomputable def ck_thr (O : gm_Or) (outs : List ck_Oc) (mi pc x n : Nat) (F : ck_F) (k : Nat → Bool) : Bool := match gm_hit (gm_ow mi) pc x false (gm_hh mi) with
  | some (some h) => k h
  | some none => ck_end O outs (.inl x) n F
  | none => false
noncomputable def ck_leAs : List ck_A → List ck_A → Bool
  | [], [] => true
  | a :: as, b :: bs => ck_leA a b && ck_leAs as bs
  | _, _ => false
/-- a fact without what was written -/
noncomputable def ck_cw (w : Nat × Int × Int) (q : Nat × Int × Int × ck_I) : List (Nat × Int × Int × ck_I) := if q.1 = w.1 ∧ w.2.1 ≤ q.2.2.1 ∧ q.2.1 ≤ w.2.2 then (if q.2.1 < w.2.1 then [(q.1, q.2.1, w.2.1 - 1, q.2.2.2)] else []) ++ (if w.2.2 < q.2.2.1 then [(q.1, w.2.2 + 1, q.2.2.1, q.2.2.2)] else []) else [q]
noncomputable def fl_cw (w : Nat × Int × Int) (l : List (Nat × Int × Int × ck_I)) : List (Nat × Int × Int × ck_I) := @List.rec _ (fun _ => List (Nat × Int × Int × ck_I)) [] (fun q _ ih => fl_if (fl_if (Nat.beq q.1 w.1) (fl_if (fl_le w.2.1 q.2.2.1) (fl_le q.2.1 w.2.2) false) false) (ck_cw w q ++ ih) (q :: ih)) l
theorem fl_cw_eq {w : Nat × Int × Int} {l : List (Nat × Int × Int × ck_I)} : fl_cw w l = l.flatMap (ck_cw w) := by
  induction l with
  | nil => rfl
  | cons q l ih =>
    rw [List.flatMap_cons, ← ih]
    show fl_if (fl_if (Nat.beq q.1 w.1) (fl_if (fl_le w.2.1 q.2.2.1) (fl_le q.2.1 w.2.2) false) false) (ck_cw w q ++ fl_cw w l) (q :: fl_cw w l) = _
    rw [fl_and, fl_and, fl_beq, fl_le_eq, fl_le_eq]
    by_cases h : q.1 = w.1 ∧ w.2.1 ≤ q.2.2.1 ∧ q.2.1 ≤ w.2.2
    · rw [show (q.1 == w.1 && (decide (w.2.1 ≤ q.2.2.1) && decide (q.2.1 ≤ w.2.2))) = true by simp [h.1, h.2.1, h.2.2]]; rfl
    · rw [show (q.1 == w.1 && (decide (w.2.1 ≤ q.2.2.1) && decide (q.2.1 ≤ w.2.2))) = false by
        rw [Bool.eq_false_iff]; intro h2; simp only [Bool.and_eq_true, beq_iff_eq, decide_eq_true_eq] at h2; exact h h2]
      show q :: fl_cw w l = ck_cw w q ++ fl_cw w l
      unfold ck_cw
      rw [if_neg h]
      rfl
noncomputable def ck_cws (ws : List (Nat × Int × Int)) : List (Nat × Int × Int × ck_I) → List (Nat × Int × Int × ck_I) := @List.rec _ (fun _ => List (Nat × Int × Int × ck_I) → List (Nat × Int × Int × ck_I)) (fun l => l) (fun w _ ih l => ih (fl_cw w l)) ws
noncomputable def ck_mix (n : Nat) (F : ck_F) (W : List (Nat × Int × Int) × List (Nat × Int)) (G : ck_F) : ck_F :=
  (G.1 ++ F.1, G.2.1 ++ F.2.1.filter (fun q => decide (q.1 ≤ n) && !(W.2.any fun w => w.1 == q.1 && decide (w.2 = q.2.1))), G.2.2 ++ ck_cws W.1 F.2.2)
/-- a value without tags -/
noncomputable def ck_nt (a : ck_I) : Bool := a.2.2.isEmpty
noncomputable def ck_ntA : ck_A → Bool
  | .inl a => ck_nt a
  | .inr (.inl a) => ck_nt a
  | _ => true
/-- a fact at a call: without tags, or the name of its own cell -/
noncomputable def ck_own (O : gm_Or) (q : Nat × Int × Int × ck_I) : Bool := q.2.2.2.2.2.all fun t => decide (q.2.1 = q.2.2.1) && (decide (t.2 = 0) && (decide (t.1 < 1000000) && (match O.2.2.nm.find? fun p => p.1 == t.1 with
  | some p => p.2.1 == q.1 && decide (p.2.2 = q.2.1)
  | none => false)))
noncomputable def ck_cl (G : ck_F) : ck_F := (G.1, G.2.1, G.2.2.map fun q => (q.1, q.2.1, q.2.2.1, (q.2.2.2.1, q.2.2.2.2.1, [])))
noncomputable def ck_pick (O : gm_Or) (n : Nat) (F : ck_F) (as : List ck_A) (l : List ck_Sum) : Option ck_Sum := fl_find l fun S => fl_if (Nat.beq S.2.1 n) (fl_if (ck_leAs as S.2.2.1) (S.2.2.1.all ck_ntA && (ck_leF O F (ck_cl S.2.2.2.1) && fl_all S.2.2.2.1.2.2 (ck_own O))) false) false
theorem ck_pick_def {O : gm_Or} {n : Nat} {F : ck_F} {as : List ck_A} {l : List ck_Sum} : ck_pick O n F as l = l.find? fun S => S.2.1 == n && (ck_leAs as S.2.2.1 && (S.2.2.1.all ck_ntA && (ck_leF O F (ck_cl S.2.2.2.1) && S.2.2.2.1.2.2.all (ck_own O)))) := by
  simp only [ck_pick, fl_and, fl_or, fl_beq, fl_blt, fl_le_eq, fl_lt_eq, fl_ie_eq, fl_any_eq, fl_all_eq, fl_find_eq, fl_lk_eq, fl_nth_eq]
/-- what a tag of the callee says here -/
noncomputable def ck_r1 (O : gm_Or) (F : ck_F) (q : Nat × Int) : List (Nat × Int) := match O.2.2.nm.find? fun p => p.1 == (if q.1 < 1000000 then q.1 else q.1 - 1000000) with
  | some p => (match ck_rd O F p.2.1 p.2.2 p.2.2 with
    | some b => b.2.2.map fun t => (if q.1 < 1000000 then t.1 else if t.1 < 1000000 then t.1 + 1000000 else t.1, t.2 + q.2)
    | none => [])
  | none => []
noncomputable def ck_rlo (O : gm_Or) (F : ck_F) : List (Nat × Int) → Int → Int
  | [], x => x
  | q :: l, x => ck_rlo O F l (match O.2.2.nm.find? fun p => p.1 == (if q.1 < 1000000 then q.1 else q.1 - 1000000) with
    | some p => (match ck_rd O F p.2.1 p.2.2 p.2.2 with
      | some b => if x ≤ b.1 + q.2 then b.1 + q.2 else x
      | none => x)
    | none => x)
noncomputable def ck_rhi (O : gm_Or) (F : ck_F) : List (Nat × Int) → Int → Int
  | [], x => x
  | q :: l, x => ck_rhi O F l (if q.1 < 1000000 then (match O.2.2.nm.find? fun p => p.1 == q.1 with
    | some p => (match ck_rd O F p.2.1 p.2.2 p.2.2 with
      | some b => if b.2.1 + q.2 ≤ x then b.2.1 + q.2 else x
      | none => x)
    | none => x) else x)
noncomputable def ck_rI (O : gm_Or) (F : ck_F) (a : ck_I) : ck_I := match a.2.2 with
  | [] => a
  | _ => (ck_rlo O F a.2.2 a.1, ck_rhi O F a.2.2 a.2.1, a.2.2.flatMap (ck_r1 O F))
noncomputable def ck_rA (O : gm_Or) (F : ck_F) : ck_A → ck_A
  | .inl a => .inl (ck_rI O F a)
  | .inr (.inl a) => .inr (.inl (ck_rI O F a))
  | x => x
noncomputable def ck_rO (O : gm_Or) (F : ck_F) : (Nat ⊕ Option ck_A) → (Nat ⊕ Option ck_A)
  | .inr (some a) => .inr (some (ck_rA O F a))
  | x => x
noncomputable def ck_rG (O : gm_Or) (F G : ck_F) : ck_F := (G.1, G.2.1, G.2.2.map fun q => (q.1, q.2.1, q.2.2.1, ck_rI O F q.2.2.2))
/-- a call -/
noncomputable def ck_call (O : gm_Or) (E : List (Nat × List ck_Sum)) (d n0 : Nat) (W : List (Nat × Int × Int) × List (Nat × Int)) (bc bs n mj : Nat) (F : ck_F) (as : List ck_A) (k : Nat → Nat → (Nat ⊕ Option ck_A) → Nat → ck_F → Bool) : Bool := match fl_lk mj E with
  | none => false
  | some l => match ck_pick O n F as l with
    | none => false
    | some S => (decide (S.1.1 + 1 ≤ d) && (decide (S.1.2.1 ≤ bc) && decide (S.1.2.2 ≤ bs))) && ((fl_all S.2.2.2.2.1.1 (fun w => ck_okW W.1 n0 w.1 w.2.1 w.2.2) && fl_all S.2.2.2.2.1.2 (fun w => ck_okR W.2 n0 w.1 w.2)) && fl_all S.2.2.2.2.2 fun oc => k (bc - S.1.2.1) (bs - S.1.2.2) (ck_rO O F oc.1) oc.2.1 (ck_mix n F S.2.2.2.2.1 (ck_rG O F oc.2.2)))
noncomputable def ck_sum8 (AS : ck_AS) : Bool := decide ((AS.map fun q => if ck_so q.1 = 1 then 2 else 1).sum ≤ 8)
noncomputable def ck_n1 (AS : ck_AS) : Bool := AS.all fun q => !(ck_so q.1 == 1)
/-- what a call leaves on the stack -/
noncomputable def ck_psh (how : Option ck_A) (AS : ck_AS) : ck_AS := match how with
  | some a => (a, none) :: ck_sh AS
  | none => ck_sh AS
/-- how many arguments a call of a method named elsewhere has -/
noncomputable def gm_una (o ix : Nat) : Option Nat := (gm_ul.find? fun q => decide (q.1.1 = o) && decide (q.1.2.1 = ix)).map fun q => gm_na q.2.1
/-- bounds of a quotient -/
noncomputable def ck_dv (a b : ck_I) : ck_I := if (ck_sg a && ck_sg b) = true then ck_one (gm_w (Int.tdiv a.1 b.1)) else if 0 ≤ a.1 ∧ 0 < b.1 then (0, a.2.1, []) else ck_top
/-- a local's number that may be less than 0 or not -/
noncomputable def ck_sgl (a b : ck_I) (s : ck_S) : Bool := match s with
  | some (.inl _) => decide (a.1 < 0) && (decide (0 ≤ a.2.1) && decide (0 < b.1))
  | _ => false
/-- a cell's number that may be less than 0 or not -/
noncomputable def ck_sgn (a : ck_I) (s : ck_S) : Bool := match s with
  | some (.inr (.inl _)) => decide (a.1 < 0) && decide (0 ≤ a.2.1)
  | _ => false
/-- an instruction that does more than load, store and reckon -/
noncomputable def ck_j (O : gm_Or) (lx : Option Nat) (XF : List (Int × Int × ck_I)) (E : List (Nat × List ck_Sum)) (mi d n0 : Nat) (W : List (Nat × Int × Int) × List (Nat × Int)) (outs : List ck_Oc) (bc bs pc : Nat) (AL : ck_AL) (AS : ck_AS) (n : Nat) (F : ck_F) (k : Nat → Nat → Nat → ck_AL → ck_AS → Nat → ck_F → Bool) (i : Instr) : Bool :=
  match i with
  | .ineg => (match AS with
    | (.inl a, _) :: AS' => k bc bs (pc + 1) AL ((.inl (ck_nrm (- a.2.1, - a.1, [])), none) :: AS') n F
    | _ => false)
  | .i2b => (match AS with
    | (.inl a, _) :: AS' => k bc bs (pc + 1) AL ((.inl (if -128 ≤ a.1 ∧ a.2.1 ≤ 127 then a else (-128, 127, [])), none) :: AS') n F
    | _ => false)
  | .i2l => (match AS with
    | (.inl a, _) :: AS' => k bc bs (pc + 1) AL ((.inr (.inl a), none) :: AS') n F
    | _ => false)
  | .l2i => (match AS with
    | (.inr (.inl a), _) :: AS' => k bc bs (pc + 1) AL ((.inl (ck_nrm a), none) :: AS') n F
    | _ => false)
  | .lcmp => (match AS with
    | (.inr (.inl b), _) :: (.inr (.inl a), _) :: AS' => k bc bs (pc + 1) AL ((.inl (if (ck_leI a b && ck_leI b a && (ck_sg a || ck_ex b)) = true then ck_one 0 else if a.2.1 < b.1 then ck_one (-1) else if b.2.1 < a.1 then ck_one 1 else (-1, 1, [])), none) :: AS') n F
    | _ => false)
  | .idiv => (match AS with
    | (.inl b, _) :: (.inl a, s) :: AS' => (decide (0 < b.1) || decide (b.2.1 < 0)) && cond (ck_sgl a b s) (ck_br .lt a s (ck_one 0) none AL F (fun AL F => k bc bs (pc + 1) AL ((.inl (ck_dv (ck_rf .lt a (ck_one 0)) b), none) :: AS') n F) && ck_br .ge a s (ck_one 0) none AL F (fun AL F => k bc bs (pc + 1) AL ((.inl (ck_dv (ck_rf .ge a (ck_one 0)) b), none) :: AS') n F)) (k bc bs (pc + 1) AL ((.inl (ck_dv a b), none) :: AS') n F)
    | _ => false)
  | .irem => (match AS with
    | (.inl b, _) :: (.inl a, _) :: AS' => (decide (0 < b.1) || decide (b.2.1 < 0)) && k bc bs (pc + 1) AL ((.inl (if (ck_sg a && ck_sg b) = true then ck_one (gm_w (Int.tmod a.1 b.1)) else if 0 ≤ a.1 ∧ 0 < b.1 then (0, b.2.1 - 1, []) else ck_top), none) :: AS') n F
    | _ => false)
  | .dup => (match AS with
    | q :: AS' => !(ck_so q.1 == 1) && k bc bs (pc + 1) AL (q :: q :: AS') n F
    | [] => false)
  | .pop => (match AS with
    | q :: AS' => !(ck_so q.1 == 1) && k bc bs (pc + 1) AL AS' n F
    | [] => false)
  | .dup2 => (match AS with
    | q :: p :: AS' => (!(ck_so q.1 == 1) && !(ck_so p.1 == 1)) && k bc bs (pc + 1) AL (q :: p :: q :: p :: AS') n F
    | _ => false)
  | .iinc j z => (match AL[j]? with
    | some (some (.inl a)) => if ck_in (a.1 + z, a.2.1 + z, []) = true then k bc bs (pc + 3) (ck_lst AL j (.inl (a.1 + z, a.2.1 + z, ck_mv a.2.2 z))) (ck_sl AS) n F else k bc bs (pc + 3) (ck_lst AL j (.inl ck_top)) (ck_sl AS) n F
    | _ => false)
  | .goto off => decide (0 ≤ (pc : Int) + off) && k bc bs (gm_tgt pc off) AL AS n F
  | .ifCond c off => (match AS with
    | (.inl a, s) :: AS' => decide (0 ≤ (pc : Int) + off) && (ck_br c a s (ck_one 0) none AL F (fun AL F => k bc bs (gm_tgt pc off) AL AS' n (ck_rE O F)) && ck_br (ck_ng c) a s (ck_one 0) none AL F (fun AL F => k bc bs (pc + 3) AL AS' n (ck_rE O F)))
    | _ => false)
  | .if_icmp c off => (match AS with
    | (.inl b, t) :: (.inl a, s) :: AS' => decide (0 ≤ (pc : Int) + off) && (match ck_lkp O F s t with
      | some w => ck_br c w (some (.inr (.inl (0, 4, 0)))) (ck_one 0) none AL F (fun AL F => k bc bs (gm_tgt pc off) AL AS' n (ck_rE O F)) && ck_br (ck_ng c) w (some (.inr (.inl (0, 4, 0)))) (ck_one 0) none AL F (fun AL F => k bc bs (pc + 3) AL AS' n (ck_rE O F))
      | none => ck_br c a s b t AL F (fun AL F => k bc bs (gm_tgt pc off) AL AS' n (ck_rE O F)) && ck_br (ck_ng c) a s b t AL F (fun AL F => k bc bs (pc + 3) AL AS' n (ck_rE O F)))
    | _ => false)
  | .ifnull off => (match AS with
    | (.inr (.inr (.inl r)), _) :: AS' => (decide (0 ≤ (pc : Int) + off) && decide (r < 100000)) && (if r = 0 then k bc bs (gm_tgt pc off) AL AS' n F else k bc bs (pc + 3) AL AS' n F)
    | _ => false)
  | .ifnonnull off => (match AS with
    | (.inr (.inr (.inl r)), _) :: AS' => (decide (0 ≤ (pc : Int) + off) && decide (r < 100000)) && (if r = 0 then k bc bs (pc + 3) AL AS' n F else k bc bs (gm_tgt pc off) AL AS' n F)
    | _ => false)
  | .tableswitch df lo hi offs => (match AS with
    | (.inl a, s) :: AS' => (decide (((offs.size : Nat) : Int) = hi - lo + 1) && (decide (0 ≤ (pc : Int) + df) && (offs.toList.all (fun o => decide (0 ≤ (pc : Int) + o)) && (decide (-2147483647 ≤ lo) && decide (hi < 2147483647))))) && ((ck_br .lt a s (ck_one lo) none AL F (fun AL F => k bc bs (gm_tgt pc df) AL AS' n F) && ck_br .gt a s (ck_one hi) none AL F (fun AL F => k bc bs (gm_tgt pc df) AL AS' n F)) && ck_swk a s AL F pc (fun q AL F => k bc bs q AL AS' n F) offs.toList lo)
    | _ => false)
  | .getfield ix => (match AS with
    | (.inr (.inr (.inl r)), _) :: AS' => (match ck_kd O F r with
      | some q => (match gm_fld (gm_ow mi) ix (q.1 - 4) with
        | some j => decide (4 ≤ q.1) && (if gm_isr (q.1 - 4) j = true then (match ck_fR O F r j with
            | some v => k bc bs (pc + 3) AL ((.inr (.inr (.inl v)), none) :: AS') n F
            | none => false) else (match ck_fi F r j j with
              | some a => k bc bs (pc + 3) AL ((.inl a, some (.inr (.inl (r, (j : Int), 0)))) :: AS') n F
              | none => (match gm_tyr O r j j with
                | some t => k bc bs (pc + 3) AL ((.inl (t.1, t.2, []), some (.inr (.inl (r, (j : Int), 0)))) :: AS') n (F.1, F.2.1, (r, (j : Int), (j : Int), (t.1, t.2, [])) :: F.2.2)
                | none => k bc bs (pc + 3) AL ((.inl ck_top, none) :: AS') n F)))
        | none => false)
      | none => false)
    | _ => false)
  | .putfield ix => (match AS with
    | (.inl a, s) :: (.inr (.inr (.inl r)), _) :: AS' => (match ck_kd O F r with
      | some q => (match gm_fld (gm_ow mi) ix (q.1 - 4) with
        | some j => (match ck_gp O F r j s a with
          | some g => (decide (4 ≤ q.1) && (gm_may mi (q.1 - 4) j && ((gm_tyv O r j j a.1 a.2.1 && (O.2.2.ty 0).isEmpty) && ((ck_okW W.1 n0 r j j && (ck_okW W.1 n0 0 4 4 && (ck_okW W.1 n0 0 3 3 && ck_okW W.1 n0 0 5 5))) && ((ck_in g.1 && (ck_in g.2.1 && ck_in g.2.2)) && gm_fk (q.1 - 4) j == 0))))) && k bc bs (pc + 3) AL (ck_sh AS') n (ck_gF F r j a g)
          | none => (decide (4 ≤ q.1) && (gm_may mi (q.1 - 4) j && (gm_tyw O r j j a.1 a.2.1 && (ck_okW W.1 n0 r j j && (gm_fk (q.1 - 4) j == 0 || (gm_fk (q.1 - 4) j == 1 && (decide (0 ≤ a.1) && decide (a.2.1 ≤ 1)))))))) && k bc bs (pc + 3) AL (ck_sh AS') n (ck_upT O F r j j a))
        | none => false)
      | none => false)
    | (.inr (.inr (.inl v)), _) :: (.inr (.inr (.inl r)), _) :: AS' => (match ck_kd O F r with
      | some q => (match gm_fld (gm_ow mi) ix (q.1 - 4) with
        | some j => (decide (4 ≤ q.1) && (gm_may mi (q.1 - 4) j && ((O.2.1 r j).isNone && (ck_okR W.2 n0 r j && gm_fk (q.1 - 4) j == 2)))) && k bc bs (pc + 3) AL AS' n (ck_upR F r j v)
        | none => false)
      | none => false)
    | _ => false)
  | .iaload => (match AS with
    | (.inl e, _) :: (.inr (.inr (.inl r)), _) :: AS' => (match ck_kd O F r with
      | some q => (q.1 == 0 && (decide (0 ≤ e.1) && decide (e.2.1 < (q.2 : Int)))) && (match ck_fi F r e.1 e.2.1 with
        | some a => k bc bs (pc + 1) AL ((.inl a, if ck_sg e = true then some (.inr (.inl (r, e.1, 0))) else none) :: AS') n F
        | none => (match gm_tyr O r e.1 e.2.1 with
          | some t => if ck_sg e = true then k bc bs (pc + 1) AL ((.inl (t.1, t.2, []), some (.inr (.inl (r, e.1, 0)))) :: AS') n (F.1, F.2.1, (r, e.1, e.1, (t.1, t.2, [])) :: F.2.2) else k bc bs (pc + 1) AL ((.inl (t.1, t.2, []), none) :: AS') n F
          | none => k bc bs (pc + 1) AL ((.inl ck_top, none) :: AS') n F))
      | none => false)
    | (.inl e, _) :: (.inr (.inr (.inr c)), _) :: AS' => (match lx with
      | some l => (c == 2000 && (decide (0 ≤ e.1) && decide (e.2.1 < (l : Int)))) && (match XF.find? fun q => decide (q.1 ≤ e.1) && decide (e.2.1 ≤ q.2.1) with
        | some q => k bc bs (pc + 1) AL ((.inl q.2.2, none) :: AS') n F
        | none => k bc bs (pc + 1) AL ((.inl ck_top, none) :: AS') n F)
      | none => false)
    | _ => false)
  | .baload => (match AS with
    | (.inl e, _) :: (.inr (.inr (.inl r)), _) :: AS' => (match ck_kd O F r with
      | some q => (q.1 == 1 && (decide (0 ≤ e.1) && decide (e.2.1 < (q.2 : Int)))) && (match ck_fi F r e.1 e.2.1 with
        | some a => k bc bs (pc + 1) AL ((.inl a, if ck_sg e = true then some (.inr (.inl (r, e.1, 0))) else none) :: AS') n F
        | none => (match gm_tyr O r e.1 e.2.1 with
          | some t => if ck_sg e = true then k bc bs (pc + 1) AL ((.inl (t.1, t.2, []), some (.inr (.inl (r, e.1, 0)))) :: AS') n (F.1, F.2.1, (r, e.1, e.1, (t.1, t.2, [])) :: F.2.2) else k bc bs (pc + 1) AL ((.inl (t.1, t.2, []), none) :: AS') n F
          | none => k bc bs (pc + 1) AL ((.inl ck_top, none) :: AS') n F))
      | none => false)
    | _ => false)
  | .laload => (match AS with
    | (.inl e, _) :: (.inr (.inr (.inl r)), _) :: AS' => (match ck_kd O F r with
      | some q => (q.1 == 2 && (decide (0 ≤ e.1) && decide (e.2.1 < (q.2 : Int)))) && (match ck_fi F r e.1 e.2.1 with
        | some a => k bc bs (pc + 1) AL ((.inr (.inl a), none) :: AS') n F
        | none => k bc bs (pc + 1) AL ((.inr (.inl ck_tp6), none) :: AS') n F)
      | none => false)
    | _ => false)
  | .aaload => (match AS with
    | (.inl e, _) :: (.inr (.inr (.inl r)), _) :: AS' => (match ck_kd O F r with
      | some q => (q.1 == 3 && (decide (0 ≤ e.1) && (decide (e.2.1 < (q.2 : Int)) && decide (e.2.1 < e.1 + 20)))) && (List.range (e.2.1 + 1 - e.1).toNat).all fun (i : Nat) => (match ck_fR O F r (e.1 + (i : Int)) with
        | some v => k bc bs (pc + 1) AL ((.inr (.inr (.inl v)), none) :: AS') n F
        | none => false)
      | none => false)
    | _ => false)
  | .iastore => (match AS with
    | (.inl a, _) :: (.inl e, _) :: (.inr (.inr (.inl r)), _) :: AS' => (match ck_kd O F r with
      | some q => (q.1 == 0 && (decide (0 ≤ e.1) && (decide (e.2.1 < (q.2 : Int)) && (ck_okW W.1 n0 r e.1 e.2.1 && gm_tyw O r e.1 e.2.1 a.1 a.2.1)))) && k bc bs (pc + 1) AL (ck_sh AS') n (ck_upT O F r e.1 e.2.1 a)
      | none => false)
    | _ => false)
  | .bastore => (match AS with
    | (.inl a, _) :: (.inl e, _) :: (.inr (.inr (.inl r)), _) :: AS' => (match ck_kd O F r with
      | some q => (q.1 == 1 && (decide (0 ≤ e.1) && (decide (e.2.1 < (q.2 : Int)) && (ck_okW W.1 n0 r e.1 e.2.1 && (if -128 ≤ a.1 ∧ a.2.1 ≤ 127 then gm_tyw O r e.1 e.2.1 a.1 a.2.1 else gm_tyw O r e.1 e.2.1 (-128) 127))))) && k bc bs (pc + 1) AL (ck_sh AS') n (ck_upT O F r e.1 e.2.1 (if -128 ≤ a.1 ∧ a.2.1 ≤ 127 then a else (-128, 127, [])))
      | none => false)
    | _ => false)
  | .lastore => (match AS with
    | (.inr (.inl a), _) :: (.inl e, _) :: (.inr (.inr (.inl r)), _) :: AS' => (match ck_kd O F r with
      | some q => (q.1 == 2 && (decide (0 ≤ e.1) && (decide (e.2.1 < (q.2 : Int)) && (ck_okW W.1 n0 r e.1 e.2.1 && ((O.2.2.ty r).isEmpty && (O.2.2.fp r).isEmpty))))) && (if ck_in a = true then k bc bs (pc + 1) AL (ck_sh AS') n (ck_up F r e.1 e.2.1 a) else k bc bs (pc + 1) AL (ck_sh AS') n (F.1, F.2.1, F.2.2.filter fun p => !(p.1 == r)))
      | none => false)
    | _ => false)
  | .aastore => (match AS with
    | (.inr (.inr (.inl v)), _) :: (.inl e, _) :: (.inr (.inr (.inl r)), _) :: AS' => (match ck_kd O F r, ck_kd O F v with
      | some q, some p => (q.1 == 3 && (p.1 == 5 && (ck_sg e && (decide (0 ≤ e.1) && (decide (e.1 < (q.2 : Int)) && ((O.2.1 r e.1).isNone && ck_okR W.2 n0 r e.1)))))) && k bc bs (pc + 1) AL AS' n (ck_upR F r e.1 v)
      | _, _ => false)
    | _ => false)
  | .arraylength => (match AS with
    | (.inr (.inr (.inl r)), _) :: AS' => (match ck_kd O F r with
      | some q => (decide (q.1 ≤ 3) && ck_cvk (gm_vi (q.2 : Int))) && k bc bs (pc + 1) AL ((.inl (ck_one q.2), none) :: AS') n F
      | none => false)
    | (.inr (.inr (.inr c)), _) :: AS' => (match lx with
      | some l => (c == 2000 && ck_cvk (gm_vi (l : Int))) && k bc bs (pc + 1) AL ((.inl (ck_one l), none) :: AS') n F
      | none => false)
    | _ => false)
  | .new ix => (match gm_new (gm_ow mi) ix with
    | some ci => ((decide (1 ≤ bc) && decide (gm_nf ci ≤ bs)) && decide (n + 1 < 100000)) && k (bc - 1) (bs - gm_nf ci) (pc + 3) AL ((.inr (.inr (.inl (n + 1))), none) :: ck_sh AS) (n + 1) ((n + 1, ci + 4, 0) :: F.1, F.2.1, ((List.range (gm_nf ci)).map fun (j : Nat) => (n + 1, (j : Int), (j : Int), ck_one 0)) ++ F.2.2)
    | none => (match gm_isx mi pc ix with
      | some x => ((gm_hh mi).isEmpty && (decide (6 ≤ d) && (ck_sum8 AS && (decide (1 ≤ bc) && decide (6 ≤ bs))))) && ck_end O outs (.inl x) n F
      | none => false))
  | .newarray at0 => (match AS, (match at0 with | .int => some 0 | .byte => some 1 | .long => some 2 | _ => none : Option Nat) with
    | (.inl e, _) :: AS', some kd => (ck_sg e && (decide (0 ≤ e.1) && (decide (e.1 < 60000000) && (decide (1 ≤ bc) && (decide (e.1.toNat ≤ bs) && decide (n + 1 < 100000)))))) && k (bc - 1) (bs - e.1.toNat) (pc + 2) AL ((.inr (.inr (.inl (n + 1))), none) :: ck_sh AS') (n + 1) ((n + 1, kd, e.1.toNat) :: F.1, F.2.1, (n + 1, 0, e.1 - 1, ck_one 0) :: F.2.2)
    | _, _ => false)
  | .anewarray ix => (match AS with
    | (.inl e, _) :: AS' => (decide (gm_new (gm_ow mi) ix = some 1) && (ck_sg e && (decide (0 ≤ e.1) && (decide (e.1 < 60000000) && (decide (1 ≤ bc) && (decide (e.1.toNat ≤ bs) && decide (n + 1 < 100000))))))) && k (bc - 1) (bs - e.1.toNat) (pc + 3) AL ((.inr (.inr (.inl (n + 1))), none) :: ck_sh AS') (n + 1) ((n + 1, 3, e.1.toNat) :: F.1, F.2.1, F.2.2)
    | _ => false)
  | .ldc ix => (match gm_ild (gm_ow mi) ix with
    | some q => (q.2 == 0 && ck_cvk (gm_vi q.1)) && k bc bs (pc + 2) AL ((.inl (ck_one q.1), none) :: AS) n F
    | none => (match gm_sld (gm_ow mi) ix with
      | some id => k bc bs (pc + 2) AL ((.inr (.inr (.inr id)), none) :: AS) n F
      | none => false))
  | .ldc_w ix => (match gm_ild (gm_ow mi) ix with
    | some q => (q.2 == 0 && ck_cvk (gm_vi q.1)) && k bc bs (pc + 3) AL ((.inl (ck_one q.1), none) :: AS) n F
    | none => (match gm_sld (gm_ow mi) ix with
      | some id => k bc bs (pc + 3) AL ((.inr (.inr (.inr id)), none) :: AS) n F
      | none => false))
  | .ldc2_w ix => (match gm_ild (gm_ow mi) ix with
    | some q => (q.2 == 1 && ck_cvk (gm_vl q.1)) && k bc bs (pc + 3) AL ((.inr (.inl (ck_one q.1)), none) :: AS) n F
    | none => false)
  | .invokestatic ix => (match gm_cal (gm_ow mi) ix with
    | some q => if q.1 = 5 then ((gm_hh mi).isEmpty && (!(gm_hh q.2).isEmpty && (decide (gm_ow q.2 ≠ gm_mxi) && (decide ((AS.take (gm_na q.2)).length = gm_na q.2) && (ck_n1 (AS.take (gm_na q.2)) && (decide (gm_na q.2 ≤ gm_ml q.2) && ck_sum8 (AS.drop (gm_na q.2)))))))) && ck_call O E d n0 W bc bs n q.2 F ((AS.take (gm_na q.2)).reverse.map Prod.fst) (fun bc bs how n F => match how with
          | .inl x => ck_thr O outs mi pc x n F (fun h => k bc bs h AL [(.inr (.inr (.inr 4000)), none)] n F)
          | .inr u => k bc bs (pc + 3) AL (ck_psh u (AS.drop (gm_na q.2))) n F) else (q.1 == 2 && decide (1 ≤ d)) && (if q.2 = gm_jmax then (match AS with
        | (.inl b, _) :: (.inl a, _) :: AS' => ck_sum8 AS' && k bc bs (pc + 3) AL ((.inl (if a.1 ≤ b.1 then b.1 else a.1, if a.2.1 ≤ b.2.1 then b.2.1 else a.2.1, []), none) :: AS') n F
        | _ => false) else if q.2 = gm_jmin then (match AS with
        | (.inl b, _) :: (.inl a, _) :: AS' => ck_sum8 AS' && k bc bs (pc + 3) AL ((.inl (if a.1 ≤ b.1 then a.1 else b.1, if a.2.1 ≤ b.2.1 then a.2.1 else b.2.1, []), none) :: AS') n F
        | _ => false) else ((gm_hh mi).isEmpty && (decide (gm_ow q.2 ≠ gm_mxi) && (decide ((AS.take (gm_na q.2)).length = gm_na q.2) && (ck_n1 (AS.take (gm_na q.2)) && (decide (gm_na q.2 ≤ gm_ml q.2) && ck_sum8 (AS.drop (gm_na q.2))))))) && ck_call O E d n0 W bc bs n q.2 F ((AS.take (gm_na q.2)).reverse.map Prod.fst) (fun bc bs how n F => match how with
          | .inl x => ck_thr O outs mi pc x n F (fun h => k bc bs h AL [(.inr (.inr (.inr 4000)), none)] n F)
          | .inr u => k bc bs (pc + 3) AL (ck_psh u (AS.drop (gm_na q.2))) n F))
    | none => gm_ac (gm_ow mi) ix && (match AS with
      | (.inl m, _) :: (.inl dp, _) :: (.inr (.inr (.inl k2)), _) :: (.inl sp, _) :: (.inr (.inr (.inl k1)), _) :: AS' => (match ck_kd O F k1, ck_kd O F k2 with
        | some q1, some q2 => (q1.1 == 0 && (q2.1 == 0 && (decide (0 ≤ sp.1) && (decide (0 ≤ dp.1) && (decide (0 ≤ m.1) && (decide (sp.2.1 + m.2.1 ≤ (q1.2 : Int)) && (decide (dp.2.1 + m.2.1 ≤ (q2.2 : Int)) && (ck_okW W.1 n0 k2 dp.1 (dp.2.1 + m.2.1 - 1) && (ck_sum8 AS' && (decide (1 ≤ d) && (match ck_rd O F k1 sp.1 (sp.2.1 + m.2.1 - 1) with | some a => gm_tyw O k2 dp.1 (dp.2.1 + m.2.1 - 1) a.1 a.2.1 | none => ((O.2.2.ty k2).isEmpty && (O.2.2.fp k2).isEmpty)))))))))))) && k bc bs (pc + 3) AL (ck_sh AS') n (F.1, F.2.1, ck_cws [(k2, dp.1, dp.2.1 + m.2.1 - 1)] F.2.2)
        | _, _ => false)
      | _ => false))
  | .invokevirtual ix => (match gm_cal (gm_ow mi) ix with
    | some q => if q.2 = 82 then (match AS with
        | (.inr (.inr (.inr id)), _) :: AS' => (q.1 == 0 && ((gm_hh mi).isEmpty && (decide (id < gm_sl.length) && (ck_sum8 AS' && decide (2 ≤ d))))) && k bc bs (pc + 3) AL ((.inl (ck_one (gm_slen id)), none) :: AS') n F
        | _ => false) else if q.2 = 84 then (match AS with
        | (.inl e, _) :: (.inr (.inr (.inr id)), _) :: AS' => (q.1 == 0 && ((gm_hh mi).isEmpty && (decide (id < gm_sl.length) && (ck_sum8 AS' && (decide (4 ≤ d) && (decide (0 ≤ e.1) && decide (e.2.1 < (gm_slen id : Int)))))))) && k bc bs (pc + 3) AL ((.inl (0, 127, []), none) :: AS') n F
        | _ => false) else (q.1 == 0 && (decide (gm_ow q.2 ≠ gm_mxi) && (decide (gm_cio q.2 < 12) && (decide ((AS.take (gm_na q.2)).length = gm_na q.2) && (ck_n1 (AS.take (gm_na q.2)) && decide (gm_na q.2 + 1 ≤ gm_ml q.2)))))) && (match AS.drop (gm_na q.2) with
      | (.inr (.inr (.inl r)), _) :: AS' => (ck_sum8 AS' && (match ck_kd O F r with
          | some p => p.1 == gm_cio q.2 + 4
          | none => false)) && ck_call O E d n0 W bc bs n q.2 F ((.inr (.inr (.inl r))) :: (AS.take (gm_na q.2)).reverse.map Prod.fst) (fun bc bs how n F => match how with
          | .inl x => ck_thr O outs mi pc x n F (fun h => k bc bs h AL [(.inr (.inr (.inr 4000)), none)] n F)
          | .inr u => k bc bs (pc + 3) AL (ck_psh u AS') n F)
      | _ => false)
    | none => (match gm_una (gm_ow mi) ix with
      | some na => (match AS.drop na with
        | (.inr (.inr (.inl r)), _) :: AS' => (match ck_kd O F r with
          | some p => (match gm_up (gm_ow mi) ix (p.1 - 4) with
            | some mj => ((gm_hh mi).isEmpty && (decide (4 ≤ p.1) && (decide ((AS.take na).length = na) && (decide (gm_na mj = na) && (ck_n1 (AS.take na) && (decide (na + 1 ≤ gm_ml mj) && ck_sum8 AS')))))) && ck_call O E d n0 W bc bs n mj F ((.inr (.inr (.inl r))) :: (AS.take na).reverse.map Prod.fst) (fun bc bs how n F => match how with
              | .inl x => ck_thr O outs mi pc x n F (fun h => k bc bs h AL [(.inr (.inr (.inr 4000)), none)] n F)
              | .inr u => k bc bs (pc + 3) AL (ck_psh u AS') n F)
            | none => false)
          | none => false)
        | _ => false)
      | none => false))
  | .invokespecial ix => if gm_oi (gm_ow mi) ix = true then (match AS with
      | (.inr (.inr (.inl r)), _) :: AS' => (ck_sum8 AS' && (decide (1 ≤ d) && (decide (1 ≤ r) && decide (r ≤ n)))) && k bc bs (pc + 3) AL AS' n F
      | _ => false) else (match gm_cal (gm_ow mi) ix with
    | some q => ((gm_hh mi).isEmpty && ((q.1 == 1 || q.1 == 3) && (decide (gm_ow q.2 ≠ gm_mxi) && (decide ((AS.take (gm_na q.2)).length = gm_na q.2) && (ck_n1 (AS.take (gm_na q.2)) && decide (gm_na q.2 + 1 ≤ gm_ml q.2)))))) && (match AS.drop (gm_na q.2) with
      | (.inr (.inr (.inl r)), _) :: AS' => (ck_sum8 AS' && (decide (1 ≤ r) && decide (r ≤ n))) && ck_call O E d n0 W bc bs n q.2 F ((.inr (.inr (.inl r))) :: (AS.take (gm_na q.2)).reverse.map Prod.fst) (fun bc bs how n F => match how with
          | .inl x => ck_thr O outs mi pc x n F (fun h => k bc bs h AL [(.inr (.inr (.inr 4000)), none)] n F)
          | .inr u => k bc bs (pc + 3) AL (ck_psh u AS') n F)
      | _ => false)
    | none => false)
  | .ireturn => (match AS with
    | (.inl a, s) :: [] => (match gm_rt mi with
      | some .int => cond (ck_sgn a s) (ck_br .lt a s (ck_one 0) none AL F (fun _ F => ck_end O outs (.inr (some (.inl (ck_rf .lt a (ck_one 0))))) n F) && ck_br .ge a s (ck_one 0) none AL F (fun _ F => ck_end O outs (.inr (some (.inl (ck_rf .ge a (ck_one 0))))) n F)) (ck_end O outs (.inr (some (.inl a))) n F)
      | some .boolean => (decide (0 ≤ a.1) && decide (a.2.1 ≤ 1)) && ck_end O outs (.inr (some (.inl a))) n F
      | _ => false)
    | _ => false)
  | .return_ => (match AS with
    | [] => (gm_rt mi).isNone && ck_end O outs (.inr none) n F
    | _ => false)
  | .areturn => (match AS with
    | (.inr (.inr (.inl r)), _) :: [] => (match gm_rt mi with
      | some (.object _) => ck_end O outs (.inr (some (.inr (.inr (.inl r))))) n F
      | some (.array _) => ck_end O outs (.inr (some (.inr (.inr (.inl r))))) n F
      | _ => false)
    | _ => false)
  | _ => false
/-- a few numbers times a constant: number by number -/
noncomputable def ck_fk (i : Instr) (a b : ck_I) : Bool := match i with
  | .imul => ck_sg b && (decide (1 < b.1) && (decide (a.1 < a.2.1) && decide (a.2.1 < a.1 + 24)))
  | _ => false
/-- one instruction -/
noncomputable def ck_i (O : gm_Or) (lx : Option Nat) (XF : List (Int × Int × ck_I)) (E : List (Nat × List ck_Sum)) (mi d n0 : Nat) (W : List (Nat × Int × Int) × List (Nat × Int)) (outs : List ck_Oc) (bc bs pc : Nat) (AL : ck_AL) (AS : ck_AS) (n : Nat) (F : ck_F) (k : Nat → Nat → Nat → ck_AL → ck_AS → Nat → ck_F → Bool) (i : Instr) : Bool :=
  match gm_const i with
  | some v => ck_cvk v && k bc bs (pc + gm_len i) AL ((ck_cv v, none) :: AS) n F
  | none => match gm_load i with
  | some (sr, j) => (match AL[j]? with
    | some (some a) => (ck_so a == sr) && k bc bs (pc + gm_len i) AL ((a, some (.inl (j, 0))) :: AS) n F
    | _ => false)
  | none => match gm_stor i with
  | some (sr, j) => (match AS with
    | q :: AS' => ((ck_so q.1 == sr) && decide (j + (if sr = 1 then 1 else 0) < AL.length)) && k bc bs (pc + gm_len i) (ck_lst AL j q.1) (ck_sl AS') n F
    | [] => false)
  | none => match gm_bin i with
  | some f => (match AS with
    | (.inl b, t) :: (.inl a, s) :: AS' => cond (ck_fk i a b) ((List.range (a.2.1 + 1 - a.1).toNat).all fun (q : Nat) => k bc bs (pc + gm_len i) (ck_qL (a.1 + (q : Int), a.1 + (q : Int), []) a AL) ((.inl (ck_one (gm_w (f (a.1 + (q : Int)) b.1))), none) :: AS') n (ck_qF (a.1 + (q : Int), a.1 + (q : Int), []) a F)) (cond (ck_fk i b a) ((List.range (b.2.1 + 1 - b.1).toNat).all fun (q : Nat) => k bc bs (pc + gm_len i) (ck_qL (b.1 + (q : Int), b.1 + (q : Int), []) b AL) ((.inl (ck_one (gm_w (f a.1 (b.1 + (q : Int))))), none) :: AS') n (ck_qF (b.1 + (q : Int), b.1 + (q : Int), []) b F)) (k bc bs (pc + gm_len i) AL ((.inl (ck_bo i f a b), ck_lks O (ck_sb i a s b t)) :: AS') n F))
    | _ => false)
  | none => match gm_lbin i with
  | some _ => (match AS with
    | (.inr (.inl _), _) :: (.inr (.inl _), _) :: AS' => k bc bs (pc + gm_len i) AL ((.inr (.inl ck_tp6), none) :: AS') n F
    | _ => false)
  | none => match gm_lsh i with
  | some _ => (match AS with
    | (.inl _, _) :: (.inr (.inl _), _) :: AS' => k bc bs (pc + gm_len i) AL ((.inr (.inl ck_tp6), none) :: AS') n F
    | _ => false)
  | none => ck_j O lx XF E mi d n0 W outs bc bs pc AL AS n F k i
/-- one instruction by its own row -/
noncomputable abbrev ck_Fn : Type := gm_Or → Option Nat → List (Int × Int × ck_I) → List (Nat × List ck_Sum) → Nat → Nat → Nat → List (Nat × Int × Int) × List (Nat × Int) → List ck_Oc → Nat → Nat → Nat → ck_AL → ck_AS → Nat → ck_F → (Nat → Nat → Nat → ck_AL → ck_AS → Nat → ck_F → Bool) → Bool
noncomputable def ck_hc (len : Nat) (v : gm_V) (O : gm_Or) (lx : Option Nat) (XF : List (Int × Int × ck_I)) (E : List (Nat × List ck_Sum)) (mi d n0 : Nat) (W : List (Nat × Int × Int) × List (Nat × Int)) (outs : List ck_Oc) (bc bs pc : Nat) (AL : ck_AL) (AS : ck_AS) (n : Nat) (F : ck_F) (k : Nat → Nat → Nat → ck_AL → ck_AS → Nat → ck_F → Bool) : Bool := ck_cvk v && k bc bs (pc + len) AL ((ck_cv v, none) :: AS) n F
noncomputable def ck_hl (len sr j : Nat) (O : gm_Or) (lx : Option Nat) (XF : List (Int × Int × ck_I)) (E : List (Nat × List ck_Sum)) (mi d n0 : Nat) (W : List (Nat × Int × Int) × List (Nat × Int)) (outs : List ck_Oc) (bc bs pc : Nat) (AL : ck_AL) (AS : ck_AS) (n : Nat) (F : ck_F) (k : Nat → Nat → Nat → ck_AL → ck_AS → Nat → ck_F → Bool) : Bool := match AL[j]? with
    | some (some a) => (ck_so a == sr) && k bc bs (pc + len) AL ((a, some (.inl (j, 0))) :: AS) n F
    | _ => false
noncomputable def ck_hs (len sr j : Nat) (O : gm_Or) (lx : Option Nat) (XF : List (Int × Int × ck_I)) (E : List (Nat × List ck_Sum)) (mi d n0 : Nat) (W : List (Nat × Int × Int) × List (Nat × Int)) (outs : List ck_Oc) (bc bs pc : Nat) (AL : ck_AL) (AS : ck_AS) (n : Nat) (F : ck_F) (k : Nat → Nat → Nat → ck_AL → ck_AS → Nat → ck_F → Bool) : Bool := match AS with
    | q :: AS' => ((ck_so q.1 == sr) && decide (j + (if sr = 1 then 1 else 0) < AL.length)) && k bc bs (pc + len) (ck_lst AL j q.1) (ck_sl AS') n F
    | [] => false
noncomputable def ck_b2 (g : ck_I → ck_I → ck_I) (f : Int → Int → Int) (a b : ck_I) : ck_I := if (ck_sg a && ck_sg b) = true then ck_one (gm_w (f a.1 b.1)) else ck_nrm (g a b)
noncomputable def ck_hb (sb : ck_I → ck_S → ck_I → ck_S → ck_S) (g : ck_I → ck_I → ck_I) (f : Int → Int → Int) (O : gm_Or) (lx : Option Nat) (XF : List (Int × Int × ck_I)) (E : List (Nat × List ck_Sum)) (mi d n0 : Nat) (W : List (Nat × Int × Int) × List (Nat × Int)) (outs : List ck_Oc) (bc bs pc : Nat) (AL : ck_AL) (AS : ck_AS) (n : Nat) (F : ck_F) (k : Nat → Nat → Nat → ck_AL → ck_AS → Nat → ck_F → Bool) : Bool := match AS with
    | (.inl b, t) :: (.inl a, s) :: AS' => k bc bs (pc + 1) AL ((.inl (ck_b2 g f a b), ck_lks O (sb a s b t)) :: AS') n F
    | _ => false
noncomputable def ck_hlb (O : gm_Or) (lx : Option Nat) (XF : List (Int × Int × ck_I)) (E : List (Nat × List ck_Sum)) (mi d n0 : Nat) (W : List (Nat × Int × Int) × List (Nat × Int)) (outs : List ck_Oc) (bc bs pc : Nat) (AL : ck_AL) (AS : ck_AS) (n : Nat) (F : ck_F) (k : Nat → Nat → Nat → ck_AL → ck_AS → Nat → ck_F → Bool) : Bool := match AS with
    | (.inr (.inl _), _) :: (.inr (.inl _), _) :: AS' => k bc bs (pc + 1) AL ((.inr (.inl ck_tp6), none) :: AS') n F
    | _ => false
noncomputable def ck_hls (O : gm_Or) (lx : Option Nat) (XF : List (Int × Int × ck_I)) (E : List (Nat × List ck_Sum)) (mi d n0 : Nat) (W : List (Nat × Int × Int) × List (Nat × Int)) (outs : List ck_Oc) (bc bs pc : Nat) (AL : ck_AL) (AS : ck_AS) (n : Nat) (F : ck_F) (k : Nat → Nat → Nat → ck_AL → ck_AS → Nat → ck_F → Bool) : Bool := match AS with
    | (.inl _, _) :: (.inr (.inl _), _) :: AS' => k bc bs (pc + 1) AL ((.inr (.inl ck_tp6), none) :: AS') n F
    | _ => false
noncomputable def ck_h_ineg  (O : gm_Or) (lx : Option Nat) (XF : List (Int × Int × ck_I)) (E : List (Nat × List ck_Sum)) (mi d n0 : Nat) (W : List (Nat × Int × Int) × List (Nat × Int)) (outs : List ck_Oc) (bc bs pc : Nat) (AL : ck_AL) (AS : ck_AS) (n : Nat) (F : ck_F) (k : Nat → Nat → Nat → ck_AL → ck_AS → Nat → ck_F → Bool) : Bool := (match AS with
    | (.inl a, _) :: AS' => k bc bs (pc + 1) AL ((.inl (ck_nrm (- a.2.1, - a.1, [])), none) :: AS') n F
    | _ => false)
noncomputable def ck_h_i2b  (O : gm_Or) (lx : Option Nat) (XF : List (Int × Int × ck_I)) (E : List (Nat × List ck_Sum)) (mi d n0 : Nat) (W : List (Nat × Int × Int) × List (Nat × Int)) (outs : List ck_Oc) (bc bs pc : Nat) (AL : ck_AL) (AS : ck_AS) (n : Nat) (F : ck_F) (k : Nat → Nat → Nat → ck_AL → ck_AS → Nat → ck_F → Bool) : Bool := (match AS with
    | (.inl a, _) :: AS' => k bc bs (pc + 1) AL ((.inl (if -128 ≤ a.1 ∧ a.2.1 ≤ 127 then a else (-128, 127, [])), none) :: AS') n F
    | _ => false)
noncomputable def ck_h_i2l  (O : gm_Or) (lx : Option Nat) (XF : List (Int × Int × ck_I)) (E : List (Nat × List ck_Sum)) (mi d n0 : Nat) (W : List (Nat × Int × Int) × List (Nat × Int)) (outs : List ck_Oc) (bc bs pc : Nat) (AL : ck_AL) (AS : ck_AS) (n : Nat) (F : ck_F) (k : Nat → Nat → Nat → ck_AL → ck_AS → Nat → ck_F → Bool) : Bool := (match AS with
    | (.inl a, _) :: AS' => k bc bs (pc + 1) AL ((.inr (.inl a), none) :: AS') n F
    | _ => false)
noncomputable def ck_h_l2i  (O : gm_Or) (lx : Option Nat) (XF : List (Int × Int × ck_I)) (E : List (Nat × List ck_Sum)) (mi d n0 : Nat) (W : List (Nat × Int × Int) × List (Nat × Int)) (outs : List ck_Oc) (bc bs pc : Nat) (AL : ck_AL) (AS : ck_AS) (n : Nat) (F : ck_F) (k : Nat → Nat → Nat → ck_AL → ck_AS → Nat → ck_F → Bool) : Bool := (match AS with
    | (.inr (.inl a), _) :: AS' => k bc bs (pc + 1) AL ((.inl (ck_nrm a), none) :: AS') n F
    | _ => false)
noncomputable def ck_h_lcmp  (O : gm_Or) (lx : Option Nat) (XF : List (Int × Int × ck_I)) (E : List (Nat × List ck_Sum)) (mi d n0 : Nat) (W : List (Nat × Int × Int) × List (Nat × Int)) (outs : List ck_Oc) (bc bs pc : Nat) (AL : ck_AL) (AS : ck_AS) (n : Nat) (F : ck_F) (k : Nat → Nat → Nat → ck_AL → ck_AS → Nat → ck_F → Bool) : Bool := (match AS with
    | (.inr (.inl b), _) :: (.inr (.inl a), _) :: AS' => k bc bs (pc + 1) AL ((.inl (if (ck_leI a b && ck_leI b a && (ck_sg a || ck_ex b)) = true then ck_one 0 else if a.2.1 < b.1 then ck_one (-1) else if b.2.1 < a.1 then ck_one 1 else (-1, 1, [])), none) :: AS') n F
    | _ => false)
noncomputable def ck_h_idiv  (O : gm_Or) (lx : Option Nat) (XF : List (Int × Int × ck_I)) (E : List (Nat × List ck_Sum)) (mi d n0 : Nat) (W : List (Nat × Int × Int) × List (Nat × Int)) (outs : List ck_Oc) (bc bs pc : Nat) (AL : ck_AL) (AS : ck_AS) (n : Nat) (F : ck_F) (k : Nat → Nat → Nat → ck_AL → ck_AS → Nat → ck_F → Bool) : Bool := (match AS with
    | (.inl b, _) :: (.inl a, s) :: AS' => (decide (0 < b.1) || decide (b.2.1 < 0)) && cond (ck_sgl a b s) (ck_br .lt a s (ck_one 0) none AL F (fun AL F => k bc bs (pc + 1) AL ((.inl (ck_dv (ck_rf .lt a (ck_one 0)) b), none) :: AS') n F) && ck_br .ge a s (ck_one 0) none AL F (fun AL F => k bc bs (pc + 1) AL ((.inl (ck_dv (ck_rf .ge a (ck_one 0)) b), none) :: AS') n F)) (k bc bs (pc + 1) AL ((.inl (ck_dv a b), none) :: AS') n F)
    | _ => false)
noncomputable def ck_h_irem  (O : gm_Or) (lx : Option Nat) (XF : List (Int × Int × ck_I)) (E : List (Nat × List ck_Sum)) (mi d n0 : Nat) (W : List (Nat × Int × Int) × List (Nat × Int)) (outs : List ck_Oc) (bc bs pc : Nat) (AL : ck_AL) (AS : ck_AS) (n : Nat) (F : ck_F) (k : Nat → Nat → Nat → ck_AL → ck_AS → Nat → ck_F → Bool) : Bool := (match AS with
    | (.inl b, _) :: (.inl a, _) :: AS' => (decide (0 < b.1) || decide (b.2.1 < 0)) && k bc bs (pc + 1) AL ((.inl (if (ck_sg a && ck_sg b) = true then ck_one (gm_w (Int.tmod a.1 b.1)) else if 0 ≤ a.1 ∧ 0 < b.1 then (0, b.2.1 - 1, []) else ck_top), none) :: AS') n F
    | _ => false)
noncomputable def ck_h_dup  (O : gm_Or) (lx : Option Nat) (XF : List (Int × Int × ck_I)) (E : List (Nat × List ck_Sum)) (mi d n0 : Nat) (W : List (Nat × Int × Int) × List (Nat × Int)) (outs : List ck_Oc) (bc bs pc : Nat) (AL : ck_AL) (AS : ck_AS) (n : Nat) (F : ck_F) (k : Nat → Nat → Nat → ck_AL → ck_AS → Nat → ck_F → Bool) : Bool := (match AS with
    | q :: AS' => !(ck_so q.1 == 1) && k bc bs (pc + 1) AL (q :: q :: AS') n F
    | [] => false)
noncomputable def ck_h_pop  (O : gm_Or) (lx : Option Nat) (XF : List (Int × Int × ck_I)) (E : List (Nat × List ck_Sum)) (mi d n0 : Nat) (W : List (Nat × Int × Int) × List (Nat × Int)) (outs : List ck_Oc) (bc bs pc : Nat) (AL : ck_AL) (AS : ck_AS) (n : Nat) (F : ck_F) (k : Nat → Nat → Nat → ck_AL → ck_AS → Nat → ck_F → Bool) : Bool := (match AS with
    | q :: AS' => !(ck_so q.1 == 1) && k bc bs (pc + 1) AL AS' n F
    | [] => false)
noncomputable def ck_h_dup2  (O : gm_Or) (lx : Option Nat) (XF : List (Int × Int × ck_I)) (E : List (Nat × List ck_Sum)) (mi d n0 : Nat) (W : List (Nat × Int × Int) × List (Nat × Int)) (outs : List ck_Oc) (bc bs pc : Nat) (AL : ck_AL) (AS : ck_AS) (n : Nat) (F : ck_F) (k : Nat → Nat → Nat → ck_AL → ck_AS → Nat → ck_F → Bool) : Bool := (match AS with
    | q :: p :: AS' => (!(ck_so q.1 == 1) && !(ck_so p.1 == 1)) && k bc bs (pc + 1) AL (q :: p :: q :: p :: AS') n F
    | _ => false)
noncomputable def ck_h_iinc (j : Nat) (z : Int) (O : gm_Or) (lx : Option Nat) (XF : List (Int × Int × ck_I)) (E : List (Nat × List ck_Sum)) (mi d n0 : Nat) (W : List (Nat × Int × Int) × List (Nat × Int)) (outs : List ck_Oc) (bc bs pc : Nat) (AL : ck_AL) (AS : ck_AS) (n : Nat) (F : ck_F) (k : Nat → Nat → Nat → ck_AL → ck_AS → Nat → ck_F → Bool) : Bool := (match AL[j]? with
    | some (some (.inl a)) => if ck_in (a.1 + z, a.2.1 + z, []) = true then k bc bs (pc + 3) (ck_lst AL j (.inl (a.1 + z, a.2.1 + z, ck_mv a.2.2 z))) (ck_sl AS) n F else k bc bs (pc + 3) (ck_lst AL j (.inl ck_top)) (ck_sl AS) n F
    | _ => false)
noncomputable def ck_h_goto (off : Int) (O : gm_Or) (lx : Option Nat) (XF : List (Int × Int × ck_I)) (E : List (Nat × List ck_Sum)) (mi d n0 : Nat) (W : List (Nat × Int × Int) × List (Nat × Int)) (outs : List ck_Oc) (bc bs pc : Nat) (AL : ck_AL) (AS : ck_AS) (n : Nat) (F : ck_F) (k : Nat → Nat → Nat → ck_AL → ck_AS → Nat → ck_F → Bool) : Bool := decide (0 ≤ (pc : Int) + off) && k bc bs (gm_tgt pc off) AL AS n F
noncomputable def ck_h_ifCond (c : ClassFile.Cond) (off : Int) (O : gm_Or) (lx : Option Nat) (XF : List (Int × Int × ck_I)) (E : List (Nat × List ck_Sum)) (mi d n0 : Nat) (W : List (Nat × Int × Int) × List (Nat × Int)) (outs : List ck_Oc) (bc bs pc : Nat) (AL : ck_AL) (AS : ck_AS) (n : Nat) (F : ck_F) (k : Nat → Nat → Nat → ck_AL → ck_AS → Nat → ck_F → Bool) : Bool := (match AS with
    | (.inl a, s) :: AS' => decide (0 ≤ (pc : Int) + off) && (ck_br c a s (ck_one 0) none AL F (fun AL F => k bc bs (gm_tgt pc off) AL AS' n (ck_rE O F)) && ck_br (ck_ng c) a s (ck_one 0) none AL F (fun AL F => k bc bs (pc + 3) AL AS' n (ck_rE O F)))
    | _ => false)
noncomputable def ck_h_if_icmp (c : ClassFile.Cond) (off : Int) (O : gm_Or) (lx : Option Nat) (XF : List (Int × Int × ck_I)) (E : List (Nat × List ck_Sum)) (mi d n0 : Nat) (W : List (Nat × Int × Int) × List (Nat × Int)) (outs : List ck_Oc) (bc bs pc : Nat) (AL : ck_AL) (AS : ck_AS) (n : Nat) (F : ck_F) (k : Nat → Nat → Nat → ck_AL → ck_AS → Nat → ck_F → Bool) : Bool := (match AS with
    | (.inl b, t) :: (.inl a, s) :: AS' => decide (0 ≤ (pc : Int) + off) && (match ck_lkp O F s t with
      | some w => ck_br c w (some (.inr (.inl (0, 4, 0)))) (ck_one 0) none AL F (fun AL F => k bc bs (gm_tgt pc off) AL AS' n (ck_rE O F)) && ck_br (ck_ng c) w (some (.inr (.inl (0, 4, 0)))) (ck_one 0) none AL F (fun AL F => k bc bs (pc + 3) AL AS' n (ck_rE O F))
      | none => ck_br c a s b t AL F (fun AL F => k bc bs (gm_tgt pc off) AL AS' n (ck_rE O F)) && ck_br (ck_ng c) a s b t AL F (fun AL F => k bc bs (pc + 3) AL AS' n (ck_rE O F)))
    | _ => false)
noncomputable def ck_h_ifnull (off : Int) (O : gm_Or) (lx : Option Nat) (XF : List (Int × Int × ck_I)) (E : List (Nat × List ck_Sum)) (mi d n0 : Nat) (W : List (Nat × Int × Int) × List (Nat × Int)) (outs : List ck_Oc) (bc bs pc : Nat) (AL : ck_AL) (AS : ck_AS) (n : Nat) (F : ck_F) (k : Nat → Nat → Nat → ck_AL → ck_AS → Nat → ck_F → Bool) : Bool := (match AS with
    | (.inr (.inr (.inl r)), _) :: AS' => (decide (0 ≤ (pc : Int) + off) && decide (r < 100000)) && (if r = 0 then k bc bs (gm_tgt pc off) AL AS' n F else k bc bs (pc + 3) AL AS' n F)
    | _ => false)
noncomputable def ck_h_ifnonnull (off : Int) (O : gm_Or) (lx : Option Nat) (XF : List (Int × Int × ck_I)) (E : List (Nat × List ck_Sum)) (mi d n0 : Nat) (W : List (Nat × Int × Int) × List (Nat × Int)) (outs : List ck_Oc) (bc bs pc : Nat) (AL : ck_AL) (AS : ck_AS) (n : Nat) (F : ck_F) (k : Nat → Nat → Nat → ck_AL → ck_AS → Nat → ck_F → Bool) : Bool := (match AS with
    | (.inr (.inr (.inl r)), _) :: AS' => (decide (0 ≤ (pc : Int) + off) && decide (r < 100000)) && (if r = 0 then k bc bs (pc + 3) AL AS' n F else k bc bs (gm_tgt pc off) AL AS' n F)
    | _ => false)
noncomputable def ck_h_tableswitch (df lo hi : Int) (offs : Array Int) (O : gm_Or) (lx : Option Nat) (XF : List (Int × Int × ck_I)) (E : List (Nat × List ck_Sum)) (mi d n0 : Nat) (W : List (Nat × Int × Int) × List (Nat × Int)) (outs : List ck_Oc) (bc bs pc : Nat) (AL : ck_AL) (AS : ck_AS) (n : Nat) (F : ck_F) (k : Nat → Nat → Nat → ck_AL → ck_AS → Nat → ck_F → Bool) : Bool := (match AS with
    | (.inl a, s) :: AS' => (decide (((offs.size : Nat) : Int) = hi - lo + 1) && (decide (0 ≤ (pc : Int) + df) && (offs.toList.all (fun o => decide (0 ≤ (pc : Int) + o)) && (decide (-2147483647 ≤ lo) && decide (hi < 2147483647))))) && ((ck_br .lt a s (ck_one lo) none AL F (fun AL F => k bc bs (gm_tgt pc df) AL AS' n F) && ck_br .gt a s (ck_one hi) none AL F (fun AL F => k bc bs (gm_tgt pc df) AL AS' n F)) && ck_swk a s AL F pc (fun q AL F => k bc bs q AL AS' n F) offs.toList lo)
    | _ => false)
noncomputable def ck_h_getfield (ix : Nat) (O : gm_Or) (lx : Option Nat) (XF : List (Int × Int × ck_I)) (E : List (Nat × List ck_Sum)) (mi d n0 : Nat) (W : List (Nat × Int × Int) × List (Nat × Int)) (outs : List ck_Oc) (bc bs pc : Nat) (AL : ck_AL) (AS : ck_AS) (n : Nat) (F : ck_F) (k : Nat → Nat → Nat → ck_AL → ck_AS → Nat → ck_F → Bool) : Bool := (match AS with
    | (.inr (.inr (.inl r)), _) :: AS' => (match ck_kd O F r with
      | some q => (match gm_fld (gm_ow mi) ix (q.1 - 4) with
        | some j => decide (4 ≤ q.1) && (if gm_isr (q.1 - 4) j = true then (match ck_fR O F r j with
            | some v => k bc bs (pc + 3) AL ((.inr (.inr (.inl v)), none) :: AS') n F
            | none => false) else (match ck_fi F r j j with
              | some a => k bc bs (pc + 3) AL ((.inl a, some (.inr (.inl (r, (j : Int), 0)))) :: AS') n F
              | none => (match gm_tyr O r j j with
                | some t => k bc bs (pc + 3) AL ((.inl (t.1, t.2, []), some (.inr (.inl (r, (j : Int), 0)))) :: AS') n (F.1, F.2.1, (r, (j : Int), (j : Int), (t.1, t.2, [])) :: F.2.2)
                | none => k bc bs (pc + 3) AL ((.inl ck_top, none) :: AS') n F)))
        | none => false)
      | none => false)
    | _ => false)
noncomputable def ck_h_putfield (ix : Nat) (O : gm_Or) (lx : Option Nat) (XF : List (Int × Int × ck_I)) (E : List (Nat × List ck_Sum)) (mi d n0 : Nat) (W : List (Nat × Int × Int) × List (Nat × Int)) (outs : List ck_Oc) (bc bs pc : Nat) (AL : ck_AL) (AS : ck_AS) (n : Nat) (F : ck_F) (k : Nat → Nat → Nat → ck_AL → ck_AS → Nat → ck_F → Bool) : Bool := (match AS with
    | (.inl a, s) :: (.inr (.inr (.inl r)), _) :: AS' => (match ck_kd O F r with
      | some q => (match gm_fld (gm_ow mi) ix (q.1 - 4) with
        | some j => (match ck_gp O F r j s a with
          | some g => (decide (4 ≤ q.1) && (gm_may mi (q.1 - 4) j && ((gm_tyv O r j j a.1 a.2.1 && (O.2.2.ty 0).isEmpty) && ((ck_okW W.1 n0 r j j && (ck_okW W.1 n0 0 4 4 && (ck_okW W.1 n0 0 3 3 && ck_okW W.1 n0 0 5 5))) && ((ck_in g.1 && (ck_in g.2.1 && ck_in g.2.2)) && gm_fk (q.1 - 4) j == 0))))) && k bc bs (pc + 3) AL (ck_sh AS') n (ck_gF F r j a g)
          | none => (decide (4 ≤ q.1) && (gm_may mi (q.1 - 4) j && (gm_tyw O r j j a.1 a.2.1 && (ck_okW W.1 n0 r j j && (gm_fk (q.1 - 4) j == 0 || (gm_fk (q.1 - 4) j == 1 && (decide (0 ≤ a.1) && decide (a.2.1 ≤ 1)))))))) && k bc bs (pc + 3) AL (ck_sh AS') n (ck_upT O F r j j a))
        | none => false)
      | none => false)
    | (.inr (.inr (.inl v)), _) :: (.inr (.inr (.inl r)), _) :: AS' => (match ck_kd O F r with
      | some q => (match gm_fld (gm_ow mi) ix (q.1 - 4) with
        | some j => (decide (4 ≤ q.1) && (gm_may mi (q.1 - 4) j && ((O.2.1 r j).isNone && (ck_okR W.2 n0 r j && gm_fk (q.1 - 4) j == 2)))) && k bc bs (pc + 3) AL AS' n (ck_upR F r j v)
        | none => false)
      | none => false)
    | _ => false)
noncomputable def ck_h_iaload  (O : gm_Or) (lx : Option Nat) (XF : List (Int × Int × ck_I)) (E : List (Nat × List ck_Sum)) (mi d n0 : Nat) (W : List (Nat × Int × Int) × List (Nat × Int)) (outs : List ck_Oc) (bc bs pc : Nat) (AL : ck_AL) (AS : ck_AS) (n : Nat) (F : ck_F) (k : Nat → Nat → Nat → ck_AL → ck_AS → Nat → ck_F → Bool) : Bool := (match AS with
    | (.inl e, _) :: (.inr (.inr (.inl r)), _) :: AS' => (match ck_kd O F r with
      | some q => (q.1 == 0 && (decide (0 ≤ e.1) && decide (e.2.1 < (q.2 : Int)))) && (match ck_fi F r e.1 e.2.1 with
        | some a => k bc bs (pc + 1) AL ((.inl a, if ck_sg e = true then some (.inr (.inl (r, e.1, 0))) else none) :: AS') n F
        | none => (match gm_tyr O r e.1 e.2.1 with
          | some t => if ck_sg e = true then k bc bs (pc + 1) AL ((.inl (t.1, t.2, []), some (.inr (.inl (r, e.1, 0)))) :: AS') n (F.1, F.2.1, (r, e.1, e.1, (t.1, t.2, [])) :: F.2.2) else k bc bs (pc + 1) AL ((.inl (t.1, t.2, []), none) :: AS') n F
          | none => k bc bs (pc + 1) AL ((.inl ck_top, none) :: AS') n F))
      | none => false)
    | (.inl e, _) :: (.inr (.inr (.inr c)), _) :: AS' => (match lx with
      | some l => (c == 2000 && (decide (0 ≤ e.1) && decide (e.2.1 < (l : Int)))) && (match XF.find? fun q => decide (q.1 ≤ e.1) && decide (e.2.1 ≤ q.2.1) with
        | some q => k bc bs (pc + 1) AL ((.inl q.2.2, none) :: AS') n F
        | none => k bc bs (pc + 1) AL ((.inl ck_top, none) :: AS') n F)
      | none => false)
    | _ => false)
noncomputable def ck_h_baload  (O : gm_Or) (lx : Option Nat) (XF : List (Int × Int × ck_I)) (E : List (Nat × List ck_Sum)) (mi d n0 : Nat) (W : List (Nat × Int × Int) × List (Nat × Int)) (outs : List ck_Oc) (bc bs pc : Nat) (AL : ck_AL) (AS : ck_AS) (n : Nat) (F : ck_F) (k : Nat → Nat → Nat → ck_AL → ck_AS → Nat → ck_F → Bool) : Bool := (match AS with
    | (.inl e, _) :: (.inr (.inr (.inl r)), _) :: AS' => (match ck_kd O F r with
      | some q => (q.1 == 1 && (decide (0 ≤ e.1) && decide (e.2.1 < (q.2 : Int)))) && (match ck_fi F r e.1 e.2.1 with
        | some a => k bc bs (pc + 1) AL ((.inl a, if ck_sg e = true then some (.inr (.inl (r, e.1, 0))) else none) :: AS') n F
        | none => (match gm_tyr O r e.1 e.2.1 with
          | some t => if ck_sg e = true then k bc bs (pc + 1) AL ((.inl (t.1, t.2, []), some (.inr (.inl (r, e.1, 0)))) :: AS') n (F.1, F.2.1, (r, e.1, e.1, (t.1, t.2, [])) :: F.2.2) else k bc bs (pc + 1) AL ((.inl (t.1, t.2, []), none) :: AS') n F
          | none => k bc bs (pc + 1) AL ((.inl ck_top, none) :: AS') n F))
      | none => false)
    | _ => false)
noncomputable def ck_h_laload  (O : gm_Or) (lx : Option Nat) (XF : List (Int × Int × ck_I)) (E : List (Nat × List ck_Sum)) (mi d n0 : Nat) (W : List (Nat × Int × Int) × List (Nat × Int)) (outs : List ck_Oc) (bc bs pc : Nat) (AL : ck_AL) (AS : ck_AS) (n : Nat) (F : ck_F) (k : Nat → Nat → Nat → ck_AL → ck_AS → Nat → ck_F → Bool) : Bool := (match AS with
    | (.inl e, _) :: (.inr (.inr (.inl r)), _) :: AS' => (match ck_kd O F r with
      | some q => (q.1 == 2 && (decide (0 ≤ e.1) && decide (e.2.1 < (q.2 : Int)))) && (match ck_fi F r e.1 e.2.1 with
        | some a => k bc bs (pc + 1) AL ((.inr (.inl a), none) :: AS') n F
        | none => k bc bs (pc + 1) AL ((.inr (.inl ck_tp6), none) :: AS') n F)
      | none => false)
    | _ => false)
noncomputable def ck_h_aaload  (O : gm_Or) (lx : Option Nat) (XF : List (Int × Int × ck_I)) (E : List (Nat × List ck_Sum)) (mi d n0 : Nat) (W : List (Nat × Int × Int) × List (Nat × Int)) (outs : List ck_Oc) (bc bs pc : Nat) (AL : ck_AL) (AS : ck_AS) (n : Nat) (F : ck_F) (k : Nat → Nat → Nat → ck_AL → ck_AS → Nat → ck_F → Bool) : Bool := (match AS with
    | (.inl e, _) :: (.inr (.inr (.inl r)), _) :: AS' => (match ck_kd O F r with
      | some q => (q.1 == 3 && (decide (0 ≤ e.1) && (decide (e.2.1 < (q.2 : Int)) && decide (e.2.1 < e.1 + 20)))) && (List.range (e.2.1 + 1 - e.1).toNat).all fun (i : Nat) => (match ck_fR O F r (e.1 + (i : Int)) with
        | some v => k bc bs (pc + 1) AL ((.inr (.inr (.inl v)), none) :: AS') n F
        | none => false)
      | none => false)
    | _ => false)
noncomputable def ck_h_iastore  (O : gm_Or) (lx : Option Nat) (XF : List (Int × Int × ck_I)) (E : List (Nat × List ck_Sum)) (mi d n0 : Nat) (W : List (Nat × Int × Int) × List (Nat × Int)) (outs : List ck_Oc) (bc bs pc : Nat) (AL : ck_AL) (AS : ck_AS) (n : Nat) (F : ck_F) (k : Nat → Nat → Nat → ck_AL → ck_AS → Nat → ck_F → Bool) : Bool := (match AS with
    | (.inl a, _) :: (.inl e, _) :: (.inr (.inr (.inl r)), _) :: AS' => (match ck_kd O F r with
      | some q => (q.1 == 0 && (decide (0 ≤ e.1) && (decide (e.2.1 < (q.2 : Int)) && (ck_okW W.1 n0 r e.1 e.2.1 && gm_tyw O r e.1 e.2.1 a.1 a.2.1)))) && k bc bs (pc + 1) AL (ck_sh AS') n (ck_upT O F r e.1 e.2.1 a)
      | none => false)
    | _ => false)
noncomputable def ck_h_bastore  (O : gm_Or) (lx : Option Nat) (XF : List (Int × Int × ck_I)) (E : List (Nat × List ck_Sum)) (mi d n0 : Nat) (W : List (Nat × Int × Int) × List (Nat × Int)) (outs : List ck_Oc) (bc bs pc : Nat) (AL : ck_AL) (AS : ck_AS) (n : Nat) (F : ck_F) (k : Nat → Nat → Nat → ck_AL → ck_AS → Nat → ck_F → Bool) : Bool := (match AS with
    | (.inl a, _) :: (.inl e, _) :: (.inr (.inr (.inl r)), _) :: AS' => (match ck_kd O F r with
      | some q => (q.1 == 1 && (decide (0 ≤ e.1) && (decide (e.2.1 < (q.2 : Int)) && (ck_okW W.1 n0 r e.1 e.2.1 && (if -128 ≤ a.1 ∧ a.2.1 ≤ 127 then gm_tyw O r e.1 e.2.1 a.1 a.2.1 else gm_tyw O r e.1 e.2.1 (-128) 127))))) && k bc bs (pc + 1) AL (ck_sh AS') n (ck_upT O F r e.1 e.2.1 (if -128 ≤ a.1 ∧ a.2.1 ≤ 127 then a else (-128, 127, [])))
      | none => false)
    | _ => false)
noncomputable def ck_h_lastore  (O : gm_Or) (lx : Option Nat) (XF : List (Int × Int × ck_I)) (E : List (Nat × List ck_Sum)) (mi d n0 : Nat) (W : List (Nat × Int × Int) × List (Nat × Int)) (outs : List ck_Oc) (bc bs pc : Nat) (AL : ck_AL) (AS : ck_AS) (n : Nat) (F : ck_F) (k : Nat → Nat → Nat → ck_AL → ck_AS → Nat → ck_F → Bool) : Bool := (match AS with
    | (.inr (.inl a), _) :: (.inl e, _) :: (.inr (.inr (.inl r)), _) :: AS' => (match ck_kd O F r with
      | some q => (q.1 == 2 && (decide (0 ≤ e.1) && (decide (e.2.1 < (q.2 : Int)) && (ck_okW W.1 n0 r e.1 e.2.1 && ((O.2.2.ty r).isEmpty && (O.2.2.fp r).isEmpty))))) && (if ck_in a = true then k bc bs (pc + 1) AL (ck_sh AS') n (ck_up F r e.1 e.2.1 a) else k bc bs (pc + 1) AL (ck_sh AS') n (F.1, F.2.1, F.2.2.filter fun p => !(p.1 == r)))
      | none => false)
    | _ => false)
noncomputable def ck_h_aastore  (O : gm_Or) (lx : Option Nat) (XF : List (Int × Int × ck_I)) (E : List (Nat × List ck_Sum)) (mi d n0 : Nat) (W : List (Nat × Int × Int) × List (Nat × Int)) (outs : List ck_Oc) (bc bs pc : Nat) (AL : ck_AL) (AS : ck_AS) (n : Nat) (F : ck_F) (k : Nat → Nat → Nat → ck_AL → ck_AS → Nat → ck_F → Bool) : Bool := (match AS with
    | (.inr (.inr (.inl v)), _) :: (.inl e, _) :: (.inr (.inr (.inl r)), _) :: AS' => (match ck_kd O F r, ck_kd O F v with
      | some q, some p => (q.1 == 3 && (p.1 == 5 && (ck_sg e && (decide (0 ≤ e.1) && (decide (e.1 < (q.2 : Int)) && ((O.2.1 r e.1).isNone && ck_okR W.2 n0 r e.1)))))) && k bc bs (pc + 1) AL AS' n (ck_upR F r e.1 v)
      | _, _ => false)
    | _ => false)
noncomputable def ck_h_arraylength  (O : gm_Or) (lx : Option Nat) (XF : List (Int × Int × ck_I)) (E : List (Nat × List ck_Sum)) (mi d n0 : Nat) (W : List (Nat × Int × Int) × List (Nat × Int)) (outs : List ck_Oc) (bc bs pc : Nat) (AL : ck_AL) (AS : ck_AS) (n : Nat) (F : ck_F) (k : Nat → Nat → Nat → ck_AL → ck_AS → Nat → ck_F → Bool) : Bool := (match AS with
    | (.inr (.inr (.inl r)), _) :: AS' => (match ck_kd O F r with
      | some q => (decide (q.1 ≤ 3) && ck_cvk (gm_vi (q.2 : Int))) && k bc bs (pc + 1) AL ((.inl (ck_one q.2), none) :: AS') n F
      | none => false)
    | (.inr (.inr (.inr c)), _) :: AS' => (match lx with
      | some l => (c == 2000 && ck_cvk (gm_vi (l : Int))) && k bc bs (pc + 1) AL ((.inl (ck_one l), none) :: AS') n F
      | none => false)
    | _ => false)
noncomputable def ck_h_new (ix : Nat) (O : gm_Or) (lx : Option Nat) (XF : List (Int × Int × ck_I)) (E : List (Nat × List ck_Sum)) (mi d n0 : Nat) (W : List (Nat × Int × Int) × List (Nat × Int)) (outs : List ck_Oc) (bc bs pc : Nat) (AL : ck_AL) (AS : ck_AS) (n : Nat) (F : ck_F) (k : Nat → Nat → Nat → ck_AL → ck_AS → Nat → ck_F → Bool) : Bool := (match gm_new (gm_ow mi) ix with
    | some ci => ((decide (1 ≤ bc) && decide (gm_nf ci ≤ bs)) && decide (n + 1 < 100000)) && k (bc - 1) (bs - gm_nf ci) (pc + 3) AL ((.inr (.inr (.inl (n + 1))), none) :: ck_sh AS) (n + 1) ((n + 1, ci + 4, 0) :: F.1, F.2.1, ((List.range (gm_nf ci)).map fun (j : Nat) => (n + 1, (j : Int), (j : Int), ck_one 0)) ++ F.2.2)
    | none => (match gm_isx mi pc ix with
      | some x => ((gm_hh mi).isEmpty && (decide (6 ≤ d) && (ck_sum8 AS && (decide (1 ≤ bc) && decide (6 ≤ bs))))) && ck_end O outs (.inl x) n F
      | none => false))
noncomputable def ck_h_newarray (at0 : ArrayType) (O : gm_Or) (lx : Option Nat) (XF : List (Int × Int × ck_I)) (E : List (Nat × List ck_Sum)) (mi d n0 : Nat) (W : List (Nat × Int × Int) × List (Nat × Int)) (outs : List ck_Oc) (bc bs pc : Nat) (AL : ck_AL) (AS : ck_AS) (n : Nat) (F : ck_F) (k : Nat → Nat → Nat → ck_AL → ck_AS → Nat → ck_F → Bool) : Bool := (match AS, (match at0 with | .int => some 0 | .byte => some 1 | .long => some 2 | _ => none : Option Nat) with
    | (.inl e, _) :: AS', some kd => (ck_sg e && (decide (0 ≤ e.1) && (decide (e.1 < 60000000) && (decide (1 ≤ bc) && (decide (e.1.toNat ≤ bs) && decide (n + 1 < 100000)))))) && k (bc - 1) (bs - e.1.toNat) (pc + 2) AL ((.inr (.inr (.inl (n + 1))), none) :: ck_sh AS') (n + 1) ((n + 1, kd, e.1.toNat) :: F.1, F.2.1, (n + 1, 0, e.1 - 1, ck_one 0) :: F.2.2)
    | _, _ => false)
noncomputable def ck_h_anewarray (ix : Nat) (O : gm_Or) (lx : Option Nat) (XF : List (Int × Int × ck_I)) (E : List (Nat × List ck_Sum)) (mi d n0 : Nat) (W : List (Nat × Int × Int) × List (Nat × Int)) (outs : List ck_Oc) (bc bs pc : Nat) (AL : ck_AL) (AS : ck_AS) (n : Nat) (F : ck_F) (k : Nat → Nat → Nat → ck_AL → ck_AS → Nat → ck_F → Bool) : Bool := (match AS with
    | (.inl e, _) :: AS' => (decide (gm_new (gm_ow mi) ix = some 1) && (ck_sg e && (decide (0 ≤ e.1) && (decide (e.1 < 60000000) && (decide (1 ≤ bc) && (decide (e.1.toNat ≤ bs) && decide (n + 1 < 100000))))))) && k (bc - 1) (bs - e.1.toNat) (pc + 3) AL ((.inr (.inr (.inl (n + 1))), none) :: ck_sh AS') (n + 1) ((n + 1, 3, e.1.toNat) :: F.1, F.2.1, F.2.2)
    | _ => false)
noncomputable def ck_h_ldc (ix : Nat) (O : gm_Or) (lx : Option Nat) (XF : List (Int × Int × ck_I)) (E : List (Nat × List ck_Sum)) (mi d n0 : Nat) (W : List (Nat × Int × Int) × List (Nat × Int)) (outs : List ck_Oc) (bc bs pc : Nat) (AL : ck_AL) (AS : ck_AS) (n : Nat) (F : ck_F) (k : Nat → Nat → Nat → ck_AL → ck_AS → Nat → ck_F → Bool) : Bool := (match gm_ild (gm_ow mi) ix with
    | some q => (q.2 == 0 && ck_cvk (gm_vi q.1)) && k bc bs (pc + 2) AL ((.inl (ck_one q.1), none) :: AS) n F
    | none => (match gm_sld (gm_ow mi) ix with
      | some id => k bc bs (pc + 2) AL ((.inr (.inr (.inr id)), none) :: AS) n F
      | none => false))
noncomputable def ck_h_ldc_w (ix : Nat) (O : gm_Or) (lx : Option Nat) (XF : List (Int × Int × ck_I)) (E : List (Nat × List ck_Sum)) (mi d n0 : Nat) (W : List (Nat × Int × Int) × List (Nat × Int)) (outs : List ck_Oc) (bc bs pc : Nat) (AL : ck_AL) (AS : ck_AS) (n : Nat) (F : ck_F) (k : Nat → Nat → Nat → ck_AL → ck_AS → Nat → ck_F → Bool) : Bool := (match gm_ild (gm_ow mi) ix with
    | some q => (q.2 == 0 && ck_cvk (gm_vi q.1)) && k bc bs (pc + 3) AL ((.inl (ck_one q.1), none) :: AS) n F
    | none => (match gm_sld (gm_ow mi) ix with
      | some id => k bc bs (pc + 3) AL ((.inr (.inr (.inr id)), none) :: AS) n F
      | none => false))
noncomputable def ck_h_ldc2_w (ix : Nat) (O : gm_Or) (lx : Option Nat) (XF : List (Int × Int × ck_I)) (E : List (Nat × List ck_Sum)) (mi d n0 : Nat) (W : List (Nat × Int × Int) × List (Nat × Int)) (outs : List ck_Oc) (bc bs pc : Nat) (AL : ck_AL) (AS : ck_AS) (n : Nat) (F : ck_F) (k : Nat → Nat → Nat → ck_AL → ck_AS → Nat → ck_F → Bool) : Bool := (match gm_ild (gm_ow mi) ix with
    | some q => (q.2 == 1 && ck_cvk (gm_vl q.1)) && k bc bs (pc + 3) AL ((.inr (.inl (ck_one q.1)), none) :: AS) n F
    | none => false)
noncomputable def ck_h_invokestatic (ix : Nat) (O : gm_Or) (lx : Option Nat) (XF : List (Int × Int × ck_I)) (E : List (Nat × List ck_Sum)) (mi d n0 : Nat) (W : List (Nat × Int × Int) × List (Nat × Int)) (outs : List ck_Oc) (bc bs pc : Nat) (AL : ck_AL) (AS : ck_AS) (n : Nat) (F : ck_F) (k : Nat → Nat → Nat → ck_AL → ck_AS → Nat → ck_F → Bool) : Bool := (match gm_cal (gm_ow mi) ix with
    | some q => if q.1 = 5 then ((gm_hh mi).isEmpty && (!(gm_hh q.2).isEmpty && (decide (gm_ow q.2 ≠ gm_mxi) && (decide ((AS.take (gm_na q.2)).length = gm_na q.2) && (ck_n1 (AS.take (gm_na q.2)) && (decide (gm_na q.2 ≤ gm_ml q.2) && ck_sum8 (AS.drop (gm_na q.2)))))))) && ck_call O E d n0 W bc bs n q.2 F ((AS.take (gm_na q.2)).reverse.map Prod.fst) (fun bc bs how n F => match how with
          | .inl x => ck_thr O outs mi pc x n F (fun h => k bc bs h AL [(.inr (.inr (.inr 4000)), none)] n F)
          | .inr u => k bc bs (pc + 3) AL (ck_psh u (AS.drop (gm_na q.2))) n F) else (q.1 == 2 && decide (1 ≤ d)) && (if q.2 = gm_jmax then (match AS with
        | (.inl b, _) :: (.inl a, _) :: AS' => ck_sum8 AS' && k bc bs (pc + 3) AL ((.inl (if a.1 ≤ b.1 then b.1 else a.1, if a.2.1 ≤ b.2.1 then b.2.1 else a.2.1, []), none) :: AS') n F
        | _ => false) else if q.2 = gm_jmin then (match AS with
        | (.inl b, _) :: (.inl a, _) :: AS' => ck_sum8 AS' && k bc bs (pc + 3) AL ((.inl (if a.1 ≤ b.1 then a.1 else b.1, if a.2.1 ≤ b.2.1 then a.2.1 else b.2.1, []), none) :: AS') n F
        | _ => false) else ((gm_hh mi).isEmpty && (decide (gm_ow q.2 ≠ gm_mxi) && (decide ((AS.take (gm_na q.2)).length = gm_na q.2) && (ck_n1 (AS.take (gm_na q.2)) && (decide (gm_na q.2 ≤ gm_ml q.2) && ck_sum8 (AS.drop (gm_na q.2))))))) && ck_call O E d n0 W bc bs n q.2 F ((AS.take (gm_na q.2)).reverse.map Prod.fst) (fun bc bs how n F => match how with
          | .inl x => ck_thr O outs mi pc x n F (fun h => k bc bs h AL [(.inr (.inr (.inr 4000)), none)] n F)
          | .inr u => k bc bs (pc + 3) AL (ck_psh u (AS.drop (gm_na q.2))) n F))
    | none => gm_ac (gm_ow mi) ix && (match AS with
      | (.inl m, _) :: (.inl dp, _) :: (.inr (.inr (.inl k2)), _) :: (.inl sp, _) :: (.inr (.inr (.inl k1)), _) :: AS' => (match ck_kd O F k1, ck_kd O F k2 with
        | some q1, some q2 => (q1.1 == 0 && (q2.1 == 0 && (decide (0 ≤ sp.1) && (decide (0 ≤ dp.1) && (decide (0 ≤ m.1) && (decide (sp.2.1 + m.2.1 ≤ (q1.2 : Int)) && (decide (dp.2.1 + m.2.1 ≤ (q2.2 : Int)) && (ck_okW W.1 n0 k2 dp.1 (dp.2.1 + m.2.1 - 1) && (ck_sum8 AS' && (decide (1 ≤ d) && (match ck_rd O F k1 sp.1 (sp.2.1 + m.2.1 - 1) with | some a => gm_tyw O k2 dp.1 (dp.2.1 + m.2.1 - 1) a.1 a.2.1 | none => ((O.2.2.ty k2).isEmpty && (O.2.2.fp k2).isEmpty)))))))))))) && k bc bs (pc + 3) AL (ck_sh AS') n (F.1, F.2.1, ck_cws [(k2, dp.1, dp.2.1 + m.2.1 - 1)] F.2.2)
        | _, _ => false)
      | _ => false))
noncomputable def ck_h_invokevirtual (ix : Nat) (O : gm_Or) (lx : Option Nat) (XF : List (Int × Int × ck_I)) (E : List (Nat × List ck_Sum)) (mi d n0 : Nat) (W : List (Nat × Int × Int) × List (Nat × Int)) (outs : List ck_Oc) (bc bs pc : Nat) (AL : ck_AL) (AS : ck_AS) (n : Nat) (F : ck_F) (k : Nat → Nat → Nat → ck_AL → ck_AS → Nat → ck_F → Bool) : Bool := (match gm_cal (gm_ow mi) ix with
    | some q => if q.2 = 82 then (match AS with
        | (.inr (.inr (.inr id)), _) :: AS' => (q.1 == 0 && ((gm_hh mi).isEmpty && (decide (id < gm_sl.length) && (ck_sum8 AS' && decide (2 ≤ d))))) && k bc bs (pc + 3) AL ((.inl (ck_one (gm_slen id)), none) :: AS') n F
        | _ => false) else if q.2 = 84 then (match AS with
        | (.inl e, _) :: (.inr (.inr (.inr id)), _) :: AS' => (q.1 == 0 && ((gm_hh mi).isEmpty && (decide (id < gm_sl.length) && (ck_sum8 AS' && (decide (4 ≤ d) && (decide (0 ≤ e.1) && decide (e.2.1 < (gm_slen id : Int)))))))) && k bc bs (pc + 3) AL ((.inl (0, 127, []), none) :: AS') n F
        | _ => false) else (q.1 == 0 && (decide (gm_ow q.2 ≠ gm_mxi) && (decide (gm_cio q.2 < 12) && (decide ((AS.take (gm_na q.2)).length = gm_na q.2) && (ck_n1 (AS.take (gm_na q.2)) && decide (gm_na q.2 + 1 ≤ gm_ml q.2)))))) && (match AS.drop (gm_na q.2) with
      | (.inr (.inr (.inl r)), _) :: AS' => (ck_sum8 AS' && (match ck_kd O F r with
          | some p => p.1 == gm_cio q.2 + 4
          | none => false)) && ck_call O E d n0 W bc bs n q.2 F ((.inr (.inr (.inl r))) :: (AS.take (gm_na q.2)).reverse.map Prod.fst) (fun bc bs how n F => match how with
          | .inl x => ck_thr O outs mi pc x n F (fun h => k bc bs h AL [(.inr (.inr (.inr 4000)), none)] n F)
          | .inr u => k bc bs (pc + 3) AL (ck_psh u AS') n F)
      | _ => false)
    | none => (match gm_una (gm_ow mi) ix with
      | some na => (match AS.drop na with
        | (.inr (.inr (.inl r)), _) :: AS' => (match ck_kd O F r with
          | some p => (match gm_up (gm_ow mi) ix (p.1 - 4) with
            | some mj => ((gm_hh mi).isEmpty && (decide (4 ≤ p.1) && (decide ((AS.take na).length = na) && (decide (gm_na mj = na) && (ck_n1 (AS.take na) && (decide (na + 1 ≤ gm_ml mj) && ck_sum8 AS')))))) && ck_call O E d n0 W bc bs n mj F ((.inr (.inr (.inl r))) :: (AS.take na).reverse.map Prod.fst) (fun bc bs how n F => match how with
              | .inl x => ck_thr O outs mi pc x n F (fun h => k bc bs h AL [(.inr (.inr (.inr 4000)), none)] n F)
              | .inr u => k bc bs (pc + 3) AL (ck_psh u AS') n F)
            | none => false)
          | none => false)
        | _ => false)
      | none => false))
noncomputable def ck_h_invokespecial (ix : Nat) (O : gm_Or) (lx : Option Nat) (XF : List (Int × Int × ck_I)) (E : List (Nat × List ck_Sum)) (mi d n0 : Nat) (W : List (Nat × Int × Int) × List (Nat × Int)) (outs : List ck_Oc) (bc bs pc : Nat) (AL : ck_AL) (AS : ck_AS) (n : Nat) (F : ck_F) (k : Nat → Nat → Nat → ck_AL → ck_AS → Nat → ck_F → Bool) : Bool := if gm_oi (gm_ow mi) ix = true then (match AS with
      | (.inr (.inr (.inl r)), _) :: AS' => (ck_sum8 AS' && (decide (1 ≤ d) && (decide (1 ≤ r) && decide (r ≤ n)))) && k bc bs (pc + 3) AL AS' n F
      | _ => false) else (match gm_cal (gm_ow mi) ix with
    | some q => ((gm_hh mi).isEmpty && ((q.1 == 1 || q.1 == 3) && (decide (gm_ow q.2 ≠ gm_mxi) && (decide ((AS.take (gm_na q.2)).length = gm_na q.2) && (ck_n1 (AS.take (gm_na q.2)) && decide (gm_na q.2 + 1 ≤ gm_ml q.2)))))) && (match AS.drop (gm_na q.2) with
      | (.inr (.inr (.inl r)), _) :: AS' => (ck_sum8 AS' && (decide (1 ≤ r) && decide (r ≤ n))) && ck_call O E d n0 W bc bs n q.2 F ((.inr (.inr (.inl r))) :: (AS.take (gm_na q.2)).reverse.map Prod.fst) (fun bc bs how n F => match how with
          | .inl x => ck_thr O outs mi pc x n F (fun h => k bc bs h AL [(.inr (.inr (.inr 4000)), none)] n F)
          | .inr u => k bc bs (pc + 3) AL (ck_psh u AS') n F)
      | _ => false)
    | none => false)
noncomputable def ck_h_ireturn  (O : gm_Or) (lx : Option Nat) (XF : List (Int × Int × ck_I)) (E : List (Nat × List ck_Sum)) (mi d n0 : Nat) (W : List (Nat × Int × Int) × List (Nat × Int)) (outs : List ck_Oc) (bc bs pc : Nat) (AL : ck_AL) (AS : ck_AS) (n : Nat) (F : ck_F) (k : Nat → Nat → Nat → ck_AL → ck_AS → Nat → ck_F → Bool) : Bool := (match AS with
    | (.inl a, s) :: [] => (match gm_rt mi with
      | some .int => cond (ck_sgn a s) (ck_br .lt a s (ck_one 0) none AL F (fun _ F => ck_end O outs (.inr (some (.inl (ck_rf .lt a (ck_one 0))))) n F) && ck_br .ge a s (ck_one 0) none AL F (fun _ F => ck_end O outs (.inr (some (.inl (ck_rf .ge a (ck_one 0))))) n F)) (ck_end O outs (.inr (some (.inl a))) n F)
      | some .boolean => (decide (0 ≤ a.1) && decide (a.2.1 ≤ 1)) && ck_end O outs (.inr (some (.inl a))) n F
      | _ => false)
    | _ => false)
noncomputable def ck_h_return  (O : gm_Or) (lx : Option Nat) (XF : List (Int × Int × ck_I)) (E : List (Nat × List ck_Sum)) (mi d n0 : Nat) (W : List (Nat × Int × Int) × List (Nat × Int)) (outs : List ck_Oc) (bc bs pc : Nat) (AL : ck_AL) (AS : ck_AS) (n : Nat) (F : ck_F) (k : Nat → Nat → Nat → ck_AL → ck_AS → Nat → ck_F → Bool) : Bool := (match AS with
    | [] => (gm_rt mi).isNone && ck_end O outs (.inr none) n F
    | _ => false)
noncomputable def ck_h_areturn  (O : gm_Or) (lx : Option Nat) (XF : List (Int × Int × ck_I)) (E : List (Nat × List ck_Sum)) (mi d n0 : Nat) (W : List (Nat × Int × Int) × List (Nat × Int)) (outs : List ck_Oc) (bc bs pc : Nat) (AL : ck_AL) (AS : ck_AS) (n : Nat) (F : ck_F) (k : Nat → Nat → Nat → ck_AL → ck_AS → Nat → ck_F → Bool) : Bool := (match AS with
    | (.inr (.inr (.inl r)), _) :: [] => (match gm_rt mi with
      | some (.object _) => ck_end O outs (.inr (some (.inr (.inr (.inl r))))) n F
      | some (.array _) => ck_end O outs (.inr (some (.inr (.inr (.inl r))))) n F
      | _ => false)
    | _ => false)
noncomputable def ck_g_iadd : ck_I → ck_I → ck_I := fun a b => (a.1 + b.1, a.2.1 + b.2.1, if ck_sg b = true then ck_mv a.2.2 b.1 else if ck_sg a = true then ck_mv b.2.2 a.1 else [])
noncomputable def ck_o_iadd : Int → Int → Int := fun x y => x + y
noncomputable def ck_g_isub : ck_I → ck_I → ck_I := fun a b => (a.1 - b.2.1, a.2.1 - b.1, if ck_sg b = true then ck_mv a.2.2 (- b.1) else [])
noncomputable def ck_o_isub : Int → Int → Int := fun x y => x - y
noncomputable def ck_g_imul : ck_I → ck_I → ck_I := fun a b => if 0 ≤ a.1 ∧ 0 ≤ b.1 then (a.1 * b.1, a.2.1 * b.2.1, []) else ck_top
noncomputable def ck_o_imul : Int → Int → Int := fun x y => x * y
noncomputable def ck_g_iand : ck_I → ck_I → ck_I := fun a b => if 0 ≤ b.1 then (0, b.2.1, []) else if 0 ≤ a.1 then (0, a.2.1, []) else ck_top
noncomputable def ck_o_iand : Int → Int → Int := gm_and
noncomputable def ck_g_ior : ck_I → ck_I → ck_I := fun _ _ => ck_top
noncomputable def ck_o_ior : Int → Int → Int := gm_or
noncomputable def ck_g_ixor : ck_I → ck_I → ck_I := fun _ _ => ck_top
noncomputable def ck_o_ixor : Int → Int → Int := gm_xor
noncomputable def ck_g_ishl : ck_I → ck_I → ck_I := fun _ _ => ck_top
noncomputable def ck_o_ishl : Int → Int → Int := gm_shl
noncomputable def ck_g_ishr : ck_I → ck_I → ck_I := fun _ _ => ck_top
noncomputable def ck_o_ishr : Int → Int → Int := gm_shr
noncomputable def ck_g_iushr : ck_I → ck_I → ck_I := fun _ _ => ck_top
noncomputable def ck_o_iushr : Int → Int → Int := gm_ushr
noncomputable def ck_h_imul (O : gm_Or) (lx : Option Nat) (XF : List (Int × Int × ck_I)) (E : List (Nat × List ck_Sum)) (mi d n0 : Nat) (W : List (Nat × Int × Int) × List (Nat × Int)) (outs : List ck_Oc) (bc bs pc : Nat) (AL : ck_AL) (AS : ck_AS) (n : Nat) (F : ck_F) (k : Nat → Nat → Nat → ck_AL → ck_AS → Nat → ck_F → Bool) : Bool := match AS with
    | (.inl b, _) :: (.inl a, _) :: AS' => cond (ck_fk .imul a b) ((List.range (a.2.1 + 1 - a.1).toNat).all fun (q : Nat) => k bc bs (pc + 1) (ck_qL (a.1 + (q : Int), a.1 + (q : Int), []) a AL) ((.inl (ck_one (gm_w (ck_o_imul (a.1 + (q : Int)) b.1))), none) :: AS') n (ck_qF (a.1 + (q : Int), a.1 + (q : Int), []) a F)) (cond (ck_fk .imul b a) ((List.range (b.2.1 + 1 - b.1).toNat).all fun (q : Nat) => k bc bs (pc + 1) (ck_qL (b.1 + (q : Int), b.1 + (q : Int), []) b AL) ((.inl (ck_one (gm_w (ck_o_imul a.1 (b.1 + (q : Int))))), none) :: AS') n (ck_qF (b.1 + (q : Int), b.1 + (q : Int), []) b F)) (k bc bs (pc + 1) AL ((.inl (ck_b2 ck_g_imul ck_o_imul a b), ck_lks O none) :: AS') n F))
    | _ => false
noncomputable def ck_d : Instr → ck_Fn
  | .iconst z => ck_hc 1 (gm_vi z)
  | .bipush z => ck_hc 2 (gm_vi (gm_wb z))
  | .sipush z => ck_hc 3 (gm_vi (gm_ws z))
  | .lconst z => ck_hc 1 (gm_vl (z : Nat))
  | .aconst_null => ck_hc 1 (gm_vr 0)
  | .iload j => ck_hl 2 0 j
  | .iload_n j => ck_hl 1 0 j
  | .istore j => ck_hs 2 0 j
  | .istore_n j => ck_hs 1 0 j
  | .lload j => ck_hl 2 1 j
  | .lload_n j => ck_hl 1 1 j
  | .lstore j => ck_hs 2 1 j
  | .lstore_n j => ck_hs 1 1 j
  | .aload j => ck_hl 2 2 j
  | .aload_n j => ck_hl 1 2 j
  | .astore j => ck_hs 2 2 j
  | .astore_n j => ck_hs 1 2 j
  | .iadd => ck_hb (ck_sb .iadd) ck_g_iadd ck_o_iadd
  | .isub => ck_hb (ck_sb .isub) ck_g_isub ck_o_isub
  | .imul => ck_h_imul
  | .iand => ck_hb (ck_sb .iand) ck_g_iand ck_o_iand
  | .ior => ck_hb (ck_sb .ior) ck_g_ior ck_o_ior
  | .ixor => ck_hb (ck_sb .ixor) ck_g_ixor ck_o_ixor
  | .ishl => ck_hb (ck_sb .ishl) ck_g_ishl ck_o_ishl
  | .ishr => ck_hb (ck_sb .ishr) ck_g_ishr ck_o_ishr
  | .iushr => ck_hb (ck_sb .iushr) ck_g_iushr ck_o_iushr
  | .land => ck_hlb
  | .lor => ck_hlb
  | .lxor => ck_hlb
  | .lshl => ck_hls
  | .lushr => ck_hls
  | .ineg => ck_h_ineg
  | .i2b => ck_h_i2b
  | .i2l => ck_h_i2l
  | .l2i => ck_h_l2i
  | .lcmp => ck_h_lcmp
  | .idiv => ck_h_idiv
  | .irem => ck_h_irem
  | .dup => ck_h_dup
  | .pop => ck_h_pop
  | .dup2 => ck_h_dup2
  | .iinc j z => ck_h_iinc j z
  | .goto off => ck_h_goto off
  | .ifCond c off => ck_h_ifCond c off
  | .if_icmp c off => ck_h_if_icmp c off
  | .ifnull off => ck_h_ifnull off
  | .ifnonnull off => ck_h_ifnonnull off
  | .tableswitch df lo hi offs => ck_h_tableswitch df lo hi offs
  | .getfield ix => ck_h_getfield ix
  | .putfield ix => ck_h_putfield ix
  | .iaload => ck_h_iaload
  | .baload => ck_h_baload
  | .laload => ck_h_laload
  | .aaload => ck_h_aaload
  | .iastore => ck_h_iastore
  | .bastore => ck_h_bastore
  | .lastore => ck_h_lastore
  | .aastore => ck_h_aastore
  | .arraylength => ck_h_arraylength
  | .new ix => ck_h_new ix
  | .newarray at0 => ck_h_newarray at0
  | .anewarray ix => ck_h_anewarray ix
  | .ldc ix => ck_h_ldc ix
  | .ldc_w ix => ck_h_ldc_w ix
  | .ldc2_w ix => ck_h_ldc2_w ix
  | .invokestatic ix => ck_h_invokestatic ix
  | .invokevirtual ix => ck_h_invokevirtual ix
  | .invokespecial ix => ck_h_invokespecial ix
  | .ireturn => ck_h_ireturn
  | .return_ => ck_h_return
  | .areturn => ck_h_areturn
  | _ => fun _ _ _ _ _ _ _ _ _ _ _ _ _ _ _ _ _ => false
theorem ck_d_eq {i : Instr} (O : gm_Or) (lx : Option Nat) (XF : List (Int × Int × ck_I)) (E : List (Nat × List ck_Sum)) (mi d n0 : Nat) (W : List (Nat × Int × Int) × List (Nat × Int)) (outs : List ck_Oc) (bc bs pc : Nat) (AL : ck_AL) (AS : ck_AS) (n : Nat) (F : ck_F) (k : Nat → Nat → Nat → ck_AL → ck_AS → Nat → ck_F → Bool) : ck_d i O lx XF E mi d n0 W outs bc bs pc AL AS n F k = ck_i O lx XF E mi d n0 W outs bc bs pc AL AS n F k i := by
  cases i <;> rfl
/-- the int that a cut counts by: its bounds and name now -/
noncomputable def ck_loc (O : gm_Or) (c : Nat ⊕ (Nat × Int)) (AL : ck_AL) (F : ck_F) : Option ck_I := match c with
  | .inl j => (match AL[j]? with
    | some (some (.inl a)) => some a
    | _ => none)
  | .inr q => ck_rd O F q.1 q.2 q.2
/-- at the cut: what is known, the counter with its name -/
noncomputable def ck_bL (c : Nat ⊕ (Nat × Int)) (s : Nat) (a : ck_I) (AL : ck_AL) : ck_AL := match c with
  | .inl j => AL.set j (some (.inl (a.1, a.2.1, (s, 0) :: a.2.2)))
  | .inr _ => AL
noncomputable def ck_bF (c : Nat ⊕ (Nat × Int)) (s : Nat) (a : ck_I) (F : ck_F) : ck_F := match c with
  | .inl _ => F
  | .inr q => (F.1, F.2.1, (q.1, q.2, q.2, (a.1, a.2.1, (s, 0) :: a.2.2)) :: F.2.2)
/-- a stretch of code -/
noncomputable def ck_go (O : gm_Or) (lx : Option Nat) (XF : List (Int × Int × ck_I)) (E : List (Nat × List ck_Sum)) (mi d n0 : Nat) (W : List (Nat × Int × Int) × List (Nat × Int)) (outs : List ck_Oc) (cuts : List (Nat × ck_C)) : Nat → Bool → List ck_H → Nat → Nat → Nat → ck_AL → ck_AS → Nat → ck_F → Bool
  | 0, _, _, _, _, _, _, _, _, _ => false
  | f + 1, fst, ch, bc, bs, pc, AL, AS, n, F => match (if fst = true then none else cuts.find? fun q => q.1 == pc && (ck_leL AL q.2.1 && ck_leF O F q.2.2.1)) with
    | some (_, c) => AS.isEmpty && (match ck_loc O c.2.2.2.1 AL F, ck_loc O c.2.2.2.1 c.1 c.2.1 with
      | some a, some a0 => (match ch.find? fun h => h.1 == pc && h.2.1.2.2.1 == c.2.2.1 with
        | some h => (h.2.2.2.2 == n && (decide (h.2.2.1 ≤ bc) && decide (h.2.2.2.1 ≤ bs))) && ((c.2.2.1 == 0 || decide (2000000 ≤ c.2.2.1)) || (a.2.2.any fun q => (q.1 == c.2.2.1 && (decide (c.2.2.1 < 1000000) && (if c.2.2.2.2 = true then decide (0 < q.2) else decide (q.2 < 0)))) || (q.1 == c.2.2.1 + 1000000 && (decide (c.2.2.1 < 1000000) && (c.2.2.2.2 && decide (0 < q.2))))))
        | none => (decide (100 ≤ c.2.2.1 ∧ c.2.2.1 < 1000000) && ((ch.all fun h => !(h.2.1.2.2.1 == c.2.2.1) && (ck_nL c.2.2.1 h.2.1.1 && ck_nF c.2.2.1 h.2.1.2.1)) && (ck_nL c.2.2.1 c.1 && ck_nF c.2.2.1 c.2.1))) && ck_go O lx XF E mi d n0 W outs cuts f true ((pc, c, bc, bs, n) :: ch) bc bs pc (ck_bL c.2.2.2.1 c.2.2.1 a0 c.1) [] n (ck_bF c.2.2.2.1 c.2.2.1 a0 c.2.1))
      | _, _ => false)
    | none => match gm_at mi pc with
      | some i => ck_d i O lx XF E mi d n0 W outs bc bs pc AL AS n F (fun bc bs pc AL AS n F => ck_go O lx XF E mi d n0 W outs cuts f false ch bc bs pc AL AS n F)
      | none => false
/-- cuts at one place have names of their own -/
noncomputable def ck_cu (cuts : List (Nat × ck_C)) : Bool := cuts.all fun q => decide ((cuts.filter fun p => p.1 == q.1 && p.2.2.2.1 == q.2.2.2.1).length ≤ 1)
/-- a method -/
noncomputable def ck_ok (O : gm_Or) (lx : Option Nat) (XF : List (Int × Int × ck_I)) (E : List (Nat × List ck_Sum)) (mi : Nat) (cuts : List (Nat × ck_C)) (f : Nat) (S : ck_Sum) : Bool :=
  (decide (S.2.2.1.length ≤ gm_ml mi) && ck_cu cuts) && (ck_go O lx XF E mi S.1.1 S.2.1 S.2.2.2.2.1 S.2.2.2.2.2 cuts f false [] S.1.2.1 S.1.2.2 0 (S.2.2.1.map some ++ List.replicate (gm_ml mi - S.2.2.1.length) none) [] S.2.1 S.2.2.2.1)
end
