/-! Object's constructor; max and min; a throw. -/
section GT
variable {X : Int → Int} {LX d bc bs mi pc : Nat} {L : gm_L} {st : List gm_V} {n : Nat} {K : gm_K} {R : gm_R} {M : gm_M} {Q : gm_Q}
theorem gm_p_oinit {ix k : Nat} (h : gm_at mi pc = some (.invokespecial ix)) (ho : gm_oi (gm_ow mi) ix = true) (hk : 1 ≤ k ∧ k ≤ n) (hst : (st.map gm_cat).sum ≤ 8) (hd' : 1 ≤ d) : gm_Sp X LX d mi pc L (gm_vr k :: st) n K R M (pc + 3) L st n K R M 0 0 := by
  intro p l e Rm s m args below meth c D ti adK adV A hcx hev hd hd2 hA α H locs cells slots ls sv Q' hc1 hc2 hR hL hS k2
  obtain ⟨w1, sv, rfl, ⟨rfl, -⟩, hS⟩ := hS
  have hdg := gm_dec hcx h rfl
  obtain ⟨hx, hb, hml, hown, -, -, hts, -⟩ := _root_.id hcx
  obtain ⟨q, hq⟩ := Option.isSome_iff_exists.mp ho
  have h1 := List.all_eq_true.mp gm_oil_ok _ (gm_lookup2 _ _ _ hq)
  simp only [decide_eq_true_eq] at h1
  rw [gm_rf_pos hk.1 (Nat.lt_of_le_of_lt hk.2 hR.2.2.2.2.1)]
  refine W.objInit hx hb hown (hts _ (gm_T_in h1 rfl)) (hts _ gm_oi1) (hts _ gm_oi2) rfl (by rw [hml]; exact hL.2.choose_spec.1.1) rfl hdg (by omega) ?_ (k2 α H locs ls sv gm_xt.rf hR hL hS)
  have : (sv.map fun v => v.category).sum ≤ 8 := by rw [gm_sum_eq hS]; exact hst
  show 2 * 0 + _ + 12 ≤ _
  omega
theorem gm_p_max {ix : Nat} {x y : Int} (h : gm_at mi pc = some (.invokestatic ix)) (hc : gm_cal (gm_ow mi) ix = some (2, gm_jmax)) (hx0 : gm_w x = x) (hy0 : gm_w y = y) (hst : (st.map gm_cat).sum ≤ 8) (hd' : 1 ≤ d) : gm_Sp X LX d mi pc L (gm_vi y :: gm_vi x :: st) n K R M (pc + 3) L (gm_vi (max x y) :: st) n K R M 0 0 := by
  intro p l e Rm s m args below meth c D ti adK adV A hcx hev hd hd2 hA α H locs cells slots ls sv Q' hc1 hc2 hR hL hS k2
  obtain ⟨w0, sv, rfl, h0, hS⟩ := hS
  obtain ⟨w1, sv, rfl, h1, hS⟩ := hS
  cases h0; cases h1
  have hdg := gm_dec hcx h rfl
  obtain ⟨hx, hb, hml, hown, -, -, hts, -⟩ := _root_.id hcx
  obtain ⟨hj, i1, i2, -, -, i5, -⟩ := gm_cal_spec hc
  rw [gm_jnmax] at i1 i2 i5
  have hsum : (sv.map fun v => v.category).sum ≤ 8 := by rw [gm_sum_eq hS]; exact hst
  refine va_mmax hx hb (by rw [hml]; exact hL.2.choose_spec.1.1.symm) hown (hts _ (i2 (by omega))) (hts _ (i5 (Or.inl rfl))) (hts _ i1) (hts _ gm_jwmax) (by omega) (by omega) (by omega) (by omega) hdg ?_
  have e : (if Int32.ofInt x < Int32.ofInt y then Int32.ofInt y else Int32.ofInt x) = Int32.ofInt (max x y) := by
    have := gm_lt x y
    rw [hx0, hy0] at this
    simp only [this]
    split
    · rename_i q; rw [Int.max_eq_right (by omega)]
    · rename_i q; rw [Int.max_eq_left (by omega)]
  rw [e]
  exact k2 α H locs ls _ gm_xt.rf hR hL ⟨_, _, rfl, rfl, hS⟩
theorem gm_p_min {ix : Nat} {x y : Int} (h : gm_at mi pc = some (.invokestatic ix)) (hc : gm_cal (gm_ow mi) ix = some (2, gm_jmin)) (hx0 : gm_w x = x) (hy0 : gm_w y = y) (hst : (st.map gm_cat).sum ≤ 8) (hd' : 1 ≤ d) : gm_Sp X LX d mi pc L (gm_vi y :: gm_vi x :: st) n K R M (pc + 3) L (gm_vi (min x y) :: st) n K R M 0 0 := by
  intro p l e Rm s m args below meth c D ti adK adV A hcx hev hd hd2 hA α H locs cells slots ls sv Q' hc1 hc2 hR hL hS k2
  obtain ⟨w0, sv, rfl, h0, hS⟩ := hS
  obtain ⟨w1, sv, rfl, h1, hS⟩ := hS
  cases h0; cases h1
  have hdg := gm_dec hcx h rfl
  obtain ⟨hx, hb, hml, hown, -, -, hts, -⟩ := _root_.id hcx
  obtain ⟨hj, i1, i2, -, -, i5, -⟩ := gm_cal_spec hc
  rw [gm_jnmin] at i1 i2 i5
  have hsum : (sv.map fun v => v.category).sum ≤ 8 := by rw [gm_sum_eq hS]; exact hst
  refine va_mmin hx hb (by rw [hml]; exact hL.2.choose_spec.1.1.symm) hown (hts _ (i2 (by omega))) (hts _ (i5 (Or.inl rfl))) (hts _ i1) (hts _ gm_jwmin) (by omega) (by omega) (by omega) (by omega) hdg ?_
  have e : (if Int32.ofInt y < Int32.ofInt x then Int32.ofInt y else Int32.ofInt x) = Int32.ofInt (min x y) := by
    have := gm_lt y x
    rw [hx0, hy0] at this
    simp only [this]
    split
    · rename_i q; rw [Int.min_eq_right (by omega)]
    · rename_i q; rw [Int.min_eq_left (by omega)]
  rw [e]
  exact k2 α H locs ls _ gm_xt.rf hR hL ⟨_, _, rfl, rfl, hS⟩
theorem gm_xlk_spec {o ik x ic : Nat} (h : gm_xlk o ik = some (x, ic)) : x < 5 ∧ Jvm.Cond.classLink (gm_rn o) ik (gm_xn x) ∈ gm_T ∧ Jvm.Cond.initialized (gm_xn x) ∈ gm_T ∧ (∀ w ∈ gm_xat o ic x, (w ∈ gm_T ∨ w = .castable (gm_xn x) (gm_xn x) ∨ ∃ y ∈ gm_dcs, w = .declares y) ∧ vx_ot w = true) ∧ Bundle.fit (gm_xn x) = true ∧ ∀ y ∈ gm_xnm, Bundle.fit y = true := by
  unfold gm_xlk at h
  cases hr : gm_xl.find? (fun q => decide (q.1 = o ∧ q.2.1 = ik)) with
  | none => rw [hr] at h; cases h
  | some q =>
    rw [hr] at h
    have h1 := List.find?_some hr
    have h3 := List.all_eq_true.mp gm_xl_ok q (List.mem_of_find?_eq_some hr)
    obtain ⟨a1, a2, a3, a4, a5, a6⟩ := q
    simp only [decide_eq_true_eq] at h1
    obtain ⟨rfl, rfl⟩ := h1
    simp only [Option.map_some, Option.some.injEq, Prod.mk.injEq] at h
    obtain ⟨rfl, rfl⟩ := h
    simp only [gm_xck, Bool.and_eq_true, decide_eq_true_eq] at h3
    obtain ⟨⟨⟨⟨b1, b2⟩, b3⟩, b4⟩, b5, b6⟩ := h3
    refine ⟨b1, gm_T_in b2 rfl, gm_T_in b3 rfl, fun w hw => ?_, b5, fun y hy => List.all_eq_true.mp b6 y hy⟩
    have h4 := List.all_eq_true.mp b4 w hw
    simp only [gm_xok, Bool.and_eq_true, Bool.or_eq_true, decide_eq_true_eq] at h4
    refine ⟨?_, h4.2⟩
    rcases h4.1 with (q | q) | q
    · exact Or.inl (List.mem_filter.mpr q)
    · exact Or.inr (Or.inl q)
    · obtain ⟨y, hy, hy2⟩ := List.any_eq_true.mp q
      exact Or.inr (Or.inr ⟨y, hy, by simpa using hy2⟩)
end GT
section GTX
variable {p : Program} {l : Launch} {e : Env} {R : Room} {s : State} {m : MethodId} {args : Array Value} {below : List Frame} {meth : Method} {c : Code} {H : Heap} {locs : List Loc} {cells slots : Nat} {Q : State → Prop} {ls : Array Slot} {rest : List Value}
theorem gm_makeX {cc : ByteArray} {pc : Nat} (lw : Bool) (hexec : p.tables.exec = Jvm.exec) (hb : c.code = cc) (hl : l.stackTraces = false) {own cls text : String} {names : List String} {ik is ic sa ix : Nat} {rx : ByteArray} (x0 : decode rx 0 = .ok (.aload_n 0, 1)) (x1 : decode rx 1 = .ok (.aload_n 1, 1)) (x2 : decode rx 2 = .ok (.invokespecial ix, 3)) (x5 : decode rx 5 = .ok (.return_, 1)) {A : Nat → Prop}
    (hown : s.vm.findClass own = some m.cls) (hcls : Bundle.fit cls = true) (hnames : ∀ n ∈ names, Bundle.fit n = true)
    (hk : (Cond.classLink own ik cls).before args s = true) (hini : (Cond.initialized cls).before args s = true) (hstr : vk_R own is text sa s) (hat : ∀ w ∈ gm_atX own ic cls ix rx names, w.before args s = true)
    (hgood : ∀ w ∈ Cond.classLink own ik cls :: Cond.initialized cls :: gm_atX own ic cls ix rx names, vx_ot w = true)
    (hU : vx_Zq Bundle.tN "UNASSIGNED_STACK" Bundle.steD A s s.heap) (hN : vx_Zq Bundle.tN "SUPPRESSED_SENTINEL" Bundle.listD A s s.heap) (hS : va_S A s.heap H locs) (hsize : ls.size = c.maxLocals)
    (d0 : decode cc pc = .ok (.new ik, 3)) (d3 : decode cc (pc + 3) = .ok (.dup, 1)) (d4 : decode cc (pc + 4) = .ok (if lw = true then (.ldc_w is, 3) else (.ldc is, 2))) (d6 : decode cc (pc + (if lw = true then 7 else 6)) = .ok (.invokespecial ic, 3))
    (hRframes : names.length + 3 < R.frames) (hRlocals : (rest.map fun v => v.category).sum + (13 * (names.length + 1) + 43) ≤ R.locals) (hRcells : cells + 1 ≤ R.cells) (hRslots : slots + 6 ≤ R.slots)
    (kk : ∀ (q : Nat) (H1 : Heap) (ce : Cell), H1[q]? = some ce → ce.vm = .none → s.vm.findClass cls = some ce.cls → H.size ≤ H1.size → (∀ a : Nat, a < H.size → H1[a]? = H[a]?) → va_S A s.heap H1 locs → W p l e R s m args below meth c H1 locs (cells + 1) (slots + 6) Q (F0 m (pc + (if lw = true then 7 else 6) + 3) ls (.ref q :: rest))) :
    W p l e R s m args below meth c H locs cells slots Q (F0 m pc ls rest) := by
  intro T hT X
  subst hT
  have htr : e.platform.stackTraces = false := (show e.platform.stackTraces = l.stackTraces by rw [X.admits.platform]).trans hl
  have Y := vx_rebase X (R' := { frames := R.frames, locals := R.locals, cells := 1, slots := 6 }) (Nat.le_refl _) (Nat.le_refl _) hRcells hRslots
  obtain ⟨s', hA'⟩ : ∃ z, z = (T.setVm s.vm).setFrames (.invoking m args :: below) := ⟨_, rfl⟩
  rw [← hA'] at Y
  have hvm : s'.vm = s.vm := by rw [hA']; rfl
  have hhp : s'.heap = T.heap := by rw [hA']; rfl
  have hW0 : s.WarmedH s'.vm := by rw [hvm]; exact State.WarmedH.refl s
  have hat' : ∀ w ∈ gm_atX own ic cls ix rx names, w.before args s' = true := fun w hw => vx_ot_at hW0 hvm.symm (hgood w (List.mem_cons_of_mem _ (List.mem_cons_of_mem _ hw))) (hat w hw)
  have hk' : (Cond.classLink own ik cls).before args s' = true := vx_ot_at hW0 hvm.symm (hgood _ List.mem_cons_self) hk
  have hini' : (Cond.initialized cls).before args s' = true := vx_ot_at hW0 hvm.symm (hgood _ (List.mem_cons_of_mem _ List.mem_cons_self)) hini
  have hU' : vx_Zq Bundle.tN "UNASSIGNED_STACK" Bundle.steD A s' s'.heap := by rw [hhp]; exact vx_Zq.moved hW0.alike (hU.kept hS.2.1)
  have hN' : vx_Zq Bundle.tN "SUPPRESSED_SENTINEL" Bundle.listD A s' s'.heap := by rw [hhp]; exact vx_Zq.moved hW0.alike (hN.kept hS.2.1)
  have h : ∀ w ∈ gm_ownX own ic cls ix rx names, w.before args s' = true := vx_own hat' (vx_isRefq hU'.1) (vx_isRefq hN'.1) hU'.2.word hN'.2.word
  have hown' : s'.vm.findClass own = some m.cls := by rw [hvm]; exact hown
  have hins : (Cond.instantiable cls 6).before args s' = true := h _ (by simp [gm_ownX])
  obtain ⟨vm₁, cX, kX, hfX, hkX, -, -, X₁, st1⟩ := Y.newCold hexec (own := own) (C := cls) (index := ik) (n := 6) hown' hk' hins hini'
    (g := F0 m pc ls rest) rfl (by rw [hb]; exact d0) (Nat.le_refl _) (Nat.le_refl _)
  generalize hT1 : (T.setVm vm₁).pushCell { cls := cX, slots := kX.instanceTypes.map defaultValue, vm := .none } = T1 at X₁ st1
  have hcat : (Value.ref T.heap.size).category = 1 := rfl
  have hcellA : T1.heap[T.heap.size]? = some (freshCell cX kX) := by rw [← hT1]; exact State.heap_pushCell_size _ _
  have d3' : decode c.code (pc + 3) = .ok (.dup, 1) := by rw [hb]; exact d3
  have hstr' : vk_R own is text sa s' := vk_R.warm hW0 hstr
  obtain ⟨V, ce, L, Z, hL, hlt, hcl9, hvm9, st⟩ := gm_ctorMadeX X₁ hexec htr (own := own) (cls := cls) (names := names) (ic := ic) x0 x1 x2 x5 hown' hcls hnames h (fun x hx => nomatch hx) hfX hkX hcellA (by rw [hhp]; exact Nat.le_refl _) (msg := .ref sa) rfl
    (g := { method := m, pc := pc + (if lw = true then 7 else 6), locals := ls, stack := .ref sa :: .ref T.heap.size :: .ref T.heap.size :: rest, locked := none }) rfl hsize (rest := rest) rfl
    (by rw [hb]; exact d6) hRframes (by simp only [List.map_cons, List.sum_cons, hcat]; omega)
  have Z0 := Stand.forget (locs := []) Z (fun y hy => by rw [hL y hy, hhp]; exact Nat.le_refl _)
  obtain ⟨f1, f2⟩ := vx_frame Z0.same
  rw [hhp] at f1 f2
  have hh : (V.setCell T.heap.size ce).heap[T.heap.size]? = some ce := heapAt_setCell_self (s := V) ce hlt
  subst hA'
  have X5 := vx_back9 X Y Z0
  have X6 : Stand p l e R s m args below meth c (V.setCell T.heap.size ce) locs (cells + 1) (slots + 6) := { X5 with same := X5.same.mono (by omega) (by omega) }
  obtain ⟨t, a1, b1⟩ := kk T.heap.size (V.setCell T.heap.size ce).heap ce hh hvm9 (by rw [hcl9]; exact hfX) f1 (fun q hq => f2 q hq (fun z hz => nomatch hz)) ⟨Nat.le_trans hS.1 f1, fun q h1 h2 => (f2 q (Nat.lt_of_lt_of_le h1 hS.1) (fun z hz => nomatch hz)).trans (hS.2.1 q h1 h2), hS.2.2⟩ _ rfl X6
  refine ⟨t, st1 _ ?_, b1⟩
  show Steps p.tables e below (T1.setTop { method := m, pc := pc + 3, locals := ls, stack := .ref T.heap.size :: rest, locked := none }) _
  jvm_step X₁.here [X₁.here.top, hexec, d3', Value.category]
  cases lw with
  | true => exact gm_ldcW X₁ hexec (own := own) (text := text) (index := is) (a := sa) hown' hstr'.1 hstr'.2 (g := { method := m, pc := pc + 4, locals := ls, stack := .ref T.heap.size :: .ref T.heap.size :: rest, locked := none }) rfl (by rw [hb]; exact d4) _ (st _ a1)
  | false => exact X₁.ldcString hexec (own := own) (text := text) (index := is) (a := sa) hown' hstr'.1 hstr'.2 (g := { method := m, pc := pc + 4, locals := ls, stack := .ref T.heap.size :: .ref T.heap.size :: rest, locked := none }) rfl (by rw [hb]; exact d4) _ (st _ a1)
end GTX
section GTY
variable {X : Int → Int} {LX d bc bs mi pc : Nat} {L : gm_L} {st : List gm_V} {n : Nat} {K : gm_K} {R : gm_R} {M : gm_M} {Q : gm_Q}
theorem gm_throw {ik is ic x id : Nat} {lw : Bool} (hh : gm_hh mi = []) (h : gm_at mi pc = some (.new ik)) (hx : gm_xlk (gm_ow mi) ik = some (x, ic)) (h3 : gm_at mi (pc + 3) = some .dup) (h4 : gm_at mi (pc + 4) = some (if lw = true then .ldc_w is else .ldc is)) (h5 : gm_at mi (pc + (if lw = true then 7 else 6)) = some (.invokespecial ic)) (h6 : gm_at mi (pc + (if lw = true then 10 else 9)) = some .athrow) (hs : gm_sld (gm_ow mi) is = some id) (hst : (st.map gm_cat).sum ≤ 8) (hd' : 6 ≤ d) (hb1 : 1 ≤ bc) (hb2 : 6 ≤ bs) (hq : Q (.inr x) n K R M) : gm_Wp X LX d bc bs mi pc L st n K R M Q := by
  intro p l e Rm s m args below meth c D ti adK adV A α0 n0 mc ms hcx hev hd hd2 hmc hms hA α H locs cells slots ls sv hxt hc1 hc2 hR hL hS
  obtain ⟨hx9, hb, hml, hown, -, hlk, hts, -, hl, -, htab⟩ := _root_.id hcx
  obtain ⟨hKn, hP, hD, hSv, hRv⟩ := _root_.id hR
  obtain ⟨x1, x2, x3, x4, x5, x6⟩ := gm_xlk_spec hx
  obtain ⟨hid, tx, hmem⟩ := gm_sld_spec hs
  have hZ := hev.2.1 _ hmem
  have d0 := gm_dec hcx h rfl
  have d3 := gm_dec hcx h3 rfl
  have hsum : (sv.map fun v => v.category).sum ≤ 8 := by rw [gm_sum_eq hS]; exact hst
  have hat : ∀ w ∈ gm_xat (gm_ow mi) ic x, w.before args s = true := by
    intro w hw
    rcases (x4 w hw).1 with q | q | ⟨y, hy, q⟩
    · exact hts _ q
    · have h9 := hev.2.2.2.2.2.2.2.2.2.2.2.1 x x x1 x1
      rw [if_pos rfl] at h9
      rw [q]
      exact va_Nw.use rfl h9
    · rw [q]
      exact va_Nw.use rfl (hev.2.2.2.2.2.2.2.2.2.2.2.2 y hy)
  have hgood : ∀ w ∈ Jvm.Cond.classLink (gm_rn (gm_ow mi)) ik (gm_xn x) :: Jvm.Cond.initialized (gm_xn x) :: gm_xat (gm_ow mi) ic x, vx_ot w = true := by
    intro w hw
    rcases List.mem_cons.mp hw with rfl | hw
    · rfl
    · rcases List.mem_cons.mp hw with rfl | hw
      · rfl
      · exact (x4 w hw).2
  have hout : ∀ pc' : Nat, ∀ z ∈ c.exceptionTable.toList, covers z pc' = false := by
    intro pc' z hz
    rw [htab, hh] at hz
    cases hz
  have hXC : ∀ t : State, s.vm.Alike t.vm → H.size ≤ t.heap.size → (∀ q : Nat, q < H.size → t.heap[q]? = H[q]?) → gm_XC D ti A α0 n0 Q (gm_xn x) s t := by
    intro t hvm hz hk
    refine ⟨⟨x, α, n, K, R, M, rfl, x1, hq, hxt, va_K.moved hvm hKn, hP.kept (fun k y hy => hk y.1 ((hP k y hy).lt)), hD, hRv⟩, Nat.le_trans hSv.1 hz, fun q h1 h2 => ?_⟩
    rw [hk q (Nat.lt_of_lt_of_le h1 hSv.1)]
    exact hSv.2.1 q h1 h2
  have hsz : ls.size = c.maxLocals := by rw [hml]; exact hL.2.choose_spec.1.1
  by_cases hx4 : x = 4
  · have e4 : gm_xat (gm_ow mi) ic x = gm_atX (gm_rn (gm_ow mi)) ic (gm_xn x) gm_xix gm_xrx gm_xnm := by unfold gm_xat; rw [if_pos hx4]
    rw [e4] at hat hgood
    have d4 : decode (gm_bc mi) (pc + 4) = .ok (if lw = true then (.ldc_w is, 3) else (.ldc is, 2)) := by
      cases lw with
      | true => exact gm_dec hcx h4 rfl
      | false => exact gm_dec hcx h4 rfl
    have d6 := gm_dec hcx h5 rfl
    have d9 := gm_dec hcx h6 rfl
    refine gm_makeX lw hx9 hb hl (names := gm_xnm) (ix := gm_xix) (rx := gm_xrx) (by decide +kernel) (by decide +kernel) (by decide +kernel) (by decide +kernel) hown x5 x6 (hts _ x2) (hts _ x3) hZ hat hgood hev.2.2.1 hev.2.2.2.1 hSv hsz d0 d3 d4 d6 (by show 2 + 3 < _; omega) (by show _ + (13 * (2 + 1) + 43) ≤ _; omega) (by omega) (by omega) (fun q H1 ce h1 h2 h3 h7 h8 h9 => ?_)
    refine vx_athrow hx9 hb (pc := pc + (if lw = true then 7 else 6) + 3) (by cases lw <;> exact d9) (vx_out (ce := ce) (E := gm_xn x) (hout _) hlk h1 h2 h3 (fun t ht hvm => hXC t hvm (by rw [ht]; exact h7) (fun q hq => by rw [ht]; exact h8 q hq)) h9.2.2 (by omega) (by omega))
  have e4 : gm_xat (gm_ow mi) ic x = vx_atS (gm_rn (gm_ow mi)) ic (gm_xn x) gm_xnm := by unfold gm_xat; rw [if_neg hx4]
  rw [e4] at hat hgood
  cases lw with
  | true =>
    have d4 := gm_dec hcx h4 rfl
    have d7 := gm_dec hcx h5 rfl
    have d10 := gm_dec hcx h6 rfl
    exact vx_throwSW (names := gm_xnm) hx9 hb hl hown x5 x6 (hts _ x2) (hts _ x3) hZ hat hgood hev.2.2.1 hev.2.2.2.1 hSv hsz d0 d3 d4 d7 d10 (hout _) (by show 2 + 3 < _; omega) (by show _ + (13 * (2 + 1) + 43) ≤ _; omega) (by omega) (by omega) hlk hXC hSv.2.2 (by omega) (by omega)
  | false =>
    have d4 := gm_dec hcx h4 rfl
    have d6 := gm_dec hcx h5 rfl
    have d9 := gm_dec hcx h6 rfl
    exact vx_throwS (names := gm_xnm) hx9 hb hl hown x5 x6 (hts _ x2) (hts _ x3) hZ hat hgood hev.2.2.1 hev.2.2.2.1 hSv hsz d0 d3 d4 d6 d9 (hout _) (by show 2 + 3 < _; omega) (by show _ + (13 * (2 + 1) + 43) ≤ _; omega) (by omega) (by omega) hlk hXC hSv.2.2 (by omega) (by omega)
end GTY
