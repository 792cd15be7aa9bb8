/-! HOW A METHOD ENDS. -/
section GE
variable {X : Int → Int} {LX d bc bs mi pc : Nat} {L : gm_L} {st : List gm_V} {n : Nat} {K : gm_K} {R : gm_R} {M : gm_M} {Q : gm_Q}
theorem gm_r_int {x : Int} (h : gm_at mi pc = some .ireturn) (hr : gm_rt mi = some .int ∨ gm_rt mi = some .boolean ∧ (x = 0 ∨ x = 1)) (hq : Q (.inl (some (gm_vi x))) n K R M) : gm_Wp X LX d bc bs mi pc L [gm_vi x] n K R M Q := by
  intro p l e Rm s m args below meth c D ti adK adV A α0 n0 mc ms hcx hev hd hd2 hmc hms hA α H locs cells slots ls sv hxt hc1 hc2 hR hL hS
  obtain ⟨w, sv, rfl, h1, hS⟩ := hS
  cases h1; cases hS
  have hdg := gm_dec hcx h rfl
  obtain ⟨hx, hb, -, -, hret, hlk, -⟩ := id hcx
  obtain ⟨hKn, hP, hD, hSv, hRv⟩ := id hR
  have hq' : ∀ t : State, t.heap = H → s.WarmedH t.vm → gm_QC D ti adK A α0 n0 Q args s (.returned (some (.int (Int32.ofInt x)))) t := fun t ht hW => ⟨⟨_, some (gm_vi x), α, n, K, R, M, rfl, ⟨_, rfl, rfl⟩, hq, hxt, va_K.moved hW.alike hKn, by rw [ht]; exact hP, hD, hRv⟩, hSv.F ht⟩
  refine W.widen (k := mc) (n := ms) (by omega) (by omega) (vx_ret ?_)
  rcases hr with hr | ⟨hr, h01⟩
  · exact W.iret hx hb (by rw [hret]; exact hr) hq' hSv.2.2 hdg hlk
  · exact W.zret hx hb (by rw [hret]; exact hr) (by rcases h01 with rfl | rfl <;> rfl) hq' hSv.2.2 hdg hlk
theorem gm_r_void (h : gm_at mi pc = some .return_) (hr : gm_rt mi = none) (hq : Q (.inl none) n K R M) : gm_Wp X LX d bc bs mi pc L [] n K R M Q := by
  intro p l e Rm s m args below meth c D ti adK adV A α0 n0 mc ms hcx hev hd hd2 hmc hms hA α H locs cells slots ls sv hxt hc1 hc2 hR hL hS
  cases hS
  have hdg := gm_dec hcx h rfl
  obtain ⟨hx, hb, -, -, hret, hlk, -⟩ := id hcx
  obtain ⟨hKn, hP, hD, hSv, hRv⟩ := id hR
  refine W.widen (k := mc) (n := ms) (by omega) (by omega) (vx_ret ?_)
  exact W.vret hx hb (by rw [hret]; exact hr) (fun t ht hW => ⟨⟨_, none, α, n, K, R, M, rfl, rfl, hq, hxt, va_K.moved hW.alike hKn, by rw [ht]; exact hP, hD, hRv⟩, hSv.F ht⟩) hSv.2.2 hdg hlk
theorem gm_r_ref {k : Nat} (h : gm_at mi pc = some .areturn) (hr : (∃ C, gm_rt mi = some (.object C)) ∨ ∃ t, gm_rt mi = some (.array t)) (hq : Q (.inl (some (gm_vr k))) n K R M) : gm_Wp X LX d bc bs mi pc L [gm_vr k] n K R M Q := by
  intro p l e Rm s m args below meth c D ti adK adV A α0 n0 mc ms hcx hev hd hd2 hmc hms hA α H locs cells slots ls sv hxt hc1 hc2 hR hL hS
  obtain ⟨w, sv, rfl, ⟨rfl, hk⟩, hS⟩ := hS
  cases hS
  have hdg := gm_dec hcx h rfl
  obtain ⟨hx, hb, -, -, hret, hlk, -⟩ := id hcx
  obtain ⟨hKn, hP, hD, hSv, hRv⟩ := id hR
  refine W.widen (k := mc) (n := ms) (by omega) (by omega) (vx_ret ?_)
  have hq' : ∀ t : State, t.heap = H → s.WarmedH t.vm → gm_QC D ti adK A α0 n0 Q args s (.returned (some (gm_rf α k))) t := fun t ht hW => ⟨⟨_, some (gm_vr k), α, n, K, R, M, rfl, ⟨_, rfl, rfl, hk⟩, hq, hxt, va_K.moved hW.alike hKn, by rw [ht]; exact hP, hD, hRv⟩, hSv.F ht⟩
  have hv : gm_rf α k = .null ∨ ∃ a, gm_rf α k = .ref a := gm_rf_or α k
  rcases hr with ⟨C, hr⟩ | ⟨t, hr⟩
  · exact W.aret hx hb (by rw [hret]; exact hr) (Or.inl ⟨_, rfl⟩) hv hq' hSv.2.2 hdg hlk
  · exact W.aret hx hb (by rw [hret]; exact hr) (Or.inr ⟨_, rfl⟩) hv hq' hSv.2.2 hdg hlk
theorem gm_sld_spec {o ix id : Nat} (h : gm_sld o ix = some id) : id < 1000 ∧ ∃ tx, (gm_rn o, ix, tx, id) ∈ gm_sr_ := by
  have h1 := List.all_eq_true.mp gm_slk_ok _ (gm_lookup2 _ _ _ h)
  simp only [Bool.and_eq_true, decide_eq_true_eq] at h1
  obtain ⟨h1, h2⟩ := h1
  refine ⟨h2, ?_⟩
  cases hr : gm_sr_[id]? with
  | none => rw [hr] at h1; cases h1
  | some r =>
    rw [hr] at h1
    obtain ⟨r1, r2, r3, r4⟩ := r
    simp only [decide_eq_true_eq] at h1
    obtain ⟨rfl, rfl, rfl⟩ := h1
    exact ⟨r3, List.mem_of_getElem? hr⟩
theorem gm_ldcW {p : Program} {l : Launch} {e : Env} {Rm : Room} {s : State} {m : MethodId} {args : Array Value} {below : List Frame} {meth : Method} {c : Code} {T : State} {locs : List Loc} {cells slots : Nat}
    (Xs : Stand p l e Rm s m args below meth c T locs cells slots) (hexec : p.tables.exec = Jvm.exec) {own text : String} {index : Nat} {a : Addr} (hown : s.vm.findClass own = some m.cls)
    (hconst : (Jvm.Cond.stringRef own index text).before args s = true) (hev : (Term.string own index).eval args s none [] s = some (.ref a)) {g : JFrame} (hg : g.method = m) (hdg : decode c.code g.pc = .ok (.ldc_w index, 3)) :
    ∀ target, Steps p.tables e below (T.setTop { g with pc := g.pc + 3, stack := .ref a :: g.stack }) target → Steps p.tables e below (T.setTop g) target := by
  obtain ⟨k, cf, i, a', hk, hcf, hcp, -, hr, hev'⟩ := Cond.stringRef_spec hown hconst
  cases hev.symm.trans hev'
  obtain ⟨k', hk', he⟩ := Xs.warmed.alike.2.2 _ _ hk
  have hr' : k'.resolved[index]? = some (some (.string a)) := by
    rcases Xs.warmed.entry hk hk' index with h | ⟨h, -⟩
    · rw [h]; exact hr
    · rw [hr] at h; cases h
  intro target hrest
  subst hg
  jvm_step Xs.here [hexec, hdg, ldc_w.wp_string (e := e) (s := T) (f := g) Xs.here.top hk' (by rw [he]; exact hcf) hcp hr']
  exact hrest
theorem gm_p_ldcs {i : Instr} {ix id : Nat} (h : gm_at mi pc = some i) (hi : i = .ldc ix ∨ i = .ldc_w ix) (hv : gm_sld (gm_ow mi) ix = some id) : gm_Sp X LX d mi pc L st n K R M (pc + gm_len i) L (gm_vo id :: st) n K R M 0 0 := by
  intro p l e Rm s m args below meth c D ti adK adV A hcx hev hd hd2 hA α H locs cells slots ls sv Q' hc1 hc2 hR hL hS k2
  have hdg := gm_dec hcx h (by rcases hi with rfl | rfl <;> rfl)
  obtain ⟨hx, hb, -, hown, -, -, hts, -⟩ := _root_.id hcx
  obtain ⟨hid, tx, hmem⟩ := gm_sld_spec hv
  have hZ := hev.2.1 _ hmem
  have k3 := k2 α H locs ls (Value.ref (adK id) :: sv) gm_xt.rf hR hL ⟨_, _, rfl, ⟨adK id, rfl, fun _ => rfl⟩, hS⟩
  rcases hi with rfl | rfl
  · exact va_ldcS hx hb hown hZ hdg k3
  · intro T hT Xs
    obtain ⟨t, a1, b1⟩ := k3 T hT Xs
    exact ⟨t, gm_ldcW Xs hx hown hZ.1 hZ.2 (g := F0 m pc ls sv) rfl (by rw [hb]; exact hdg) t a1, b1⟩
end GE
