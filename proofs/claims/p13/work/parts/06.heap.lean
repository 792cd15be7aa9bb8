/-! 06.heap -/
section
/-! STEPS that read and write cells. -/
theorem gm_lookup2 {α : Type} (l : List ((Nat × Nat) × α)) (k : Nat × Nat) (v : α) (h : l.lookup k = some v) : (k, v) ∈ l := by
  induction l with
  | nil => simp at h
  | cons q l ih =>
    obtain ⟨a, b⟩ := q
    rw [List.lookup_cons] at h
    by_cases hk : k = a
    · subst hk; simp at h; subst h; exact List.mem_cons_self
    · have hk2 : (k == a) = false := by simpa using hk
      rw [hk2] at h
      exact List.mem_cons_of_mem _ (ih h)
theorem gm_fld_spec {o ix ci j : Nat} (h : gm_fld o ix ci = some j) : ∃ C T N ref, gm_cs[ci]? = some (C, T, N) ∧ j < N ∧ N = gm_nf ci ∧ T = gm_Tf ci ∧ Jvm.Cond.fieldLink (gm_rn o) ix ref (T j).2.1 (T j).2.2.1 ∈ gm_T ∧ (ref = (T j).1 ∨ Jvm.Cond.sameField ref (T j).1 (T j).2.1 (T j).2.2.1 ∈ gm_T) := by
  have h := gm_fld_le h
  unfold gm_fld0 at h
  cases hr : gm_fo[o]? with
  | none => rw [hr] at h; simp at h
  | some r =>
    rw [hr] at h
    have h2 := gm_lookup2 _ _ _ h
    have hlt := (List.getElem?_eq_some_iff.mp hr).1
    have h3 := List.all_eq_true.mp gm_fo_ok o (List.mem_range.mpr hlt)
    rw [hr] at h3
    have h4 := List.all_eq_true.mp h3 _ h2
    obtain ⟨q, hq, hq2⟩ := List.any_eq_true.mp h4
    have h5 := List.all_eq_true.mp gm_fl_ok q hq
    obtain ⟨a1, a2, a3, a4, a5, a6, a7⟩ := q
    simp only [decide_eq_true_eq, Prod.mk.injEq] at hq2
    obtain ⟨rfl, rfl, rfl, rfl⟩ := hq2
    simp only [gm_fck, Bool.and_eq_true, Bool.or_eq_true, decide_eq_true_eq] at h5
    obtain ⟨⟨b1, b2⟩, b3⟩ := h5
    have hci : a3 < 12 := by
      rcases Nat.lt_or_ge a3 12 with q | q
      · exact q
      · exfalso
        have : gm_nf a3 = 0 := by
          unfold gm_nf
          rw [List.getElem?_eq_none (by simpa using q)]; rfl
        omega
    obtain ⟨⟨C, T, N⟩, hc⟩ : ∃ q, gm_cs[a3]? = some q := ⟨_, List.getElem?_eq_getElem (by simpa [gm_cs] using hci)⟩
    obtain ⟨-, e1, e2, -⟩ := gm_cs_ok a3 C T N hc
    subst e2
    refine ⟨C, _, N, a5, hc, by omega, e1, rfl, gm_T_in b2 rfl, ?_⟩
    rcases b3 with b3 | b3
    · exact Or.inl b3
    · exact Or.inr (gm_T_in b3 rfl)
theorem gm_fs_at {α : Nat → Nat} {R : gm_R} {M : gm_M} {k c j : Nat} (hj : j < gm_nf c) : (gm_fs α R M k c)[j]? = some (if gm_isr c j = true then gm_rf α (R k j) else .int (Int32.ofInt (M k j))) := by
  unfold gm_fs
  rw [List.getElem?_map, List.getElem?_range hj]; rfl
theorem gm_fs_len {α : Nat → Nat} {R : gm_R} {M : gm_M} {k c : Nat} : (gm_fs α R M k c).length = gm_nf c := by simp [gm_fs]
theorem gm_en_obj {ti : Nat → ClassId} {α : Nat → Nat} {K : gm_K} {R : gm_R} {M : gm_M} {k ci : Nat} (h : (K k).1 = ci + 4) : gm_en ti α K R M k = .inr (ci, gm_fs α R M k ci) := by unfold gm_en; rw [h]
theorem gm_hs {s : State} {args : Array Value} {ref d n t : String} (hts : ∀ w ∈ gm_T, w.before args s = true) (h : ref = d ∨ Jvm.Cond.sameField ref d n t ∈ gm_T) : ∀ x, s.fieldFound? d n t = some x → s.fieldFound? ref n t = some x := by
  rcases h with rfl | h
  · exact fun _ q => q
  · exact fun x q => u_same (hts _ h) x q
section GH
variable {X : Int → Int} {LX d bc bs mi pc : Nat} {L : gm_L} {st : List gm_V} {n : Nat} {K : gm_K} {R : gm_R} {M : gm_M} {Q : gm_Q}
theorem gm_p_get {ix k ci j : Nat} (h : gm_at mi pc = some (.getfield ix)) (hk : 1 ≤ k ∧ k ≤ n) (hK : (K k).1 = ci + 4) (hf : gm_fld (gm_ow mi) ix ci = some j) : gm_Sp X LX d mi pc L (gm_vr k :: st) n K R M (pc + 3) L ((if gm_isr ci j = true then gm_vr (R k j) else gm_vi (M k j)) :: st) n K R M 0 0 := by
  intro p l e Rm s m args below meth c D ti adK adV A hcx hev hd hd2 hA α H locs cells slots ls sv Q' hc1 hc2 hR hL hS k2
  obtain ⟨w1, sv, rfl, ⟨rfl, -⟩, hS⟩ := hS
  have hdg := gm_dec hcx h rfl
  obtain ⟨hx, hb, -, hown, -, -, hts, -⟩ := id hcx
  obtain ⟨hKn, hP, hD, hSv, hRv⟩ := id hR
  obtain ⟨C, T, N, ref, q1, q2, q3, q4, q5, q6⟩ := gm_fld_spec hf
  have he := gm_wl_at (ti := ti) (α := α) (K := K) (R := R) (M := M) hk.1 hk.2
  rw [gm_en_obj hK] at he
  have hv := gm_fs_at (α := α) (R := R) (M := M) (k := k) (c := ci) (j := j) (by omega)
  rw [gm_rf_pos hk.1 (Nat.lt_of_le_of_lt hk.2 hRv.1)]
  refine va_get hx hb hts (gm_cs_ok _ _ _ _ q1).1 hown hKn hP (k - 1) he q1 j q2 (hts _ q5) (gm_hs hts q6) hv hdg ?_
  refine k2 α H locs ls _ gm_xt.rf hR hL ⟨_, _, rfl, ?_, hS⟩
  split
  · exact ⟨rfl, hRv.2 _ _⟩
  · rfl
/-- may the field be written here: it isn't final, or this is the constructor of the class that declares it -/
noncomputable def gm_may (mi ci j : Nat) : Bool := !(gm_fin ci j) || (gm_ini mi && gm_dcl ci j == gm_ow mi)
theorem gm_fs_setM {α : Nat → Nat} {R : gm_R} {M : gm_M} {k c j : Nat} {x : Int} (hj : j < gm_nf c) (hr : gm_isr c j = false) : (gm_fs α R M k c).set j (.int (Int32.ofInt x)) = gm_fs α R (gm_uM M k j x) k c := by
  apply List.ext_getElem?
  intro i
  by_cases hi : i < gm_nf c
  · rw [List.getElem?_set, gm_fs_at hi, gm_fs_at hi]
    by_cases hij : j = i
    · subst hij
      simp [gm_fs_len, hi, hr, gm_uM]
    · have : ¬ ((i : Int) = j) := by omega
      simp [hij, gm_uM, this]
  · rw [List.getElem?_eq_none (by rw [List.length_set, gm_fs_len]; omega), List.getElem?_eq_none (by rw [gm_fs_len]; omega)]
theorem gm_fs_setR {α : Nat → Nat} {R : gm_R} {M : gm_M} {k c j r : Nat} (hj : j < gm_nf c) (hr : gm_isr c j = true) : (gm_fs α R M k c).set j (gm_rf α r) = gm_fs α (gm_uR R k j r) M k c := by
  apply List.ext_getElem?
  intro i
  by_cases hi : i < gm_nf c
  · rw [List.getElem?_set, gm_fs_at hi, gm_fs_at hi]
    by_cases hij : j = i
    · subst hij
      simp [gm_fs_len, hi, hr, gm_uR]
    · have : ¬ ((i : Int) = j) := by omega
      simp [hij, gm_uR, this]
  · rw [List.getElem?_eq_none (by rw [List.length_set, gm_fs_len]; omega), List.getElem?_eq_none (by rw [gm_fs_len]; omega)]
theorem gm_en_uM {ti : Nat → ClassId} {α : Nat → Nat} {K : gm_K} {R : gm_R} {M : gm_M} {k k' : Nat} {j x : Int} (h : k' ≠ k) : gm_en ti α K R (gm_uM M k j x) k' = gm_en ti α K R M k' := by
  have e : (fun b => gm_uM M k j x k' b) = M k' := by funext b; simp [gm_uM, h]
  have e2 : gm_uM M k j x k' = M k' := e
  unfold gm_en gm_fs
  rw [e2]
theorem gm_en_uR {ti : Nat → ClassId} {α : Nat → Nat} {K : gm_K} {R : gm_R} {M : gm_M} {k k' : Nat} {j : Int} {r : Nat} (h : k' ≠ k) : gm_en ti α K (gm_uR R k j r) M k' = gm_en ti α K R M k' := by
  have e2 : gm_uR R k j r k' = R k' := by funext b; simp [gm_uR, h]
  unfold gm_en gm_fs
  rw [e2]
theorem gm_Rv_uR {n k : Nat} {R : gm_R} {j : Int} {r : Nat} (h : gm_Rv n R) (hr : gm_kn n r) : gm_Rv n (gm_uR R k j r) := by
  refine ⟨h.1, fun a b => ?_⟩
  unfold gm_uR
  split
  · exact hr
  · exact h.2 a b
theorem gm_kinds {ci j : Nat} (hci : ci < 12) (hj : j < gm_nf ci) : (gm_fk ci j = 0 ∧ gm_fty ci j = .int ∧ gm_isr ci j = false ∨ gm_fk ci j = 1 ∧ gm_fty ci j = .boolean ∧ gm_isr ci j = false ∨ gm_fk ci j = 2 ∧ ((∃ C, gm_fty ci j = .object C) ∨ ∃ t, gm_fty ci j = .array t) ∧ gm_isr ci j = true) ∧ gm_fin ci j = (gm_Tf ci j).2.2.2 ∧ gm_rn (gm_dcl ci j) = (gm_Tf ci j).1 := by
  have h := gm_fk_ok ci hci j hj
  unfold gm_fkc at h
  simp only [Bool.and_eq_true, decide_eq_true_eq] at h
  obtain ⟨h1, h2, h3, h4⟩ := h
  refine ⟨?_, h3, h4⟩
  split at h1 <;> rename_i e1 e2
  · exact Or.inl ⟨e1, e2, by rw [h2, e1]; rfl⟩
  · exact Or.inr (Or.inl ⟨e1, e2, by rw [h2, e1]; rfl⟩)
  · exact Or.inr (Or.inr ⟨e1, Or.inl ⟨_, e2⟩, by rw [h2, e1]; rfl⟩)
  · exact Or.inr (Or.inr ⟨e1, Or.inr ⟨_, e2⟩, by rw [h2, e1]; rfl⟩)
  · cases h1
/-- writing a field: any value that fits -/
theorem gm_put {ix k ci j : Nat} {w : Value} {R' : gm_R} {M' : gm_M} {v : gm_V} (h : gm_at mi pc = some (.putfield ix)) (hk : 1 ≤ k ∧ k ≤ n) (hK : (K k).1 = ci + 4) (hf : gm_fld (gm_ow mi) ix ci = some j) (hm : gm_may mi ci j = true)
    (hfit : ∀ (α adK : Nat → Nat) (w : Value), gm_cv α adK n v w → narrow (gm_fty ci j) w = w ∧ fits (gm_fty ci j) w = true ∧ (gm_fs α R M k ci).set j w = gm_fs α R' M' k ci) (hne : ∀ (ti : Nat → ClassId) (α : Nat → Nat) (k' : Nat), k' ≠ k → gm_en ti α K R' M' k' = gm_en ti α K R M k') (hRv' : gm_Rv n R → ∀ (α adK : Nat → Nat) (w : Value), gm_cv α adK n v w → gm_Rv n R') : gm_Sp X LX d mi pc L (v :: gm_vr k :: st) n K R M (pc + 3) L st n K R' M' 0 0 := by
  intro p l e Rm s m args below meth c D ti adK adV A hcx hev hd hd2 hA α H locs cells slots ls sv Q' hc1 hc2 hR hL hS k2
  obtain ⟨w, sv, rfl, hw, hS⟩ := hS
  obtain ⟨w1, sv, rfl, ⟨rfl, -⟩, hS⟩ := hS
  have hdg := gm_dec hcx h rfl
  obtain ⟨hx, hb, -, hown, -, -, hts, hnm, -, hm3, -⟩ := id hcx
  obtain ⟨hKn, hP, hD, hSv, hRv⟩ := id hR
  obtain ⟨C, T, N, ref, q1, q2, q3, q4, q5, q6⟩ := gm_fld_spec hf
  obtain ⟨c1, -, -, c4, c5, ty, c6, c7⟩ := gm_cs_ok _ _ _ _ q1
  have he := gm_wl_at (ti := ti) (α := α) (K := K) (R := R) (M := M) hk.1 hk.2
  rw [gm_en_obj hK] at he
  obtain ⟨f1, f2, f3⟩ := hfit α adK w hw
  have ety : gm_fty ci = ty := by unfold gm_fty; rw [c6]; rfl
  rw [ety] at f1 f2
  obtain ⟨-, g1, g2⟩ := gm_kinds (ci := ci) (j := j) c4 (by omega)
  rw [gm_rf_pos hk.1 (Nat.lt_of_le_of_lt hk.2 hRv.1)]
  have hset : (gm_wl ti α n K R M).set (k - 1) (α k, .inr (ci, (gm_fs α R M k ci).set j w)) = gm_wl ti α n K R' M' := by
    refine gm_wl_set hk.1 hk.2 ?_ (hne ti α)
    rw [gm_en_obj hK, f3]
  have kk : ∀ (H1 : Heap) (locs1 : List Loc), va_P D gm_cs ((gm_wl ti α n K R M).set (k - 1) (α k, .inr (ci, (gm_fs α R M k ci).set j w))) H1 → va_D A ((gm_wl ti α n K R M).set (k - 1) (α k, .inr (ci, (gm_fs α R M k ci).set j w))) → va_S A s.heap H1 locs1 → W p l e Rm s m args below meth c H1 locs1 (cells + 0) (slots + 0) Q' (F0 m (pc + 3) ls sv) := by
    intro H1 locs1 p1 p2 p3
    rw [hset] at p1 p2
    exact k2 α H1 locs1 ls sv gm_xt.rf ⟨hKn, p1, p2, p3, hRv' hRv α adK w hw⟩ hL hS
  have hlen : j < (gm_fs α R M k ci).length := by rw [gm_fs_len]; omega
  by_cases hfin : (T j).2.2.2 = true
  · have hm2 : gm_ini mi = true ∧ gm_dcl ci j = gm_ow mi := by
      unfold gm_may at hm
      rw [g1, ← q4, hfin] at hm
      simpa using hm
    have hin2 : meth.name = "<init>" := by
      rw [hnm]
      have z := List.all_eq_true.mp gm_ini_ok mi (List.mem_range.mpr hm3)
      rw [hm2.1] at z
      simpa using z
    exact va_putF hx hb hts c1 ty c7 c5 hown hKn hP hD hSv (k - 1) he q1 j q2 (hts _ q5) (gm_hs hts q6) hfin hin2 (by rw [← hm2.2, g2, q4]) (c7 j q2) f1 f2 hlen hdg kk
  · exact va_put hx hb hts c1 ty c7 c5 hown hKn hP hD hSv (k - 1) he q1 j q2 (hts _ q5) (gm_hs hts q6) (by simpa using hfin) (c7 j q2) f1 f2 hlen hdg kk
theorem gm_p_puti {ix k ci j : Nat} {x : Int} (h : gm_at mi pc = some (.putfield ix)) (hk : 1 ≤ k ∧ k ≤ n) (hK : (K k).1 = ci + 4) (hf : gm_fld (gm_ow mi) ix ci = some j) (hm : gm_may mi ci j = true) (hfit : gm_fk ci j = 0 ∨ gm_fk ci j = 1 ∧ (x = 0 ∨ x = 1)) : gm_Sp X LX d mi pc L (gm_vi x :: gm_vr k :: st) n K R M (pc + 3) L st n K R (gm_uM M k j x) 0 0 := by
  obtain ⟨C, T, N, ref, q1, q2, q3, q4, q5, q6⟩ := gm_fld_spec hf
  obtain ⟨-, -, -, c4, -⟩ := gm_cs_ok _ _ _ _ q1
  refine gm_put (w := .null) h hk hK hf hm (fun α adK w hw => ?_) (fun ti α k' hk' => gm_en_uM hk') (fun hr _ _ _ _ => hr)
  cases hw
  rcases (gm_kinds (ci := ci) (j := j) c4 (by omega)).1 with ⟨e1, e2, e3⟩ | ⟨e1, e2, e3⟩ | ⟨e1, -, e3⟩
  · rw [e2]; exact ⟨rfl, rfl, gm_fs_setM (by omega) e3⟩
  · rw [e2]
    rcases hfit with hf | ⟨-, hf⟩
    · rw [e1] at hf; cases hf
    · refine ⟨?_, ?_, gm_fs_setM (by omega) e3⟩
      · rcases hf with rfl | rfl <;> rfl
      · rcases hf with rfl | rfl <;> rfl
  · rcases hfit with hf | ⟨hf, -⟩ <;> (rw [e1] at hf; cases hf)
theorem gm_p_putr {ix k ci j r : Nat} (h : gm_at mi pc = some (.putfield ix)) (hk : 1 ≤ k ∧ k ≤ n) (hK : (K k).1 = ci + 4) (hf : gm_fld (gm_ow mi) ix ci = some j) (hm : gm_may mi ci j = true) (hfit : gm_fk ci j = 2) : gm_Sp X LX d mi pc L (gm_vr r :: gm_vr k :: st) n K R M (pc + 3) L st n K (gm_uR R k j r) M 0 0 := by
  obtain ⟨C, T, N, ref, q1, q2, q3, q4, q5, q6⟩ := gm_fld_spec hf
  obtain ⟨-, -, -, c4, -⟩ := gm_cs_ok _ _ _ _ q1
  refine gm_put (w := .null) h hk hK hf hm (fun α adK w hw => ?_) (fun ti α k' hk' => gm_en_uR hk') (fun hr α adK w hw => gm_Rv_uR hr hw.2)
  obtain ⟨rfl, -⟩ := hw
  rcases (gm_kinds (ci := ci) (j := j) c4 (by omega)).1 with ⟨e1, e2, e3⟩ | ⟨e1, e2, e3⟩ | ⟨e1, e2, e3⟩
  · rw [e1] at hfit; cases hfit
  · rw [e1] at hfit; cases hfit
  · refine ⟨?_, ?_, gm_fs_setR (by omega) e3⟩
    · rcases e2 with ⟨C, e2⟩ | ⟨C, e2⟩ <;> (rw [e2]; rcases gm_rf_or α r with e | ⟨a, e⟩ <;> (rw [e]; rfl))
    · rcases e2 with ⟨C, e2⟩ | ⟨C, e2⟩ <;> (rw [e2]; rcases gm_rf_or α r with e | ⟨a, e⟩ <;> (rw [e]; rfl))
end GH
end
/-! 07.arr -/
section
/-! STEPS with arrays, new cells, constants. -/
theorem gm_wn {e : Int} (h : 0 ≤ gm_w e) : (((Int32.ofInt e).toNatClampNeg : Nat) : Int) = gm_w e := by rw [gm_cl]; omega
theorem gm_xt_at {α α' : Nat → Nat} {n n' : Nat} (hx : gm_xt α n α' n') {k : Nat} (hk : gm_kn n k) (h1 : 1 ≤ k) : α' k = α k := by
  rcases hk with hk | ⟨hk, h0⟩
  · exact hx.2.1 k h1 hk
  · rcases hx.2.2 with z | g
    · omega
    · exact g k hk
theorem gm_rf_ext {α α' : Nat → Nat} {n n' : Nat} (hx : gm_xt α n α' n') {k : Nat} (hk : gm_kn n k) : gm_rf α' k = gm_rf α k := gm_rf_cg (gm_xt_at hx hk)
theorem gm_ro_ext {α α' : Nat → Nat} {n n' : Nat} (hx : gm_xt α n α' n') {k : Nat} (hk : gm_kn n k) : gm_ro α' k = gm_ro α k := gm_ro_cg (gm_xt_at hx hk)
theorem gm_kn_ext {α α' : Nat → Nat} {n n' : Nat} (hx : gm_xt α n α' n') {k : Nat} (hk : gm_kn n k) : gm_kn n' k := by
  have := hx.1
  rcases hk with hk | ⟨hk, h0⟩
  · exact Or.inl (by omega)
  · exact Or.inr ⟨hk, by omega⟩
theorem gm_cv_ext {α α' adK : Nat → Nat} {n n' : Nat} (hx : gm_xt α n α' n') {v : gm_V} {w : Value} (h : gm_cv α adK n v w) : gm_cv α' adK n' v w := by
  rcases v with x | x | k | c
  · exact h
  · exact h
  · obtain ⟨rfl, hk⟩ := h
    exact ⟨(gm_rf_ext hx hk).symm, gm_kn_ext hx hk⟩
  · exact h
theorem gm_lr_ext {α α' adK : Nat → Nat} {n n' nL : Nat} (hx : gm_xt α n α' n') {L : gm_L} {ls : Array Slot} (h : gm_lr α adK n nL L ls) : gm_lr α' adK n' nL L ls := by
  obtain ⟨h1, l, h2, h3⟩ := h
  exact ⟨h1, l, h2, fun i v hi => by obtain ⟨w, a, b⟩ := h3 i v hi; exact ⟨w, gm_cv_ext hx a, b⟩⟩
theorem gm_sr_ext {α α' adK : Nat → Nat} {n n' : Nat} (hx : gm_xt α n α' n') : ∀ {st : List gm_V} {sv : List Value}, gm_sr α adK n st sv → gm_sr α' adK n' st sv := by
  intro st
  induction st with
  | nil => intro sv h; exact h
  | cons v st ih =>
    intro sv h
    obtain ⟨w, sv', rfl, a, b⟩ := h
    exact ⟨w, sv', rfl, gm_cv_ext hx a, ih b⟩
noncomputable def gm_al (α : Nat → Nat) (n q : Nat) : Nat → Nat := fun a => if a = n + 1 then q else α a
theorem gm_al_xt {α : Nat → Nat} {n q : Nat} (hn : n + 1 < 100000) : gm_xt α n (gm_al α n q) (n + 1) := ⟨by omega, fun k _ h => by simp [gm_al]; omega, Or.inr fun k h => by simp [gm_al]; omega⟩
/-- the world with a new cell behind it -/
theorem gm_wl_push {ti : Nat → ClassId} {α : Nat → Nat} {n q kind len : Nat} {K : gm_K} {R : gm_R} {M : gm_M} {x : va_E} (hn : n + 1 < 100000) (hR : gm_Rv n R) (hx : gm_en ti (gm_al α n q) (gm_nK K n kind len) (gm_nR R n) (gm_nM M n) (n + 1) = x) : gm_wl ti α n K R M ++ [(q, x)] = gm_wl ti (gm_al α n q) (n + 1) (gm_nK K n kind len) (gm_nR R n) (gm_nM M n) := by
  have hold : gm_wl ti α n K R M = gm_wl ti (gm_al α n q) n (gm_nK K n kind len) (gm_nR R n) (gm_nM M n) := by
    refine gm_wl_ext fun k h1 h2 => ⟨by simp [gm_al]; omega, ?_⟩
    have eK : gm_nK K n kind len k = K k := by simp [gm_nK]; omega
    have eM : gm_nM M n k = M k := by funext b; simp [gm_nM]; omega
    have eR : gm_nR R n k = R k := by funext b; simp [gm_nR]; omega
    have e1 : ∀ j, gm_rf (gm_al α n q) (R k j) = gm_rf α (R k j) := fun j => gm_rf_ext (gm_al_xt hn) (hR.2 k j)
    have e2 : ∀ j, gm_ro (gm_al α n q) (R k j) = gm_ro α (R k j) := fun j => gm_ro_ext (gm_al_xt hn) (hR.2 k j)
    unfold gm_en gm_fs
    rw [eK, eM, eR]
    simp only [e1, e2]
  rw [hold, ← hx]
  unfold gm_wl
  rw [List.range_succ, List.map_append]
  simp [gm_al]
theorem gm_Rv_n {n : Nat} {R : gm_R} (hn : n + 1 < 100000) (h : gm_Rv n R) : gm_Rv (n + 1) (gm_nR R n) := by
  refine ⟨hn, fun k j => ?_⟩
  unfold gm_nR
  split
  · exact Or.inl (Nat.zero_le _)
  · exact gm_kn_ext (gm_al_xt (α := fun _ => 0) (q := 0) hn) (h.2 k j)
section GA
variable {X : Int → Int} {LX d bc bs mi pc : Nat} {L : gm_L} {st : List gm_V} {n : Nat} {K : gm_K} {R : gm_R} {M : gm_M} {Q : gm_Q}
theorem gm_p_iald {k : Nat} {e0 : Int} (h : gm_at mi pc = some .iaload) (hk : 1 ≤ k ∧ k ≤ n) (hK : (K k).1 = 0) (hi : 0 ≤ gm_w e0 ∧ gm_w e0 < (K k).2) : gm_Sp X LX d mi pc L (gm_vi e0 :: gm_vr k :: st) n K R M (pc + 1) L (gm_vi (M k (gm_w e0)) :: st) n K R M 0 0 := by
  intro p l e Rm s m args below meth c D ti adK adV A hcx hev hd hd2 hA α H locs cells slots ls sv Q' hc1 hc2 hR hL hS k2
  obtain ⟨w0, sv, rfl, h0, hS⟩ := hS
  obtain ⟨w1, sv, rfl, ⟨rfl, -⟩, hS⟩ := hS
  cases h0
  have hdg := gm_dec hcx h rfl
  obtain ⟨hx, hb, -⟩ := id hcx
  obtain ⟨hKn, hP, hD, hSv, hRv⟩ := id hR
  have he := gm_wl_at (ti := ti) (α := α) (K := K) (R := R) (M := M) hk.1 hk.2
  have e1 : gm_en ti α K R M k = .inl (ti 0, (K k).2, .inl fun j => Int32.ofInt (M k j)) := by unfold gm_en; rw [hK]
  rw [e1] at he
  rw [gm_rf_pos hk.1 (Nat.lt_of_le_of_lt hk.2 hRv.1)]
  refine va_iald hx hb hKn hP (k - 1) 0 he rfl (gm_in hi.1 hi.2) hdg ?_
  rw [gm_wn hi.1]
  exact k2 α H locs ls _ gm_xt.rf hR hL ⟨_, _, rfl, rfl, hS⟩
theorem gm_p_bald {k : Nat} {e0 : Int} (h : gm_at mi pc = some .baload) (hk : 1 ≤ k ∧ k ≤ n) (hK : (K k).1 = 1) (hi : 0 ≤ gm_w e0 ∧ gm_w e0 < (K k).2) : gm_Sp X LX d mi pc L (gm_vi e0 :: gm_vr k :: st) n K R M (pc + 1) L (gm_vi (M k (gm_w e0)) :: st) n K R M 0 0 := by
  intro p l e Rm s m args below meth c D ti adK adV A hcx hev hd hd2 hA α H locs cells slots ls sv Q' hc1 hc2 hR hL hS k2
  obtain ⟨w0, sv, rfl, h0, hS⟩ := hS
  obtain ⟨w1, sv, rfl, ⟨rfl, -⟩, hS⟩ := hS
  cases h0
  have hdg := gm_dec hcx h rfl
  obtain ⟨hx, hb, -⟩ := id hcx
  obtain ⟨hKn, hP, hD, hSv, hRv⟩ := id hR
  have he := gm_wl_at (ti := ti) (α := α) (K := K) (R := R) (M := M) hk.1 hk.2
  have e1 : gm_en ti α K R M k = .inl (ti 1, (K k).2, .inl fun j => Int32.ofInt (M k j)) := by unfold gm_en; rw [hK]
  rw [e1] at he
  rw [gm_rf_pos hk.1 (Nat.lt_of_le_of_lt hk.2 hRv.1)]
  refine va_bald hx hb hKn hP (k - 1) 1 he rfl (gm_in hi.1 hi.2) hdg ?_
  rw [gm_wn hi.1]
  exact k2 α H locs ls _ gm_xt.rf hR hL ⟨_, _, rfl, rfl, hS⟩
theorem gm_p_lald {k : Nat} {e0 : Int} (h : gm_at mi pc = some .laload) (hk : 1 ≤ k ∧ k ≤ n) (hK : (K k).1 = 2) (hi : 0 ≤ gm_w e0 ∧ gm_w e0 < (K k).2) : gm_Sp X LX d mi pc L (gm_vi e0 :: gm_vr k :: st) n K R M (pc + 1) L (gm_vl (M k (gm_w e0)) :: st) n K R M 0 0 := by
  intro p l e Rm s m args below meth c D ti adK adV A hcx hev hd hd2 hA α H locs cells slots ls sv Q' hc1 hc2 hR hL hS k2
  obtain ⟨w0, sv, rfl, h0, hS⟩ := hS
  obtain ⟨w1, sv, rfl, ⟨rfl, -⟩, hS⟩ := hS
  cases h0
  have hdg := gm_dec hcx h rfl
  obtain ⟨hx, hb, -⟩ := id hcx
  obtain ⟨hKn, hP, hD, hSv, hRv⟩ := id hR
  have he := gm_wl_at (ti := ti) (α := α) (K := K) (R := R) (M := M) hk.1 hk.2
  have e1 : gm_en ti α K R M k = .inl (ti 2, (K k).2, .inr (.inl fun j => Int64.ofInt (M k j))) := by unfold gm_en; rw [hK]
  rw [e1] at he
  rw [gm_rf_pos hk.1 (Nat.lt_of_le_of_lt hk.2 hRv.1)]
  refine va_lald hx hb hKn hP (k - 1) 2 he rfl (gm_in hi.1 hi.2) hdg ?_
  rw [gm_wn hi.1]
  exact k2 α H locs ls _ gm_xt.rf hR hL ⟨_, _, rfl, rfl, hS⟩
theorem gm_p_aald {k : Nat} {e0 : Int} (h : gm_at mi pc = some .aaload) (hk : 1 ≤ k ∧ k ≤ n) (hK : (K k).1 = 3) (hi : 0 ≤ gm_w e0 ∧ gm_w e0 < (K k).2) : gm_Sp X LX d mi pc L (gm_vi e0 :: gm_vr k :: st) n K R M (pc + 1) L (gm_vr (R k (gm_w e0)) :: st) n K R M 0 0 := by
  intro p l e Rm s m args below meth c D ti adK adV A hcx hev hd hd2 hA α H locs cells slots ls sv Q' hc1 hc2 hR hL hS k2
  obtain ⟨w0, sv, rfl, h0, hS⟩ := hS
  obtain ⟨w1, sv, rfl, ⟨rfl, -⟩, hS⟩ := hS
  cases h0
  have hdg := gm_dec hcx h rfl
  obtain ⟨hx, hb, -⟩ := id hcx
  obtain ⟨hKn, hP, hD, hSv, hRv⟩ := id hR
  have he := gm_wl_at (ti := ti) (α := α) (K := K) (R := R) (M := M) hk.1 hk.2
  have e1 : gm_en ti α K R M k = .inl (ti 3, (K k).2, .inr (.inr (.inr (.inr fun j => gm_ro α (R k j))))) := by unfold gm_en; rw [hK]
  rw [e1] at he
  rw [gm_rf_pos hk.1 (Nat.lt_of_le_of_lt hk.2 hRv.1)]
  refine va_aldq hx hb hKn hP (k - 1) 3 he rfl (gm_in hi.1 hi.2) hdg ?_
  rw [gm_wn hi.1, gm_rf_ro]
  exact k2 α H locs ls _ gm_xt.rf hR hL ⟨_, _, rfl, ⟨rfl, hRv.2 _ _⟩, hS⟩
/-- the script -/
theorem gm_p_sald {e0 : Int} (h : gm_at mi pc = some .iaload) (hi : 0 ≤ gm_w e0 ∧ gm_w e0 < LX) : gm_Sp X LX d mi pc L (gm_vi e0 :: gm_vo 2000 :: st) n K R M (pc + 1) L (gm_vi (X (gm_w e0)) :: st) n K R M 0 0 := by
  intro p l e Rm s m args below meth c D ti adK adV A hcx hev hd hd2 hA α H locs cells slots ls sv Q' hc1 hc2 hR hL hS k2
  obtain ⟨w0, sv, rfl, h0, hS⟩ := hS
  obtain ⟨w1, sv, rfl, ⟨a, rfl, ha⟩, hS⟩ := hS
  cases h0
  have hdg := gm_dec hcx h rfl
  obtain ⟨hx, hb, -⟩ := id hcx
  obtain ⟨hKn, hP, hD, hSv, hRv⟩ := id hR
  obtain ⟨-, -, -, -, -, v1, v2, v3, -⟩ := hev
  rw [ha (by omega)]
  refine va_sld hx hb v1 v2 v3 hSv (gm_in hi.1 hi.2) hdg ?_
  rw [gm_wn hi.1]
  exact k2 α H locs ls _ gm_xt.rf hR hL ⟨_, _, rfl, rfl, hS⟩
theorem gm_ofNat (k : Nat) : Int32.ofNat k = Int32.ofInt (k : Int) := (Int32.ofInt_eq_ofNat).symm
theorem gm_p_slen (h : gm_at mi pc = some .arraylength) : gm_Sp X LX d mi pc L (gm_vo 2000 :: st) n K R M (pc + 1) L (gm_vi LX :: st) n K R M 0 0 := by
  intro p l e Rm s m args below meth c D ti adK adV A hcx hev hd hd2 hA α H locs cells slots ls sv Q' hc1 hc2 hR hL hS k2
  obtain ⟨w1, sv, rfl, ⟨a, rfl, ha⟩, hS⟩ := hS
  have hdg := gm_dec hcx h rfl
  obtain ⟨hx, hb, -⟩ := id hcx
  obtain ⟨hKn, hP, hD, hSv, hRv⟩ := id hR
  obtain ⟨-, -, -, -, -, v1, v2, v3, -⟩ := hev
  rw [ha (by omega)]
  refine va_slen hx hb v1 v2 v3 hSv hdg ?_
  exact k2 α H locs ls _ gm_xt.rf hR hL ⟨_, _, rfl, by rw [gm_ofNat]; rfl, hS⟩
theorem gm_p_alen {k : Nat} (h : gm_at mi pc = some .arraylength) (hk : 1 ≤ k ∧ k ≤ n) (hK : (K k).1 ≤ 3) : gm_Sp X LX d mi pc L (gm_vr k :: st) n K R M (pc + 1) L (gm_vi ((K k).2 : Int) :: st) n K R M 0 0 := by
  intro p l e Rm s m args below meth c D ti adK adV A hcx hev hd hd2 hA α H locs cells slots ls sv Q' hc1 hc2 hR hL hS k2
  obtain ⟨w1, sv, rfl, ⟨rfl, -⟩, hS⟩ := hS
  have hdg := gm_dec hcx h rfl
  obtain ⟨hx, hb, -⟩ := id hcx
  obtain ⟨hKn, hP, hD, hSv, hRv⟩ := id hR
  have he := gm_wl_at (ti := ti) (α := α) (K := K) (R := R) (M := M) hk.1 hk.2
  rw [gm_rf_pos hk.1 (Nat.lt_of_le_of_lt hk.2 hRv.1)]
  have k3 := k2 α H locs ls (Value.int (Int32.ofInt ((K k).2 : Int)) :: sv) gm_xt.rf hR hL ⟨_, _, rfl, rfl, hS⟩
  have hc : (K k).1 = 0 ∨ (K k).1 = 1 ∨ (K k).1 = 2 ∨ (K k).1 = 3 := by omega
  rcases hc with hc | hc | hc | hc
  · have e1 : gm_en ti α K R M k = .inl (ti 0, (K k).2, .inl fun j => Int32.ofInt (M k j)) := by unfold gm_en; rw [hc]
    rw [e1] at he
    exact va_alen hx hb hKn hP (k - 1) 0 he rfl (gm_ofNat _) hdg k3
  · have e1 : gm_en ti α K R M k = .inl (ti 1, (K k).2, .inl fun j => Int32.ofInt (M k j)) := by unfold gm_en; rw [hc]
    rw [e1] at he
    exact va_alen hx hb hKn hP (k - 1) 1 he rfl (gm_ofNat _) hdg k3
  · have e1 : gm_en ti α K R M k = .inl (ti 2, (K k).2, .inr (.inl fun j => Int64.ofInt (M k j))) := by unfold gm_en; rw [hc]
    rw [e1] at he
    exact va_alen hx hb hKn hP (k - 1) 2 he rfl (gm_ofNat _) hdg k3
  · have e1 : gm_en ti α K R M k = .inl (ti 3, (K k).2, .inr (.inr (.inr (.inr fun j => gm_ro α (R k j))))) := by unfold gm_en; rw [hc]
    rw [e1] at he
    exact va_alen hx hb hKn hP (k - 1) 3 he rfl (gm_ofNat _) hdg k3
theorem gm_updM {M : gm_M} {k : Nat} {e0 v : Int} (h : 0 ≤ gm_w e0) : upd (fun j => Int32.ofInt (M k j)) (Int32.ofInt e0).toNatClampNeg (Int32.ofInt v) = fun j : Nat => Int32.ofInt (gm_uM M k (gm_w e0) v k j) := by
  funext j
  unfold upd gm_uM
  have := gm_wn h
  by_cases hj : j = (Int32.ofInt e0).toNatClampNeg
  · rw [if_pos hj, if_pos ⟨rfl, by rw [hj]; exact this⟩]
  · rw [if_neg hj, if_neg (fun q => hj (by omega))]
theorem gm_p_iast {k : Nat} {e0 x : Int} (h : gm_at mi pc = some .iastore) (hk : 1 ≤ k ∧ k ≤ n) (hK : (K k).1 = 0) (hi : 0 ≤ gm_w e0 ∧ gm_w e0 < (K k).2) : gm_Sp X LX d mi pc L (gm_vi x :: gm_vi e0 :: gm_vr k :: st) n K R M (pc + 1) L st n K R (gm_uM M k (gm_w e0) x) 0 0 := by
  intro p l e Rm s m args below meth c D ti adK adV A hcx hev hd hd2 hA α H locs cells slots ls sv Q' hc1 hc2 hR hL hS k2
  obtain ⟨w2, sv, rfl, h2, hS⟩ := hS
  obtain ⟨w0, sv, rfl, h0, hS⟩ := hS
  obtain ⟨w1, sv, rfl, ⟨rfl, -⟩, hS⟩ := hS
  cases h0; cases h2
  have hdg := gm_dec hcx h rfl
  obtain ⟨hx, hb, -⟩ := id hcx
  obtain ⟨hKn, hP, hD, hSv, hRv⟩ := id hR
  have he := gm_wl_at (ti := ti) (α := α) (K := K) (R := R) (M := M) hk.1 hk.2
  have e1 : ∀ M : gm_M, gm_en ti α K R M k = .inl (ti 0, (K k).2, .inl fun j => Int32.ofInt (M k j)) := by intro M; unfold gm_en; rw [hK]
  rw [e1] at he
  rw [gm_rf_pos hk.1 (Nat.lt_of_le_of_lt hk.2 hRv.1)]
  refine va_iast hx hb hKn hP hD hSv (k - 1) 0 he rfl (gm_in hi.1 hi.2) hdg fun H1 locs1 p1 p2 p3 => ?_
  rw [gm_updM hi.1, gm_wl_set (M' := gm_uM M k (gm_w e0) x) (R' := R) hk.1 hk.2 (e1 _) (fun k' hk' => gm_en_uM hk')] at p1 p2
  exact k2 α H1 locs1 ls sv gm_xt.rf ⟨hKn, p1, p2, p3, hRv⟩ hL hS
theorem gm_p_bast {k : Nat} {e0 x : Int} (h : gm_at mi pc = some .bastore) (hk : 1 ≤ k ∧ k ≤ n) (hK : (K k).1 = 1) (hi : 0 ≤ gm_w e0 ∧ gm_w e0 < (K k).2) : gm_Sp X LX d mi pc L (gm_vi x :: gm_vi e0 :: gm_vr k :: st) n K R M (pc + 1) L st n K R (gm_uM M k (gm_w e0) (gm_wb x)) 0 0 := by
  intro p l e Rm s m args below meth c D ti adK adV A hcx hev hd hd2 hA α H locs cells slots ls sv Q' hc1 hc2 hR hL hS k2
  obtain ⟨w2, sv, rfl, h2, hS⟩ := hS
  obtain ⟨w0, sv, rfl, h0, hS⟩ := hS
  obtain ⟨w1, sv, rfl, ⟨rfl, -⟩, hS⟩ := hS
  cases h0; cases h2
  have hdg := gm_dec hcx h rfl
  obtain ⟨hx, hb, -⟩ := id hcx
  obtain ⟨hKn, hP, hD, hSv, hRv⟩ := id hR
  have he := gm_wl_at (ti := ti) (α := α) (K := K) (R := R) (M := M) hk.1 hk.2
  have e1 : ∀ M : gm_M, gm_en ti α K R M k = .inl (ti 1, (K k).2, .inl fun j => Int32.ofInt (M k j)) := by intro M; unfold gm_en; rw [hK]
  rw [e1] at he
  rw [gm_rf_pos hk.1 (Nat.lt_of_le_of_lt hk.2 hRv.1)]
  refine va_bast hx hb hKn hP hD hSv (k - 1) 1 he rfl (gm_in hi.1 hi.2) hdg fun H1 locs1 p1 p2 p3 => ?_
  rw [vp_nar_byte, gm_i2b, gm_updM hi.1, gm_wl_set (M' := gm_uM M k (gm_w e0) (gm_wb x)) (R' := R) hk.1 hk.2 (e1 _) (fun k' hk' => gm_en_uM hk')] at p1 p2
  exact k2 α H1 locs1 ls sv gm_xt.rf ⟨hKn, p1, p2, p3, hRv⟩ hL hS
theorem gm_updL {M : gm_M} {k : Nat} {e0 v : Int} (h : 0 ≤ gm_w e0) : vp_updL (fun j => Int64.ofInt (M k j)) (Int32.ofInt e0).toNatClampNeg (Int64.ofInt v) = fun j : Nat => Int64.ofInt (gm_uM M k (gm_w e0) v k j) := by
  funext j
  unfold vp_updL gm_uM
  have := gm_wn h
  by_cases hj : j = (Int32.ofInt e0).toNatClampNeg
  · rw [if_pos hj, if_pos ⟨rfl, by rw [hj]; exact this⟩]
  · rw [if_neg hj, if_neg (fun q => hj (by omega))]
theorem gm_p_last {k : Nat} {e0 x : Int} (h : gm_at mi pc = some .lastore) (hk : 1 ≤ k ∧ k ≤ n) (hK : (K k).1 = 2) (hi : 0 ≤ gm_w e0 ∧ gm_w e0 < (K k).2) : gm_Sp X LX d mi pc L (gm_vl x :: gm_vi e0 :: gm_vr k :: st) n K R M (pc + 1) L st n K R (gm_uM M k (gm_w e0) x) 0 0 := by
  intro p l e Rm s m args below meth c D ti adK adV A hcx hev hd hd2 hA α H locs cells slots ls sv Q' hc1 hc2 hR hL hS k2
  obtain ⟨w2, sv, rfl, h2, hS⟩ := hS
  obtain ⟨w0, sv, rfl, h0, hS⟩ := hS
  obtain ⟨w1, sv, rfl, ⟨rfl, -⟩, hS⟩ := hS
  cases h0; cases h2
  have hdg := gm_dec hcx h rfl
  obtain ⟨hx, hb, -⟩ := id hcx
  obtain ⟨hKn, hP, hD, hSv, hRv⟩ := id hR
  have he := gm_wl_at (ti := ti) (α := α) (K := K) (R := R) (M := M) hk.1 hk.2
  have e1 : ∀ M : gm_M, gm_en ti α K R M k = .inl (ti 2, (K k).2, .inr (.inl fun j => Int64.ofInt (M k j))) := by intro M; unfold gm_en; rw [hK]
  rw [e1] at he
  rw [gm_rf_pos hk.1 (Nat.lt_of_le_of_lt hk.2 hRv.1)]
  refine va_last hx hb hKn hP hD hSv (k - 1) 2 he rfl (gm_in hi.1 hi.2) hdg fun H1 locs1 p1 p2 p3 => ?_
  rw [gm_updL hi.1, gm_wl_set (M' := gm_uM M k (gm_w e0) x) (R' := R) hk.1 hk.2 (e1 _) (fun k' hk' => gm_en_uM hk')] at p1 p2
  exact k2 α H1 locs1 ls sv gm_xt.rf ⟨hKn, p1, p2, p3, hRv⟩ hL hS
end GA
end
/-! 08.new -/
section
/-! STEPS that make cells; constants. -/
theorem gm_new_spec {o ix ci : Nat} (h : gm_new o ix = some ci) : ci < 12 ∧ Jvm.Cond.classLink (gm_rn o) ix (gm_cn ci) ∈ gm_T ∧ Jvm.Cond.instantiable (gm_cn ci) (gm_nf ci) ∈ gm_T ∧ Jvm.Cond.initialized (gm_cn ci) ∈ gm_T := by
  unfold gm_new at h
  cases hr : gm_nl.find? (fun q => decide (q.1 = o ∧ q.2.1 = ix)) with
  | none => rw [hr] at h; cases h
  | some q =>
    rw [hr] at h
    have h1 := List.find?_some hr
    have h2 := List.mem_of_find?_eq_some hr
    have h3 := List.all_eq_true.mp gm_nl_ok q h2
    obtain ⟨a1, a2, a3, a4, a5, a6⟩ := q
    simp only [decide_eq_true_eq] at h1
    obtain ⟨rfl, rfl⟩ := h1
    simp only [Option.map_some, Option.some.injEq] at h
    subst h
    simp only [Bool.and_eq_true, decide_eq_true_eq] at h3
    obtain ⟨⟨⟨b1, b2⟩, b3⟩, b4⟩ := h3
    exact ⟨b1, gm_T_in b2 rfl, gm_T_in b3 rfl, gm_T_in b4 rfl⟩
theorem gm_cs_get {ci : Nat} (h : ci < 12) : ∃ T N, gm_cs[ci]? = some (gm_cn ci, T, N) ∧ N = gm_nf ci := by
  obtain ⟨⟨C, T, N⟩, hc⟩ : ∃ q, gm_cs[ci]? = some q := ⟨_, List.getElem?_eq_getElem (by simpa [gm_cs] using h)⟩
  have : gm_cn ci = C := by unfold gm_cn; rw [hc]; rfl
  rw [this]
  exact ⟨T, N, hc, (gm_cs_ok _ _ _ _ hc).2.1⟩
theorem gm_ti_eq {D : va_G} {ti : Nat → ClassId} {s : State} {cA : ClassId} {ty : FieldType} {i : Nat} {z : ClassId} (h1 : va_K D gm_cs (gm_ty ti) s) (hi : (gm_ty ti)[i]? = some (z, ty)) (h2 : va_K D gm_cs (gm_ty ti ++ [(cA, ty)]) s) : cA = z := by
  have a := (h1.2 i _ hi).2
  have b := (h2.2 4 (cA, ty) rfl).2
  cases ty with
  | object C =>
    obtain ⟨-, -, -, -, -, e1⟩ := a
    obtain ⟨-, -, -, -, -, e2⟩ := b
    exact Option.some.inj (e2.symm.trans e1)
  | _ => exact Option.some.inj ((show s.vm.findClass _ = some cA from b).symm.trans a)
theorem gm_al_self {α : Nat → Nat} {n q : Nat} (hn : n + 1 < 100000) : gm_rf (gm_al α n q) (n + 1) = .ref q := by rw [gm_rf_pos (by omega) hn]; simp [gm_al]
section GN
variable {X : Int → Int} {LX d bc bs mi pc : Nat} {L : gm_L} {st : List gm_V} {n : Nat} {K : gm_K} {R : gm_R} {M : gm_M} {Q : gm_Q}
theorem gm_p_new {ix ci : Nat} (hn9 : n + 1 < 100000) (h : gm_at mi pc = some (.new ix)) (hn : gm_new (gm_ow mi) ix = some ci) : gm_Sp X LX d mi pc L st n K R M (pc + 3) L (gm_vr (n + 1) :: st) (n + 1) (gm_nK K n (ci + 4) 0) (gm_nR R n) (gm_nM M n) 1 (gm_nf ci) := by
  intro p l e Rm s m args below meth c D ti adK adV A hcx hev hd hd2 hA α H locs cells slots ls sv Q' hc1 hc2 hR hL hS k2
  have hdg := gm_dec hcx h rfl
  obtain ⟨hx, hb, -, hown, -, -, hts, -⟩ := id hcx
  obtain ⟨hKn, hP, hD, hSv, hRv⟩ := id hR
  obtain ⟨hci, n1, n2, n3⟩ := gm_new_spec hn
  obtain ⟨T, N, hc, rfl⟩ := gm_cs_get hci
  obtain ⟨c1, -, c3, -, c5, ty, c6, c7⟩ := gm_cs_ok _ _ _ _ hc
  have ety : gm_fty ci = ty := by unfold gm_fty; rw [c6]; rfl
  have efs : ∀ q : Nat, gm_en ti (gm_al α n q) (gm_nK K n (ci + 4) 0) (gm_nR R n) (gm_nM M n) (n + 1) = .inr (ci, gm_fs α (gm_nR R n) (gm_nM M n) (n + 1) ci) := by
    intro q
    rw [gm_en_obj (ci := ci) (by simp [gm_nK])]
    have e1 : ∀ α : Nat → Nat, gm_fs α (gm_nR R n) (gm_nM M n) (n + 1) ci = (List.range (gm_nf ci)).map fun j => if gm_isr ci j = true then Value.null else .int (Int32.ofInt 0) := by
      intro α
      unfold gm_fs
      apply List.map_congr_left
      intro j _
      simp [gm_nR, gm_nM, gm_rf]
    rw [e1, e1]
  refine va_new (fs := gm_fs α (gm_nR R n) (gm_nM M n) (n + 1) ci) hx hb hts c1 ty c7 hown (hts _ n1) (hts _ n2) (hts _ n3) hKn hP hD hSv hA hc (fun j hj => ?_) hc1 hc2 hdg (fun q H1 p1 p2 p3 => ?_)
  · unfold vp_V
    rw [List.getD_eq_getElem?_getD, gm_fs_at hj, Option.getD_some]
    rcases (gm_kinds hci hj).1 with ⟨-, e2, e3⟩ | ⟨-, e2, e3⟩ | ⟨-, e2, e3⟩
    · rw [← ety, e2, e3]; simp [gm_nM]; rfl
    · rw [← ety, e2, e3]; simp [gm_nM]; rfl
    · rw [← ety, e3]
      rcases e2 with ⟨C, e2⟩ | ⟨C, e2⟩ <;> (rw [e2]; simp [gm_nR, gm_rf]; rfl)
  · rw [← efs q, gm_wl_push hn9 hRv rfl] at p1 p2
    refine k2 (gm_al α n q) H1 locs ls _ (gm_al_xt hn9) ⟨hKn, p1, p2, p3, gm_Rv_n hn9 hRv⟩ (gm_lr_ext (gm_al_xt hn9) hL) ⟨_, _, rfl, ⟨(gm_al_self hn9).symm, Or.inl (Nat.le_refl _)⟩, gm_sr_ext (gm_al_xt hn9) hS⟩
/-- a new array of numbers: kind 0 int, 1 byte, 2 long -/
theorem gm_p_newa {at0 : ArrayType} {kd : Nat} {e0 : Int} (hn9 : n + 1 < 100000) (h : gm_at mi pc = some (.newarray at0)) (hkd : (at0 = .int ∧ kd = 0) ∨ (at0 = .byte ∧ kd = 1) ∨ (at0 = .long ∧ kd = 2)) (hi : 0 ≤ gm_w e0 ∧ gm_w e0 < 60000000) : gm_Sp X LX d mi pc L (gm_vi e0 :: st) n K R M (pc + 2) L (gm_vr (n + 1) :: st) (n + 1) (gm_nK K n kd (gm_w e0).toNat) (gm_nR R n) (gm_nM M n) 1 (gm_w e0).toNat := by
  intro p l e Rm s m args below meth c D ti adK adV A hcx hev hd hd2 hA α H locs cells slots ls sv Q' hc1 hc2 hR hL hS k2
  obtain ⟨w0, sv, rfl, h0, hS⟩ := hS
  cases h0
  have hdg := gm_dec hcx h rfl
  obtain ⟨hx, hb, -, hown, -, -, hts, -⟩ := id hcx
  obtain ⟨hKn, hP, hD, hSv, hRv⟩ := id hR
  have hneg : ¬ Int32.ofInt e0 < 0 := fun q => by
    have := (gm_lt e0 0).mp q
    have e2 : gm_w 0 = 0 := rfl
    omega
  have hN : (Int32.ofInt e0).toNatClampNeg = (gm_w e0).toNat := gm_cl e0
  rcases hkd with ⟨rfl, rfl⟩ | ⟨rfl, rfl⟩ | ⟨rfl, rfl⟩
  · refine va_newa (atype := .int) (a0 := ((gm_w e0).toNat, .inl fun j => Int32.ofInt (gm_nM M n (n + 1) j))) hx hb (hts _ gm_ac_int) rfl hKn hP hD hSv hA (fun cA => ?_) hneg hN (by show (gm_w e0).toNat * 4 ≤ _; omega) hc1 hc2 hdg fun q cA H1 p0 p1 p2 p3 => ?_
    · have : (fun j : Nat => Int32.ofInt (gm_nM M n (n + 1) j)) = fun _ => 0 := by funext j; simp [gm_nM]
      rw [this]; rfl
    · cases gm_ti_eq (i := 0) hKn rfl p0
      have e1 : gm_en ti (gm_al α n q) (gm_nK K n 0 (gm_w e0).toNat) (gm_nR R n) (gm_nM M n) (n + 1) = .inl (ti 0, (gm_w e0).toNat, .inl fun j => Int32.ofInt (gm_nM M n (n + 1) j)) := by unfold gm_en; simp [gm_nK]
      rw [← e1, gm_wl_push hn9 hRv rfl] at p1 p2
      exact k2 (gm_al α n q) H1 locs ls _ (gm_al_xt hn9) ⟨hKn, p1, p2, p3, gm_Rv_n hn9 hRv⟩ (gm_lr_ext (gm_al_xt hn9) hL) ⟨_, _, rfl, ⟨(gm_al_self hn9).symm, Or.inl (Nat.le_refl _)⟩, gm_sr_ext (gm_al_xt hn9) hS⟩
  · refine va_newa (atype := .byte) (a0 := ((gm_w e0).toNat, .inl fun j => Int32.ofInt (gm_nM M n (n + 1) j))) hx hb (hts _ gm_ac_byte) rfl hKn hP hD hSv hA (fun cA => ?_) hneg hN (by show (gm_w e0).toNat * 1 ≤ _; omega) hc1 hc2 hdg fun q cA H1 p0 p1 p2 p3 => ?_
    · have : (fun j : Nat => Int32.ofInt (gm_nM M n (n + 1) j)) = fun _ => 0 := by funext j; simp [gm_nM]
      rw [this]; rfl
    · cases gm_ti_eq (i := 1) hKn rfl p0
      have e1 : gm_en ti (gm_al α n q) (gm_nK K n 1 (gm_w e0).toNat) (gm_nR R n) (gm_nM M n) (n + 1) = .inl (ti 1, (gm_w e0).toNat, .inl fun j => Int32.ofInt (gm_nM M n (n + 1) j)) := by unfold gm_en; simp [gm_nK]
      rw [← e1, gm_wl_push hn9 hRv rfl] at p1 p2
      exact k2 (gm_al α n q) H1 locs ls _ (gm_al_xt hn9) ⟨hKn, p1, p2, p3, gm_Rv_n hn9 hRv⟩ (gm_lr_ext (gm_al_xt hn9) hL) ⟨_, _, rfl, ⟨(gm_al_self hn9).symm, Or.inl (Nat.le_refl _)⟩, gm_sr_ext (gm_al_xt hn9) hS⟩
  · refine va_newa (atype := .long) (a0 := ((gm_w e0).toNat, .inr (.inl fun j => Int64.ofInt (gm_nM M n (n + 1) j)))) hx hb (hts _ gm_ac_long) rfl hKn hP hD hSv hA (fun cA => ?_) hneg hN (by show (gm_w e0).toNat * 8 ≤ _; omega) hc1 hc2 hdg fun q cA H1 p0 p1 p2 p3 => ?_
    · have : (fun j : Nat => Int64.ofInt (gm_nM M n (n + 1) j)) = fun _ => 0 := by funext j; simp [gm_nM]
      rw [this]; rfl
    · cases gm_ti_eq (i := 2) hKn rfl p0
      have e1 : gm_en ti (gm_al α n q) (gm_nK K n 2 (gm_w e0).toNat) (gm_nR R n) (gm_nM M n) (n + 1) = .inl (ti 2, (gm_w e0).toNat, .inr (.inl fun j => Int64.ofInt (gm_nM M n (n + 1) j))) := by unfold gm_en; simp [gm_nK]
      rw [← e1, gm_wl_push hn9 hRv rfl] at p1 p2
      exact k2 (gm_al α n q) H1 locs ls _ (gm_al_xt hn9) ⟨hKn, p1, p2, p3, gm_Rv_n hn9 hRv⟩ (gm_lr_ext (gm_al_xt hn9) hL) ⟨_, _, rfl, ⟨(gm_al_self hn9).symm, Or.inl (Nat.le_refl _)⟩, gm_sr_ext (gm_al_xt hn9) hS⟩
/-- a new row of states -/
theorem gm_p_anew {ix ci : Nat} {e0 : Int} (hn9 : n + 1 < 100000) (h : gm_at mi pc = some (.anewarray ix)) (hn : gm_new (gm_ow mi) ix = some ci) (hci : gm_cn ci = "GlacierMail$State") (hi : 0 ≤ gm_w e0 ∧ gm_w e0 < 60000000) : gm_Sp X LX d mi pc L (gm_vi e0 :: st) n K R M (pc + 3) L (gm_vr (n + 1) :: st) (n + 1) (gm_nK K n 3 (gm_w e0).toNat) (gm_nR R n) (gm_nM M n) 1 (gm_w e0).toNat := by
  intro p l e Rm s m args below meth c D ti adK adV A hcx hev hd hd2 hA α H locs cells slots ls sv Q' hc1 hc2 hR hL hS k2
  obtain ⟨w0, sv, rfl, h0, hS⟩ := hS
  cases h0
  have hdg := gm_dec hcx h rfl
  obtain ⟨hx, hb, -, hown, -, -, hts, -⟩ := id hcx
  obtain ⟨hKn, hP, hD, hSv, hRv⟩ := id hR
  have hneg : ¬ Int32.ofInt e0 < 0 := fun q => by
    have := (gm_lt e0 0).mp q
    have e2 : gm_w 0 = 0 := rfl
    omega
  obtain ⟨-, n1, -, -⟩ := gm_new_spec hn
  rw [hci] at n1
  obtain ⟨-, -, -, -, -, -, -, -, v4, -⟩ := hev
  refine va_newq hx hb hown (hts _ n1) v4 hKn hP hD hSv hA hneg (gm_cl e0) (by omega) hc1 hc2 hdg fun q cA H1 p0 p1 p2 p3 => ?_
  cases gm_ti_eq (i := 3) hKn rfl p0
  have e1 : gm_en ti (gm_al α n q) (gm_nK K n 3 (gm_w e0).toNat) (gm_nR R n) (gm_nM M n) (n + 1) = .inl (ti 3, (gm_w e0).toNat, .inr (.inr (.inr (.inr fun _ => none)))) := by
    unfold gm_en; simp [gm_nK, gm_nR, gm_ro]
  rw [← e1, gm_wl_push hn9 hRv rfl] at p1 p2
  exact k2 (gm_al α n q) H1 locs ls _ (gm_al_xt hn9) ⟨hKn, p1, p2, p3, gm_Rv_n hn9 hRv⟩ (gm_lr_ext (gm_al_xt hn9) hL) ⟨_, _, rfl, ⟨(gm_al_self hn9).symm, Or.inl (Nat.le_refl _)⟩, gm_sr_ext (gm_al_xt hn9) hS⟩
theorem gm_p_aast {k r ci : Nat} {e0 : Int} (h : gm_at mi pc = some .aastore) (hk : 1 ≤ k ∧ k ≤ n) (hK : (K k).1 = 3) (hi : 0 ≤ gm_w e0 ∧ gm_w e0 < (K k).2) (hr : 1 ≤ r ∧ r ≤ n) (hKr : (K r).1 = ci + 4) (hci : ci < 12) (hcn : gm_cn ci = "GlacierMail$State") : gm_Sp X LX d mi pc L (gm_vr r :: gm_vi e0 :: gm_vr k :: st) n K R M (pc + 1) L st n K (gm_uR R k (gm_w e0) r) M 0 0 := by
  intro p l e Rm s m args below meth c D ti adK adV A hcx hev hd hd2 hA α H locs cells slots ls sv Q' hc1 hc2 hR hL hS k2
  obtain ⟨w2, sv, rfl, ⟨rfl, -⟩, hS⟩ := hS
  obtain ⟨w0, sv, rfl, h0, hS⟩ := hS
  obtain ⟨w1, sv, rfl, ⟨rfl, -⟩, hS⟩ := hS
  cases h0
  have hdg := gm_dec hcx h rfl
  obtain ⟨hx, hb, -⟩ := id hcx
  obtain ⟨hKn, hP, hD, hSv, hRv⟩ := id hR
  have he := gm_wl_at (ti := ti) (α := α) (K := K) (R := R) (M := M) hk.1 hk.2
  have he2 := gm_wl_at (ti := ti) (α := α) (K := K) (R := R) (M := M) hr.1 hr.2
  rw [gm_en_obj hKr] at he2
  have e1 : ∀ R : gm_R, gm_en ti α K R M k = .inl (ti 3, (K k).2, .inr (.inr (.inr (.inr fun j => gm_ro α (R k j))))) := by intro R; unfold gm_en; rw [hK]
  rw [e1] at he
  obtain ⟨T, N, hc, -⟩ := gm_cs_get hci
  rw [gm_rf_pos hk.1 (Nat.lt_of_le_of_lt hk.2 hRv.1), gm_rf_pos hr.1 (Nat.lt_of_le_of_lt hr.2 hRv.1)]
  refine va_astq hx hb hKn hP hD hSv (k - 1) 3 (r - 1) ci he (by rw [hcn]; rfl) he2 hc (gm_in hi.1 hi.2) hdg fun H1 locs1 p1 p2 p3 => ?_
  have e2 : va_up (fun j : Nat => gm_ro α (R k j)) (Int32.ofInt e0).toNatClampNeg (some (α r)) = fun j : Nat => gm_ro α (gm_uR R k (gm_w e0) r k j) := by
    funext j
    unfold va_up gm_uR
    have := gm_wn hi.1
    by_cases hj : j = (Int32.ofInt e0).toNatClampNeg
    · rw [if_pos hj, if_pos ⟨rfl, by rw [hj]; exact this⟩]
      rw [gm_ro_pos hr.1 (Nat.lt_of_le_of_lt hr.2 hRv.1)]
    · rw [if_neg hj, if_neg (fun q => hj (by omega))]
  rw [e2, gm_wl_set (M' := M) (R' := gm_uR R k (gm_w e0) r) hk.1 hk.2 (e1 _) (fun k' hk' => gm_en_uR hk')] at p1 p2
  exact k2 α H1 locs1 ls sv gm_xt.rf ⟨hKn, p1, p2, p3, gm_Rv_uR hRv (Or.inl hr.2)⟩ hL hS
theorem gm_ild_spec {o ix k : Nat} {v : Int} (h : gm_ild o ix = some (v, k)) : (if k = 0 then Jvm.Cond.constant (gm_rn o) ix (Int32.ofInt v) else .constantLong (gm_rn o) ix (Int64.ofInt v)) ∈ gm_T := by
  unfold gm_ild at h
  cases hr : gm_il.find? (fun q => decide (q.1 = o ∧ q.2.1 = ix)) with
  | none => rw [hr] at h; cases h
  | some q =>
    rw [hr] at h
    have h1 := List.find?_some hr
    have h3 := List.all_eq_true.mp gm_il_ok q (List.mem_of_find?_eq_some hr)
    obtain ⟨a1, a2, a3, a4, a5⟩ := q
    simp only [decide_eq_true_eq] at h1
    obtain ⟨rfl, rfl⟩ := h1
    simp only [Option.map_some, Option.some.injEq, Prod.mk.injEq] at h
    obtain ⟨rfl, rfl⟩ := h
    simp only [decide_eq_true_eq] at h3
    refine gm_T_in h3 ?_
    split <;> rfl
theorem gm_p_ldci {i : Instr} {ix : Nat} {v : Int} (h : gm_at mi pc = some i) (hi : i = .ldc ix ∨ i = .ldc_w ix) (hv : gm_ild (gm_ow mi) ix = some (v, 0)) : gm_Sp X LX d mi pc L st n K R M (pc + gm_len i) L (gm_vi v :: st) n K R M 0 0 := by
  refine gm_stk fun p l e Rm s m args below meth c hcx α adK H locs cells slots ls sv Q' hL hS k => ?_
  have hdg := gm_dec hcx h (by rcases hi with rfl | rfl <;> rfl)
  obtain ⟨hx, hb, -, hown, -, -, hts, -⟩ := hcx
  have hw := hts _ (gm_ild_spec hv)
  rcases hi with rfl | rfl
  · exact lv_ldc hx hb hown hw hdg (k _ ⟨_, _, rfl, rfl, hS⟩)
  · exact lv_ldcw hx hb hown hw hdg (k _ ⟨_, _, rfl, rfl, hS⟩)
theorem gm_p_ldcl {ix : Nat} {v : Int} (h : gm_at mi pc = some (.ldc2_w ix)) (hv : gm_ild (gm_ow mi) ix = some (v, 1)) : gm_Sp X LX d mi pc L st n K R M (pc + 3) L (gm_vl v :: st) n K R M 0 0 := by
  refine gm_stk fun p l e Rm s m args below meth c hcx α adK H locs cells slots ls sv Q' hL hS k => ?_
  have hdg := gm_dec hcx h rfl
  obtain ⟨hx, hb, -, hown, -, -, hts, -⟩ := hcx
  have hw := hts _ (gm_ild_spec hv)
  exact lv_ldc2 hx hb hown hw hdg (k _ ⟨_, _, rfl, rfl, hS⟩)
end GN
end
/-! 09.call -/
section
/-! CALLS: a method's judgement from its entry is a contract; a caller goes on behind it. -/
theorem gm_owc : (List.range 370).all (fun i => decide (gm_rn (gm_ow i) = (gm_mn i).cls)) = true := by decide +kernel
/-- the number of java/lang/Math in gm_rnl: its methods are the machine's own -/
noncomputable def gm_mxi : Nat := 6
theorem gm_plm : (List.range 370).all (fun i => decide (gm_ow i = gm_mxi) || plainName (gm_mn i).cls) = true := by decide +kernel
theorem gm_Ev_to {X : Int → Int} {LX : Nat} {adK adV : Nat → Nat} {A B : Nat → Prop} {s U : State} (h : gm_Ev X LX adK adV A s) (hW : s.WarmedH U.vm) (hz : s.heap.size ≤ U.heap.size) (hk : ∀ a : Nat, a < s.heap.size → ¬ A a → U.heap[a]? = s.heap[a]?) (hAB : ∀ q, B q → A q) : gm_Ev X LX adK adV B U := by
  obtain ⟨h1, h2, h3, h4, h5, h6, h7, h8, h9, h10, h11, h12, h13⟩ := h
  have hvm := hW.alike
  have hca : ∀ a b : String, va_Nw (.castable a b) s → va_Nw (.castable a b) U := fun a b h => va_tabs (c := .castable a b) rfl (rfl : (s.setVm U.vm).vm = U.vm) (by rw [Cond.castable_setVm hvm]; exact h)
  refine ⟨fun i hi => (((h1 i hi).moved hvm).kept hk).narrow hAB, fun q hq => vk_R.warm hW (h2 q hq), ((h3.moved hvm).kept hk).narrow hAB, ((h4.moved hvm).kept hk).narrow hAB, ⟨((h5.1.moved hvm).kept hk).narrow hAB, ((h5.2.1.moved hvm).kept hk).narrow hAB, h5.2.2⟩, (h6.moved hvm).kept (hk _ h7 h8), Nat.lt_of_lt_of_le h7 hz, fun q => h8 (hAB _ q), va_AO.moved hvm h9, fun q hq => va_Nw.warmM hW (h10 q hq), hca _ _ h11, fun x y hx hy => ?_, fun y hy => va_tabs (c := .declares y) rfl (rfl : (s.setVm U.vm).vm = U.vm) (by rw [Cond.declares_setVm hvm]; exact h13 y hy)⟩
  have h := h12 x y hx hy
  split
  · rename_i e
    rw [if_pos e] at h
    exact hca _ _ h
  · rename_i e
    rw [if_neg e] at h
    obtain ⟨a, b, c1, c2, c3⟩ := h
    exact ⟨a, b, by rw [hvm.findClass]; exact c1, by rw [hvm.findClass]; exact c2, by rw [hvm.assignable]; exact c3⟩
theorem gm_sr_at {α adK : Nat → Nat} {n : Nat} : ∀ {vs : List gm_V} {ws : List Value}, gm_sr α adK n vs ws → ws.length = vs.length ∧ ∀ (i : Nat) (v : gm_V), vs[i]? = some v → ∃ w, ws[i]? = some w ∧ gm_cv α adK n v w := by
  intro vs
  induction vs with
  | nil => intro ws h; cases h; exact ⟨rfl, fun i v h => by simp at h⟩
  | cons v vs ih =>
    intro ws h
    obtain ⟨w, ws', rfl, hw, h⟩ := h
    obtain ⟨h1, h2⟩ := ih h
    refine ⟨by simp [h1], fun i u hu => ?_⟩
    cases i with
    | zero => simp at hu; subst hu; exact ⟨w, rfl, hw⟩
    | succ i => simpa using h2 i u (by simpa using hu)
theorem gm_sr_app {α adK : Nat → Nat} {n : Nat} : ∀ {vs us : List gm_V} {ws : List Value}, gm_sr α adK n (vs ++ us) ws → ∃ w1 w2, ws = w1 ++ w2 ∧ gm_sr α adK n vs w1 ∧ gm_sr α adK n us w2 := by
  intro vs
  induction vs with
  | nil => intro us ws h; exact ⟨[], ws, rfl, rfl, h⟩
  | cons v vs ih =>
    intro us ws h
    obtain ⟨w, ws', rfl, hw, h⟩ := h
    obtain ⟨w1, w2, rfl, a, b⟩ := ih h
    exact ⟨w :: w1, w2, rfl, ⟨w, w1, rfl, hw, a⟩, b⟩
theorem gm_sr_snoc {α adK : Nat → Nat} {n : Nat} : ∀ {vs : List gm_V} {ws : List Value} {v : gm_V} {w : Value}, gm_sr α adK n vs ws → gm_cv α adK n v w → gm_sr α adK n (vs ++ [v]) (ws ++ [w]) := by
  intro vs
  induction vs with
  | nil => intro ws v w h hv; cases h; exact ⟨w, [], rfl, hv, rfl⟩
  | cons u vs ih =>
    intro ws v w h hv
    obtain ⟨x, ws', rfl, hx, h⟩ := h
    exact ⟨x, ws' ++ [w], rfl, hx, ih h hv⟩
theorem gm_sr_rev {α adK : Nat → Nat} {n : Nat} : ∀ {vs : List gm_V} {ws : List Value}, gm_sr α adK n vs ws → gm_sr α adK n vs.reverse ws.reverse := by
  intro vs
  induction vs with
  | nil => intro ws h; cases h; rfl
  | cons u vs ih =>
    intro ws h
    obtain ⟨x, ws', rfl, hx, h⟩ := h
    rw [List.reverse_cons, List.reverse_cons]
    exact gm_sr_snoc (ih h) hx
/-- the locals at a method's entry -/
noncomputable def gm_ent (mj : Nat) (vs : List gm_V) : gm_L := vs.map some ++ List.replicate (gm_ml mj - vs.length) none
theorem gm_lg_len : ∀ {ws : List Value}, (∀ w ∈ ws, w.category = 1) → (lg_sl ws).length = ws.length := by
  intro ws
  induction ws with
  | nil => intro _; rfl
  | cons w ws ih =>
    intro h
    have h1 := h w List.mem_cons_self
    have h2 := ih fun x hx => h x (List.mem_cons_of_mem _ hx)
    have : lg_sl (w :: ws) = [Slot.val w] ++ lg_sl ws := by simp [lg_sl, h1]
    rw [this, List.length_append, h2]; simp; omega
theorem gm_args_at : ∀ {ws : List Value}, (∀ w ∈ ws, w.category = 1) → ∀ (i0 i : Nat) (w : Value), ws[i]? = some w → (i0 + i, w) ∈ lv_args i0 ws := by
  intro ws
  induction ws with
  | nil => intro _ i0 i w h; simp at h
  | cons x ws ih =>
    intro h i0 i w hi
    have h1 := h x List.mem_cons_self
    have e : lv_args i0 (x :: ws) = (i0, x) :: lv_args (i0 + 1) ws := by simp [lv_args, h1]
    rw [e]
    cases i with
    | zero => simp at hi; subst hi; exact List.mem_cons_self
    | succ i =>
      have := ih (fun y hy => h y (List.mem_cons_of_mem _ hy)) (i0 + 1) i w (by simpa using hi)
      rw [show i0 + (i + 1) = i0 + 1 + i by omega]
      exact List.mem_cons_of_mem _ this
theorem gm_lr_ent {α adK : Nat → Nat} {n mj : Nat} {vs : List gm_V} {ws : List Value} (h : gm_sr α adK n vs ws) (hcat : ∀ v ∈ vs, ¬ gm_sort v = 1) (hlen : vs.length ≤ gm_ml mj) : gm_lr α adK n (gm_ml mj) (gm_ent mj vs) ((lg_sl ws ++ List.replicate (gm_ml mj - (lg_sl ws).length) Slot.unset).toArray) := by
  obtain ⟨hl, hat⟩ := gm_sr_at h
  have hc : ∀ w ∈ ws, w.category = 1 := by
    intro w hw
    obtain ⟨i, hi⟩ := List.getElem?_of_mem hw
    have hlt : i < ws.length := (List.getElem?_eq_some_iff.mp hi).1
    have hv : vs[i]? = some (vs[i]'(by omega)) := List.getElem?_eq_getElem (by omega)
    obtain ⟨w', e, c⟩ := hat i _ hv
    rw [hi] at e; cases e
    exact gm_cat1 c (hcat _ (List.mem_of_getElem? hv))
  refine ⟨by simp [gm_ent]; omega, _, lv_entry ws (by rw [gm_lg_len hc]; omega), fun i v hi => ?_⟩
  unfold gm_ent at hi
  by_cases hlt : i < vs.length
  · rw [List.getElem?_append_left (by simpa using hlt), List.getElem?_map] at hi
    cases hv : vs[i]? with
    | none => rw [hv] at hi; simp at hi
    | some u =>
      rw [hv] at hi
      simp at hi
      subst hi
      obtain ⟨w, e, c⟩ := hat i u hv
      have := gm_args_at hc 0 i w e
      rw [Nat.zero_add] at this
      exact ⟨w, c, this⟩
  · rw [List.getElem?_append_right (by simpa using hlt)] at hi
    have := List.mem_of_getElem? hi
    have := List.eq_of_mem_replicate this
    cases this
theorem gm_mck_spec {mj : Nat} (h : mj < 370) : gm_cwd mj ∈ gm_T ∧ (gm_ow mj ≠ gm_mxi → plainName (gm_mn mj).cls = true) ∧ ((gm_mn mj).cls ≠ "java/lang/invoke/MethodHandle" ∧ (gm_mn mj).cls ≠ "java/lang/invoke/VarHandle") ∧ (parseMethodDescriptor (gm_mn mj).desc).map (fun d => d.parameters.length) = some (gm_na mj) ∧ gm_ml mj ≤ 200 ∧ gm_rn (gm_ow mj) = (gm_mn mj).cls := by
  have h1 := gm_mck_ok h
  have h2 := List.all_eq_true.mp gm_owc mj (List.mem_range.mpr h)
  have h3 := List.all_eq_true.mp gm_plm mj (List.mem_range.mpr h)
  simp only [gm_mck, Bool.and_eq_true, decide_eq_true_eq] at h1 h2
  obtain ⟨b, c, d⟩ := h1
  refine ⟨gm_cp_ok h, fun q => ?_, b, c, d, h2⟩
  simp only [Bool.or_eq_true, decide_eq_true_eq] at h3
  rcases h3 with h3 | h3
  · exact absurd h3 q
  · exact h3
section GC
variable {X : Int → Int} {LX d bc bs mi pc : Nat} {L : gm_L} {st : List gm_V} {n : Nat} {K : gm_K} {R : gm_R} {M : gm_M} {Q : gm_Q}
/-- the contract of a method without handlers, for one state of the cells -/
theorem gm_met {mj : Nat} {vs : List gm_V} {avs : List Value} (hm : mj < 370) (hmx : gm_ow mj ≠ gm_mxi) (hh : gm_hh mj = []) (l : Launch) (hl : l.stackTraces = false) {D : va_G} {ti : Nat → ClassId} {adK adV α : Nat → Nat} {A' : Nat → Prop} {H : Heap}
    (hW : gm_Wp X LX d bc bs mj 0 (gm_ent mj vs) [] n K R M Q) (hvs : gm_sr α adK n vs avs) (hcat : ∀ v ∈ vs, ¬ gm_sort v = 1) (hlen : vs.length ≤ gm_ml mj) (hP : va_P D gm_cs (gm_wl ti α n K R M) H) (hD : va_D A' (gm_wl ti α n K R M)) (hRv : gm_Rv n R) (hA' : ∀ q, H.size ≤ q → A' q) :
    vx_Met l (gm_mn mj) (gm_cwd mj :: gm_T) ({ frames := d, cells := bc, slots := bs, locals := d * 300 }) (va_Pc avs (fun U => U.heap = H ∧ gm_Ev X LX adK adV A' U ∧ va_K D gm_cs (gm_ty ti) U)) (gm_QC D ti adK A' α n Q) (gm_XC D ti A' α n Q) bc bs A' := by
  obtain ⟨-, hpl, -, -, -, hown9⟩ := gm_mck_spec hm
  refine vx_ofW (cc := gm_bc mj) (maxL := gm_ml mj) (ret := gm_rt mj) (ws' := gm_T) (hpl hmx) (by unfold gm_cwd; rw [if_pos hh]) ?_
  intro p e s m args below meth c s₁ B hml hex hv
  obtain ⟨rfl, hsz, hev, hK⟩ := hv
  have hts := atoms_spec (ws := gm_cwd mj :: gm_T) B.pre
  have hown : s.vm.findClass (gm_mn mj).cls = some m.cls := findClass_of_methodNamed B.named
  have hin : meth.name = (gm_mn mj).name := (name_of_methodNamed B.named B.method).1
  have htab : c.exceptionTable.toList = tableOf (gm_hh mj) := by
    rw [hh]
    cases hx : c.exceptionTable.toList with
    | nil => rfl
    | cons x xs => exact absurd (hex x (by rw [hx]; exact List.mem_cons_self)) id
  subst hsz
  rw [lg_entry_eq]
  exact hW p l e _ s m _ below meth c D ti adK adV A' α n bc bs ⟨B.exec, B.bytes, hml, by rw [hown9]; exact hown, B.returns, B.notSynchronized, fun w hw => hts w (List.mem_cons_of_mem _ hw), hin, hl, (by omega), htab⟩ hev (Nat.le_refl _) (Nat.le_refl _) (Nat.le_refl _) (Nat.le_refl _) hA' α s.heap [] 0 0 _ [] gm_xt.rf (by omega) (by omega) ⟨hK, hP, hD, va_S.rf, hRv⟩ (gm_lr_ent hvs hcat hlen) rfl
theorem gm_blind {avs : List Value} {H : Heap} {D : va_G} {ti : Nat → ClassId} {adK adV : Nat → Nat} {A' : Nat → Prop} : FrameBlind (va_Pc avs (fun U => U.heap = H ∧ gm_Ev X LX adK adV A' U ∧ va_K D gm_cs (gm_ty ti) U)) := by
  intro a U g mk h
  obtain ⟨h0, h1, h2, h3⟩ := h
  exact ⟨h0, h1, gm_Ev_to (U := U.calling g mk a) h2 (State.WarmedH.refl U) (Nat.le_refl _) (fun _ _ _ => rfl) (fun _ h => h), va_K.moved (u := U) (U := U.calling g mk a) (Vm.Alike.refl U.vm) h3⟩
/-- behind a call -/
theorem gm_after {p : Program} {l : Launch} {e : Env} {Rm : Room} {s : State} {m : MethodId} {args : Array Value} {below : List Frame} {meth : Method} {c : Code} {H : Heap} {locs : List Loc} {cells slots mc ms : Nat} {D : va_G} {ti : Nat → ClassId} {adK α : Nat → Nat} {A0 A1 : Nat → Prop} {a : Array Value} {ls : Array Slot} {st0 rest : List Value} {Qf : State → Prop} {H0 : Heap} {Q' : gm_Q}
    (hr : vx_Run p l e Rm s m args below meth c H locs cells slots mc ms (F0 m pc ls st0) rest (gm_QC D ti adK A1 α n Q' a) (gm_XC D ti A1 α n Q') A1) (hS : va_S A0 H0 H locs) (hA1 : ∀ q, A1 q → A0 q)
    (kk : ∀ (v : Option Value) (u : Option gm_V) (α' : Nat → Nat) (n' : Nat) (K' : gm_K) (R' : gm_R) (M' : gm_M) (H1 : Heap) (locs1 : List Loc), gm_ov α' adK n' u v → Q' (.inl u) n' K' R' M' → gm_xt α n α' n' → va_K D gm_cs (gm_ty ti) s → va_P D gm_cs (gm_wl ti α' n' K' R' M') H1 → va_D A0 (gm_wl ti α' n' K' R' M') → gm_Rv n' R' → va_S A0 H0 H1 locs1 → W p l e Rm s m args below meth c H1 locs1 (cells + mc) (slots + ms) Qf (F0 m (pc + 3) ls (v.toList ++ rest)))
    (kx : ∀ (x : Nat) (ce : Cell) (q9 : Addr) (α' : Nat → Nat) (n' : Nat) (K' : gm_K) (R' : gm_R) (M' : gm_M) (H1 : Heap) (locs1 : List Loc), x < 5 → Q' (.inr x) n' K' R' M' → gm_xt α n α' n' → va_K D gm_cs (gm_ty ti) s → va_P D gm_cs (gm_wl ti α' n' K' R' M') H1 → va_D A0 (gm_wl ti α' n' K' R' M') → gm_Rv n' R' → va_S A0 H0 H1 locs1 → H1[q9]? = some ce → ce.vm = .none → s.vm.findClass (gm_xn x) = some ce.cls → vx_W p l e Rm s m args below meth c H1 locs1 (cells + mc) (slots + ms) Qf (F0 m pc ls rest) q9) :
    W p l e Rm s m args below meth c H locs cells slots Qf (F0 m pc ls st0) := by
  intro T hT Xs
  rcases hr T hT Xs with ⟨v, st₀, t, T', L9, h0, X', hL9, e1, e2, ⟨⟨v', u, α', n', K', R', M', hv, ho, hq, hxt, hk, hp, hd9, hrv⟩, hF⟩, stp⟩ | ⟨q, st₀, t, T', L9, E, ce, h0, X', hL9, e1, e2, ⟨⟨x, α', n', K', R', M', rfl, hx5, hq, hxt, hk, hp, hd9, hrv⟩, hF⟩, hce, hcv, hcl, stp⟩
  · cases hv
    obtain ⟨k1, k2, k3⟩ := vx_keep h0 e1 hS (fun q _ h => hA1 q h) hA1 hL9 hF
    have hvm : s.vm.Alike t.vm := by rw [← e2]; exact X'.warmed.alike
    obtain ⟨t2, a1, b1⟩ := kk v u α' n' K' R' M' T'.heap (locs ++ L9) ho hq hxt (va_K.moved hvm.symm hk) (by rw [e1]; exact hp) (hd9.weaken fun _ _ _ h => hA1 _ h) hrv k3 T' rfl X'
    exact ⟨t2, stp t2 a1, b1⟩
  · obtain ⟨k1, k2, k3⟩ := vx_keep h0 e1 hS (fun q _ h => hA1 q h) hA1 hL9 hF
    have hvm : s.vm.Alike t.vm := by rw [← e2]; exact X'.warmed.alike
    obtain ⟨t2, a1, b1⟩ := kx x ce q α' n' K' R' M' T'.heap (locs ++ L9) hx5 hq hxt (va_K.moved hvm.symm hk) (by rw [e1]; exact hp) (hd9.weaken fun _ _ _ h => hA1 _ h) hrv k3 (by rw [e1]; exact hce) hcv hcl T' rfl X'
    exact ⟨t2, stp.trans a1, b1⟩
/-- what a callee owes its caller: the caller goes on with the value; a throw goes on to the caller's end -/
noncomputable def gm_cont (X : Int → Int) (LX d bc bs mi pc : Nat) (L : gm_L) (st : List gm_V) (Q : gm_Q) : gm_Q := fun o n K R M => match o with
  | .inl u => gm_Wp X LX d bc bs mi pc L (u.toList ++ st) n K R M Q
  | .inr x => Q (.inr x) n K R M
theorem gm_tail {p : Program} {l : Launch} {e : Env} {Rm : Room} {s : State} {m : MethodId} {args : Array Value} {below : List Frame} {meth : Method} {c : Code} {H : Heap} {locs : List Loc} {cells slots bc' bs' mc ms n0 : Nat} {D : va_G} {ti : Nat → ClassId} {adK adV α α0 : Nat → Nat} {A A1 : Nat → Prop} {a : Array Value} {ls : Array Slot} {sv0 sv : List Value}
    (hh : gm_hh mi = []) (hcx : gm_Cx mi p l s m args meth c) (hev : gm_Ev X LX adK adV A s) (hd : d ≤ Rm.frames) (hd2 : d * 300 ≤ Rm.locals) (hmc : mc ≤ Rm.cells) (hms : ms ≤ Rm.slots) (hA : ∀ q, s.heap.size ≤ q → A q) (hxt : gm_xt α0 n0 α n) (hb1 : bc' ≤ bc) (hb2 : bs' ≤ bs) (hc1 : cells + bc ≤ mc) (hc2 : slots + bs ≤ ms) (hSv : va_S A s.heap H locs) (hL : gm_lr α adK n (gm_ml mi) L ls) (hS : gm_sr α adK n st sv) (hA1 : ∀ q, A1 q → A q)
    (hr : vx_Run p l e Rm s m args below meth c H locs cells slots bc' bs' (F0 m pc ls sv0) sv (gm_QC D ti adK A1 α n (gm_cont X LX d (bc - bc') (bs - bs') mi (pc + 3) L st Q) a) (gm_XC D ti A1 α n (gm_cont X LX d (bc - bc') (bs - bs') mi (pc + 3) L st Q)) A1) :
    W p l e Rm s m args below meth c H locs cells slots (vx_MQ below (gm_QC D ti adK A α0 n0 Q) (gm_XC D ti A α0 n0 Q) args s mc ms A) (F0 m pc ls sv0) := by
  refine gm_after hr hSv hA1 (fun v u α' n' K' R' M' H1 locs1 ho hq hx9 hk hp hdd hrv hs9 => ?_) (fun x ce q9 α' n' K' R' M' H1 locs1 hx5 hq hx9 hk hp hdd hrv hs9 hce hcv hcl => ?_)
  · refine hq p l e Rm s m args below meth c D ti adK adV A α0 n0 mc ms hcx hev hd hd2 hmc hms hA α' H1 locs1 (cells + bc') (slots + bs') ls (v.toList ++ sv) (hxt.trans hx9) (by omega) (by omega) ⟨hk, hp, hdd, hs9, hrv⟩ (gm_lr_ext hx9 hL) ?_
    cases u with
    | none => cases ho; exact gm_sr_ext hx9 hS
    | some u => obtain ⟨w, rfl, hw⟩ := ho; exact ⟨w, sv, rfl, hw, gm_sr_ext hx9 hS⟩
  · refine vx_out (ce := ce) (E := gm_xn x) (fun z hz => ?_) hcx.2.2.2.2.2.1 hce hcv hcl (fun t ht hvm => ⟨⟨x, α', n', K', R', M', rfl, hx5, hq, hxt.trans hx9, va_K.moved hvm hk, by rw [ht]; exact hp, hdd, hrv⟩, hs9.F ht⟩) hs9.2.2 (by omega) (by omega)
    rw [hcx.2.2.2.2.2.2.2.2.2.2, hh] at hz
    cases hz
end GC
end
/-! 10.inv -/
section
/-! THE CALLS, kind by kind. -/
theorem gm_cal_spec {o ix kd mj : Nat} (h : gm_cal o ix = some (kd, mj)) : mj < 370 ∧ Jvm.Cond.initialized (gm_mn mj).cls ∈ gm_T ∧ (kd ≠ 3 → Jvm.Cond.methodLink (gm_rn o) ix (gm_mn mj) ∈ gm_T) ∧ (kd = 0 → Jvm.Cond.instanceMethod (gm_mn mj) ∈ gm_T ∧ Jvm.Cond.selects (gm_mn mj).cls (gm_mn mj) (gm_mn mj) ∈ gm_T) ∧ (kd = 1 ∨ kd = 3 → Jvm.Cond.instanceMethod (gm_mn mj) ∈ gm_T ∧ (gm_mn mj).name = "<init>" ∧ gm_rt mj = none) ∧ (kd = 2 ∨ kd = 5 → Jvm.Cond.static (gm_mn mj) ∈ gm_T) ∧ (kd ≠ 5 → gm_hh mj = []) ∧ (kd = 3 → ∃ r ∈ gm_nst, r.1 = gm_rn o ∧ r.2.1 = ix ∧ r.2.2.1 = gm_mn mj) := by
  have h := gm_cal_le h
  unfold gm_cal0 at h
  cases hr : gm_co[o]? with
  | none => rw [hr] at h; simp at h
  | some r =>
    rw [hr] at h
    have h2 := gm_lookup_mem _ _ _ h
    have hlt := (List.getElem?_eq_some_iff.mp hr).1
    have h3 := List.all_eq_true.mp gm_co_ok o (List.mem_range.mpr hlt)
    rw [hr] at h3
    have h4 := List.all_eq_true.mp h3 _ h2
    obtain ⟨q, hq, hq2⟩ := List.any_eq_true.mp h4
    have h5 := gm_cl_ok hq
    obtain ⟨a1, a2, a3, a4, a5, a6, a7, a8⟩ := q
    simp only [decide_eq_true_eq, Prod.mk.injEq] at hq2
    obtain ⟨rfl, rfl, rfl, rfl⟩ := hq2
    simp only [gm_cck, Bool.and_eq_true, decide_eq_true_eq] at h5
    obtain ⟨b1, ⟨⟨⟨b2, b3⟩, b4⟩, b5⟩, b6⟩ := h5
    refine ⟨b1, gm_T_in b2 rfl, fun q => ?_, fun q => ?_, fun q => ?_, fun q => ?_, fun q => ?_, fun q => ?_⟩
    · rw [if_neg q] at b3
      exact gm_T_in (by simpa using b3) rfl
    · subst q
      simp only [if_true, Bool.and_eq_true, decide_eq_true_eq] at b4
      exact ⟨gm_T_in b4.1 rfl, gm_T_in b4.2 rfl⟩
    · rw [if_neg (by omega), if_pos q] at b4
      simp only [Bool.and_eq_true, decide_eq_true_eq] at b4
      exact ⟨gm_T_in b4.1 rfl, b4.2⟩
    · rw [if_neg (by omega), if_neg (by omega)] at b4
      exact gm_T_in (by simpa using b4) rfl
    · rw [if_neg q] at b5
      simpa using b5
    · rw [if_pos q] at b6
      obtain ⟨r9, hr9, hr8⟩ := List.any_eq_true.mp b6
      exact ⟨r9, hr9, by simpa using hr8⟩
theorem gm_cat_eq {α adK : Nat → Nat} {n : Nat} {v : gm_V} {w : Value} (h : gm_cv α adK n v w) : w.category = gm_cat v := by
  unfold gm_cat
  split
  · rename_i hs
    rcases v with x | x | y
    · simp [gm_sort] at hs
    · cases h; rfl
    · simp [gm_sort] at hs
  · rename_i hs; exact gm_cat1 h hs
theorem gm_sum_eq {α adK : Nat → Nat} {n : Nat} : ∀ {st : List gm_V} {sv : List Value}, gm_sr α adK n st sv → (sv.map fun v => v.category).sum = (st.map gm_cat).sum := by
  intro st
  induction st with
  | nil => intro sv h; cases h; rfl
  | cons v st ih =>
    intro sv h
    obtain ⟨w, sv', rfl, hw, h⟩ := h
    simp only [List.map_cons, List.sum_cons, ih h, gm_cat_eq hw]
section GI
variable {X : Int → Int} {LX d bc bs mi pc : Nat} {L : gm_L} {st : List gm_V} {n : Nat} {K : gm_K} {R : gm_R} {M : gm_M} {Q : gm_Q}
theorem gm_sub_A {A : Nat → Prop} {H0 H : Heap} {locs : List Loc} {ws : va_W} (hD : va_D A ws) (hS : va_S A H0 H locs) (hA : ∀ q, H0.size ≤ q → A q) : ∀ q, va_A ws H.size q → A q := by
  intro q h
  rcases h with ⟨k, e, h⟩ | h
  · exact hD.2 k (q, e) h
  · exact hA q (Nat.le_trans hS.1 h)
theorem gm_c_virt {ix mj k ci d' bc' bs' : Nat} {as : List gm_V} (h : gm_at mi pc = some (.invokevirtual ix)) (hc : gm_cal (gm_ow mi) ix = some (0, mj)) (hmx : gm_ow mj ≠ gm_mxi) (hh : gm_hh mi = []) (hk : 1 ≤ k ∧ k ≤ n) (hK : (K k).1 = ci + 4) (hci : ci < 12) (hcn : gm_cn ci = (gm_mn mj).cls) (hna : as.length = gm_na mj) (hcat : ∀ v ∈ as, ¬ gm_sort v = 1) (hlen : as.length + 1 ≤ gm_ml mj) (hst : (st.map gm_cat).sum ≤ 8) (hd' : d' + 1 ≤ d) (hb1 : bc' ≤ bc) (hb2 : bs' ≤ bs)
    (hW : gm_Wp X LX d' bc' bs' mj 0 (gm_ent mj (gm_vr k :: as)) [] n K R M (gm_cont X LX d (bc - bc') (bs - bs') mi (pc + 3) L st Q)) : gm_Wp X LX d bc bs mi pc L (as.reverse ++ gm_vr k :: st) n K R M Q := by
  intro p l e Rm s m args below meth c D ti adK adV A α0 n0 mc ms hcx hev hd hd2 hmc hms hA α H locs cells slots ls sv hxt hc1 hc2 hR hL hS
  obtain ⟨w1, w2, rfl, hw1, w, sv2, rfl, ⟨rfl, hkn⟩, hS2⟩ := gm_sr_app hS
  have hdg := gm_dec hcx h rfl
  obtain ⟨hx, hb, hml, hown, -, -, hts, -, hl, -⟩ := id hcx
  obtain ⟨hKn, hP, hD, hSv, hRv⟩ := id hR
  obtain ⟨hj, i1, i2, i3, -, -, i6, -⟩ := gm_cal_spec hc
  obtain ⟨j1, -, j3, j4, j5, -⟩ := gm_mck_spec hj
  have hA1 := gm_sub_A hD hSv hA
  have hvs : gm_sr α adK n (gm_vr k :: as) (Value.ref (α k) :: w1.reverse) := ⟨_, _, rfl, ⟨(gm_rf_pos hk.1 (Nat.lt_of_le_of_lt hk.2 hRv.1)).symm, hkn⟩, by have := gm_sr_rev hw1; rwa [List.reverse_reverse] at this⟩
  have hM := gm_met (adV := adV) (ti := ti) (D := D) hj hmx (i6 (by omega)) l hl hW hvs (by intro v hv; rcases List.mem_cons.mp hv with rfl | hv; exact (by simp [gm_sort]); exact hcat v hv) (by simpa using hlen) hP (hD.self (sz := H.size)) hRv (fun q h => Or.inr h)
  have he := gm_wl_at (ti := ti) (α := α) (K := K) (R := R) (M := M) hk.1 hk.2
  rw [gm_en_obj hK] at he
  obtain ⟨T, N, hcs, -⟩ := gm_cs_get hci
  have hcode : gm_cwd mj = .code (gm_mn mj) (gm_bc mj) (gm_ml mj) (gm_rt mj) := by unfold gm_cwd; rw [if_pos (i6 (by omega))]
  have hwl : w1.length = as.length := by have := (gm_sr_at hw1).1; simpa using this
  have hG : GoodIn gm_T (wsV (gm_rn (gm_ow mi)) ix (gm_mn mj).cls (gm_mn mj) (gm_cwd mj :: gm_T)) := by
    intro w hw
    refine ⟨?_, ?_⟩
    · simp only [wsV, List.cons_append, List.nil_append, List.mem_cons] at hw
      rcases hw with rfl | rfl | rfl | rfl | rfl | hw
      · exact i2 (by omega)
      · exact (i3 rfl).1
      · exact (i3 rfl).2
      · exact i1
      · exact j1
      · exact hw
    · simp only [wsV, List.cons_append, List.nil_append, List.mem_cons] at hw
      rcases hw with rfl | rfl | rfl | rfl | rfl | hw
      · exact Or.inl rfl
      · exact Or.inl rfl
      · exact Or.inl rfl
      · exact Or.inl rfl
      · exact (gm_T_good _ j1).2
      · exact (gm_T_good _ hw).2
  rw [gm_rf_pos hk.1 (Nat.lt_of_le_of_lt hk.2 hRv.1)]
  refine gm_tail (bc' := bc') (bs' := bs') hh hcx hev hd hd2 hmc hms hA hxt hb1 hb2 hc1 hc2 hSv hL hS2 hA1 (a := (Value.ref (α k) :: w1.reverse).toArray) ?_
  refine vx_runV (As := w1.reverse) (n := gm_na mj) (index := ix) (C := (gm_mn mj).cls) ⟨hx, hb, hml, hown, hts⟩ hM (cwV (rm := { frames := d', cells := bc', slots := bs', locals := d' * 300 }) (gm_na mj) hts hG (by rw [hcode]) rfl rfl ⟨rfl, j3.1, j3.2, j4⟩ ⟨by show d' + 1 ≤ _; omega, by show 8 + (gm_ml mj + 11) + d' * 300 ≤ _; omega⟩) ⟨gm_blind, ?_, fun U hU hWm => ⟨rfl, hU, gm_Ev_to hev hWm (by rw [hU]; exact hSv.1) (fun a h1 h2 => by rw [hU]; exact hSv.2.1 a h1 h2) hA1, va_K.moved hWm.alike hKn⟩⟩ rfl (by rw [List.length_reverse, hwl, hna]) ?_ (by rw [List.reverse_reverse]) (lv_room (by rw [gm_sum_eq hS2]; exact hst)) hdg ⟨by omega, by omega⟩
  · have := va_recv hKn hP hcs he
    rw [hcn] at this
    exact this
  · exact hL.2.choose_spec.1.1
end GI
end
/-! 10a.inv2 -/
section
/-! CALLS of constructors and static methods; Object's own constructor; Math's max and min. -/
section GI
variable {X : Int → Int} {LX d bc bs mi pc : Nat} {L : gm_L} {st : List gm_V} {n : Nat} {K : gm_K} {R : gm_R} {M : gm_M} {Q : gm_Q}
theorem gm_G1 {mj : Nat} (h : mj < 370) : GoodIn gm_T (gm_cwd mj :: gm_T) := by
  intro w hw
  obtain ⟨j1, -⟩ := gm_mck_spec h
  rcases List.mem_cons.mp hw with rfl | hw
  · exact ⟨j1, (gm_T_good _ j1).2⟩
  · exact gm_T_good _ hw
theorem gm_c_init {ix kd mj k d' bc' bs' : Nat} {as : List gm_V} (h : gm_at mi pc = some (.invokespecial ix)) (hc : gm_cal (gm_ow mi) ix = some (kd, mj)) (hkd : kd = 1 ∨ kd = 3) (hmx : gm_ow mj ≠ gm_mxi) (hh : gm_hh mi = []) (hk : 1 ≤ k ∧ k ≤ n) (hna : as.length = gm_na mj) (hcat : ∀ v ∈ as, ¬ gm_sort v = 1) (hlen : as.length + 1 ≤ gm_ml mj) (hst : (st.map gm_cat).sum ≤ 8) (hd' : d' + 1 ≤ d) (hb1 : bc' ≤ bc) (hb2 : bs' ≤ bs)
    (hW : gm_Wp X LX d' bc' bs' mj 0 (gm_ent mj (gm_vr k :: as)) [] n K R M (gm_cont X LX d (bc - bc') (bs - bs') mi (pc + 3) L st Q)) : gm_Wp X LX d bc bs mi pc L (as.reverse ++ gm_vr k :: st) n K R M Q := by
  intro p l e Rm s m args below meth c D ti adK adV A α0 n0 mc ms hcx hev hd hd2 hmc hms hA α H locs cells slots ls sv hxt hc1 hc2 hR hL hS
  obtain ⟨w1, w2, rfl, hw1, w, sv2, rfl, ⟨rfl, hkn⟩, hS2⟩ := gm_sr_app hS
  have hdg := gm_dec hcx h rfl
  obtain ⟨hx, hb, hml, hown, -, -, hts, -, hl, -⟩ := id hcx
  obtain ⟨hKn, hP, hD, hSv, hRv⟩ := id hR
  obtain ⟨hj, i1, i2, -, i4, -, i6, i7⟩ := gm_cal_spec hc
  obtain ⟨j1, -, j3, j4, j5, -⟩ := gm_mck_spec hj
  have hA1 := gm_sub_A hD hSv hA
  have hvs : gm_sr α adK n (gm_vr k :: as) (Value.ref (α k) :: w1.reverse) := ⟨_, _, rfl, ⟨(gm_rf_pos hk.1 (Nat.lt_of_le_of_lt hk.2 hRv.1)).symm, hkn⟩, by have := gm_sr_rev hw1; rwa [List.reverse_reverse] at this⟩
  have hM := gm_met (adV := adV) (ti := ti) (D := D) hj hmx (i6 (by omega)) l hl hW hvs (by intro v hv; rcases List.mem_cons.mp hv with rfl | hv; exact (by simp [gm_sort]); exact hcat v hv) (by simpa using hlen) hP (hD.self (sz := H.size)) hRv (fun q h => Or.inr h)
  obtain ⟨y1, y2, y3⟩ := i4 hkd
  have hcode : gm_cwd mj = .code (gm_mn mj) (gm_bc mj) (gm_ml mj) none := by unfold gm_cwd; rw [if_pos (i6 (by omega)), y3]
  have hwl : w1.length = as.length := by have := (gm_sr_at hw1).1; simpa using this
  rw [gm_rf_pos hk.1 (Nat.lt_of_le_of_lt hk.2 hRv.1)]
  have hpre : PreS s H (va_Pc (Value.ref (α k) :: w1.reverse) (fun U => U.heap = H ∧ gm_Ev X LX adK adV (va_A (gm_wl ti α n K R M) H.size) U ∧ va_K D gm_cs (gm_ty ti) U)) (Value.ref (α k) :: w1.reverse) := ⟨gm_blind, fun U hU hWm => ⟨rfl, hU, gm_Ev_to hev hWm (by rw [hU]; exact hSv.1) (fun a h1 h2 => by rw [hU]; exact hSv.2.1 a h1 h2) hA1, va_K.moved hWm.alike hKn⟩⟩
  refine gm_tail (bc' := bc') (bs' := bs') hh hcx hev hd hd2 hmc hms hA hxt hb1 hb2 hc1 hc2 hSv hL hS2 hA1 (a := (Value.ref (α k) :: w1.reverse).toArray) ?_
  have hR1 : d' + 1 ≤ Rm.frames ∧ 8 + (gm_ml mj + 11) + d' * 300 ≤ Rm.locals := ⟨by omega, by omega⟩
  have hroom := lv_room (m := m) (pc := pc) (ls := ls) (rest := w1 ++ Value.ref (α k) :: sv2) (st := sv2) (by rw [gm_sum_eq hS2]; exact hst)
  rcases hkd with rfl | rfl
  · exact vx_runI (As := w1.reverse) (n := gm_na mj) (index := ix) ⟨hx, hb, hml, hown, hts⟩ hM (cwI (rm := { frames := d', cells := bc', slots := bs', locals := d' * 300 }) (gm_na mj) hts (gm_G1 hj) (by rw [hcode]) rfl rfl (hts _ i1) (hts _ (i2 (by omega))) (hts _ y1) y2 ⟨j3.1, j3.2, j4⟩ hR1) hpre rfl (by rw [List.length_reverse, hwl, hna]) hL.2.choose_spec.1.1 (by rw [List.reverse_reverse]) hroom hdg ⟨by omega, by omega⟩
  · obtain ⟨r, hr1, hr2, hr3, hr4⟩ := i7 rfl
    have hnl := hev.2.2.2.2.2.2.2.2.2.1 r hr1
    rw [hr2, hr3, hr4] at hnl
    exact vx_runIN (As := w1.reverse) (n := gm_na mj) (index := ix) ⟨hx, hb, hml, hown, hts⟩ hM ⟨va_cnB (rm := { frames := d', cells := bc', slots := bs', locals := d' * 300 }) (gm_na mj) hts (gm_G1 hj) (by rw [hcode]) rfl rfl hnl (hts _ i1) ⟨j3.1, j3.2, j4⟩ hR1, y2, hts _ y1⟩ hpre rfl (by rw [List.length_reverse, hwl, hna]) hL.2.choose_spec.1.1 (by rw [List.reverse_reverse]) hroom hdg ⟨by omega, by omega⟩
theorem gm_c_stat {ix mj d' bc' bs' : Nat} {as : List gm_V} (h : gm_at mi pc = some (.invokestatic ix)) (hc : gm_cal (gm_ow mi) ix = some (2, mj)) (hmx : gm_ow mj ≠ gm_mxi) (hh : gm_hh mi = []) (hna : as.length = gm_na mj) (hcat : ∀ v ∈ as, ¬ gm_sort v = 1) (hlen : as.length ≤ gm_ml mj) (hst : (st.map gm_cat).sum ≤ 8) (hd' : d' + 1 ≤ d) (hb1 : bc' ≤ bc) (hb2 : bs' ≤ bs)
    (hW : gm_Wp X LX d' bc' bs' mj 0 (gm_ent mj as) [] n K R M (gm_cont X LX d (bc - bc') (bs - bs') mi (pc + 3) L st Q)) : gm_Wp X LX d bc bs mi pc L (as.reverse ++ st) n K R M Q := by
  intro p l e Rm s m args below meth c D ti adK adV A α0 n0 mc ms hcx hev hd hd2 hmc hms hA α H locs cells slots ls sv hxt hc1 hc2 hR hL hS
  obtain ⟨w1, sv2, rfl, hw1, hS2⟩ := gm_sr_app hS
  have hdg := gm_dec hcx h rfl
  obtain ⟨hx, hb, hml, hown, -, -, hts, -, hl, -⟩ := id hcx
  obtain ⟨hKn, hP, hD, hSv, hRv⟩ := id hR
  obtain ⟨hj, i1, i2, -, -, i5, i6, -⟩ := gm_cal_spec hc
  obtain ⟨j1, -, j3, j4, j5, -⟩ := gm_mck_spec hj
  have hA1 := gm_sub_A hD hSv hA
  have hvs : gm_sr α adK n as w1.reverse := by have := gm_sr_rev hw1; rwa [List.reverse_reverse] at this
  have hM := gm_met (adV := adV) (ti := ti) (D := D) hj hmx (i6 (by omega)) l hl hW hvs hcat hlen hP (hD.self (sz := H.size)) hRv (fun q h => Or.inr h)
  have hcode : gm_cwd mj = .code (gm_mn mj) (gm_bc mj) (gm_ml mj) (gm_rt mj) := by unfold gm_cwd; rw [if_pos (i6 (by omega))]
  have hwl : w1.length = as.length := by have := (gm_sr_at hw1).1; simpa using this
  have hpre : PreS s H (va_Pc w1.reverse (fun U => U.heap = H ∧ gm_Ev X LX adK adV (va_A (gm_wl ti α n K R M) H.size) U ∧ va_K D gm_cs (gm_ty ti) U)) w1.reverse := ⟨gm_blind, fun U hU hWm => ⟨rfl, hU, gm_Ev_to hev hWm (by rw [hU]; exact hSv.1) (fun a h1 h2 => by rw [hU]; exact hSv.2.1 a h1 h2) hA1, va_K.moved hWm.alike hKn⟩⟩
  refine gm_tail (bc' := bc') (bs' := bs') hh hcx hev hd hd2 hmc hms hA hxt hb1 hb2 hc1 hc2 hSv hL hS2 hA1 (a := w1.reverse.toArray) ?_
  have hR1 : d' + 1 ≤ Rm.frames ∧ 8 + (gm_ml mj + 11) + d' * 300 ≤ Rm.locals := ⟨by omega, by omega⟩
  have hroom := lv_room (m := m) (pc := pc) (ls := ls) (rest := w1 ++ sv2) (st := sv2) (by rw [gm_sum_eq hS2]; exact hst)
  exact vx_runS (As := w1.reverse) (n := gm_na mj) (index := ix) ⟨hx, hb, hml, hown, hts⟩ hM ⟨callB_of (rm := { frames := d', cells := bc', slots := bs', locals := d' * 300 }) (gm_na mj) hts (gm_G1 hj) (by rw [hcode]) rfl rfl (hts _ i1) (hts _ (i2 (by omega))) ⟨j3.1, j3.2, j4⟩ hR1, hts _ (i5 (Or.inl rfl))⟩ hpre rfl (by rw [List.length_reverse, hwl, hna]) hL.2.choose_spec.1.1 (by rw [List.reverse_reverse]) hroom hdg ⟨by omega, by omega⟩
end GI
end
/-! 10a1.nse -/
section
/-! AN EXCEPTION whose constructor calls the one above by a pool number of its own (turned from vx_ctorMadeS, vx_makeS of kit/laws). -/
noncomputable def gm_chX (X : String) (ix : Nat) (rx : ByteArray) : List String → List Jvm.Cond
  | [] => Bundle.passSAtoms X Bundle.tN ix rx
  | Y :: r => Bundle.passSAtoms X Y ix rx ++ Bundle.chainSAtoms Y r
/-- what is to be known of such a throw -/
noncomputable def gm_ownX (own : String) (ic : Nat) (X : String) (ix : Nat) (rx : ByteArray) (names : List String) : List Jvm.Cond :=
  Bundle.throwableAtoms ++ Bundle.throwableSAtoms ++ gm_chX X ix rx names ++
  [.methodLink own ic (Bundle.initS X), .instantiable X 6, .castable X X, .selects X Bundle.tFill0 Bundle.tFill0, .selects X Bundle.tFill Bundle.tFill, .lays X Bundle.tN "cause" "Ljava/lang/Throwable;", .lays X Bundle.tN "stackTrace" Bundle.steD, .lays X Bundle.tN "suppressedExceptions" Bundle.listD, .lays X Bundle.tN "detailMessage" "Ljava/lang/String;", .isRef (.static Bundle.tN "UNASSIGNED_STACK" Bundle.steD), .isRef (.static Bundle.tN "SUPPRESSED_SENTINEL" Bundle.listD), .fieldLink Bundle.tN 198 Bundle.tN "backtrace" "Ljava/lang/Object;", .lays Bundle.tN Bundle.tN "backtrace" "Ljava/lang/Object;", .lays X Bundle.tN "backtrace" "Ljava/lang/Object;"]
noncomputable def gm_atX (own : String) (ic : Nat) (X : String) (ix : Nat) (rx : ByteArray) (names : List String) : List Jvm.Cond := (gm_ownX own ic X ix rx names).filter vx_no
section GXX
variable {p : Program} {l : Launch} {e : Env} {R : Room} {s : State} {m₀ : MethodId} {args : Array Value} {below : List Frame} {meth : Method} {c : Code} {W : State} {locs : List Loc} {cells slots : Nat}
theorem gm_chainX {pl : Platform} (hpl : pl.magicAccessors = ({} : Platform).magicAccessors) {top : MethodId} (htop : s.methodNamed? (Bundle.initS Bundle.tN) = some top) {ix : Nat} {rx : ByteArray} (x0 : decode rx 0 = .ok (.aload_n 0, 1)) (x1 : decode rx 1 = .ok (.aload_n 1, 1)) (x2 : decode rx 2 = .ok (.invokespecial ix, 3)) (x5 : decode rx 5 = .ok (.return_, 1))
    (names : List String) (X : String) (hX : Bundle.fit X = true) (hn : ∀ n ∈ names, Bundle.fit n = true) (h : ∀ w ∈ gm_chX X ix rx names, w.before args s = true) :
    ∃ (P1 : PassC) (Ps : List PassC), Ps.length = names.length ∧ P1.LinksS pl s ∧ (∀ P, P ∈ Ps → P.LinksS pl s) ∧ s.methodNamed? (Bundle.initS X) = some P1.m ∧ P1.sup = firstOf top (Ps.map (·.toPassT)) ∧ PassesOn top (Ps.map (·.toPassT)) := by
  rcases names with _ | ⟨Y, r⟩
  · obtain ⟨P, hL, h1, h2⟩ := PassC.ofS_atoms (args := args) (s := s) hpl (X := X) (Y := Bundle.tN) (Bundle.fit_spec hX).1 (by decide) x0 x1 x2 x5 h
    exact ⟨P, [], rfl, hL, (fun _ hP => nomatch hP), h1, Option.some.inj (h2.symm.trans htop), trivial⟩
  · have hY := hn Y List.mem_cons_self
    obtain ⟨P, hL, h1, h2⟩ := PassC.ofS_atoms (args := args) (s := s) hpl (X := X) (Y := Y) (Bundle.fit_spec hX).1 (Bundle.fit_spec hY).2 x0 x1 x2 x5 (fun w hw => h w (List.mem_append.mpr (.inl hw)))
    obtain ⟨P', Ps, e1, e2, e3, e4, e5, e6⟩ := Bundle.chainS (args := args) hpl htop r Y hY (fun n hm => hn n (List.mem_cons_of_mem _ hm)) (fun w hw => h w (List.mem_append.mpr (.inr hw)))
    exact ⟨P, P' :: Ps, by rw [List.length_cons, e1, List.length_cons], hL, fun Q hQ => (List.mem_cons.mp hQ).elim (fun q => by rw [q]; exact e2) (e3 Q), h1, Option.some.inj (h2.symm.trans e4), e5, e6⟩
set_option maxHeartbeats 1000000 in
theorem gm_ctorMadeX (X : Stand p l e R s m₀ args below meth c W locs cells slots) (hexec : p.tables.exec = Jvm.exec) (htr : e.platform.stackTraces = false) {own cls : String} {names : List String} {ic ix : Nat} {rx : ByteArray} (x0 : decode rx 0 = .ok (.aload_n 0, 1)) (x1 : decode rx 1 = .ok (.aload_n 1, 1)) (x2 : decode rx 2 = .ok (.invokespecial ix, 3)) (x5 : decode rx 5 = .ok (.return_, 1))
    (hown : s.vm.findClass own = some m₀.cls) (hcls : Bundle.fit cls = true) (hnames : ∀ n ∈ names, Bundle.fit n = true)
    (h : ∀ a ∈ gm_ownX own ic cls ix rx names, a.before args s = true)
    (hlocs : ∀ x ∈ locs, ∀ cell, s.heap[x.base]? = some cell → cell.vm.isStatics = false)
    {a : Addr} {cX : ClassId} {kX : Class} (hfoundX : s.vm.findClass cls = some cX) (hkX : s.vm.classes[cX]? = some kX) (hcell : W.heap[a]? = some (freshCell cX kX)) (hnew : s.heap.size ≤ a)
    {msg : Value} (hmsg : msg.isRef = true)
    {g : JFrame} (hg : g.method = m₀) (hsize : g.locals.size = c.maxLocals) {rest : List Value} (hstack : g.stack = msg :: .ref a :: .ref a :: rest)
    (hd6 : decode c.code g.pc = .ok (.invokespecial ic, 3))
    (hRframes : names.length + 3 < R.frames) (hRlocals : 2 * g.monitorRoom + ((Value.ref a :: rest).map fun v => v.category).sum + (13 * (names.length + 1) + 42) ≤ R.locals) :
    ∃ (V : State) (ce : Cell) (L : List Loc), Stand p l e R s m₀ args below meth c (V.setCell a ce) (locs ++ L) cells slots ∧ (∀ y ∈ L, y.base = a) ∧ a < V.heap.size ∧ ce.cls = cX ∧ ce.vm = .none ∧
      ∀ target, Steps p.tables e below ((V.setCell a ce).setTop { g with stack := .ref a :: rest, pc := g.pc + 3 }) target → Steps p.tables e below (W.setTop g) target := by
  have howns : e.platform.frameOwnsMonitors = true := by rw [X.admits.platform]
  have hfin : e.platform.finalization = false := by rw [X.admits.platform]
  have hpl : e.platform.magicAccessors = ({} : Platform).magicAccessors := by rw [X.admits.platform]
  have a' : ∀ x, x ∈ gm_ownX own ic cls ix rx names → x.holds args s none s [] = true := fun x hx => h x hx
  obtain ⟨T, Z0, L, -, Y⟩ := ThrowableC.of_atoms (args := args) howns hfin hpl (fun x hx => h x (by simp [gm_ownX, hx]))
  obtain ⟨Z, M, LZ, LM, hnZ⟩ := Init0T.ofS_atoms (args := args) hpl L Y (fun x hx => h x (by simp [gm_ownX, hx]))
  obtain ⟨P1, Ps, hlen, L1, hL, hP1m, hlink1, hlink⟩ := gm_chainX (args := args) hpl hnZ x0 x1 x2 x5 names cls hcls hnames (fun x hx => h x (by simp [gm_ownX, hx]))
  have hfound : s.vm.findClass cls = some P1.m.cls := findClass_of_methodNamed hP1m
  cases Option.some.inj (hfoundX.symm.trans hfound)
  obtain ⟨c1, kX', hc1, hk, hord, -, -, hn6⟩ := Cond.instantiable_spec (a' (.instantiable cls 6) (by simp [gm_ownX]))
  cases Option.some.inj (hc1.symm.trans hfound)
  cases Option.some.inj (hkX.symm.trans hk)
  have hsel0 : selectMethod e.platform s.vm P1.m.cls T.fill0 = .method T.fill0 := by
    obtain ⟨c2, r2, m2, q1, q2, q3, q4, -⟩ := Cond.selects_spec (a' (.selects cls Bundle.tFill0 Bundle.tFill0) (by simp [gm_ownX]))
    cases Option.some.inj (q1.symm.trans hfound)
    cases Option.some.inj (q2.symm.trans (State.methodFound?_of_named Y.fill0 (by decide)))
    cases Option.some.inj (q3.symm.trans Y.fill0)
    rw [Launch.admits_selectMethod X.admits]; exact q4
  have hselF : selectMethod e.platform s.vm P1.m.cls T.fill = .method T.fill := by
    obtain ⟨c2, r2, m2, q1, q2, q3, q4, -⟩ := Cond.selects_spec (a' (.selects cls Bundle.tFill Bundle.tFill) (by simp [gm_ownX]))
    cases Option.some.inj (q1.symm.trans hfound)
    cases Option.some.inj (q2.symm.trans (State.methodFound?_of_named Y.fill (by decide)))
    cases Option.some.inj (q3.symm.trans Y.fill)
    rw [Launch.admits_selectMethod X.admits]; exact q4
  obtain ⟨cellS0, hcS0, hiss⟩ := Y.statics
  obtain ⟨u0, hu0⟩ := Cond.staticRefV Y.unassigned L.unassignedStatic L.statics hcS0 hiss (a' (.isRef (.static Bundle.tN "UNASSIGNED_STACK" Bundle.steD)) (by simp [gm_ownX]))
  obtain ⟨sen, hsen⟩ := Cond.staticRefV Y.sentinel L.sentinelStatic L.statics hcS0 hiss (a' (.isRef (.static Bundle.tN "SUPPRESSED_SENTINEL" Bundle.listD)) (by simp [gm_ownX]))
  obtain ⟨ci198, i198, fB, hk198, hg198, ha198, hsB, -, hnB, htB, hffB⟩ := Cond.ownField (t := .object "java/lang/Object") Y.found L.cls (by decide +kernel) (a' (.fieldLink Bundle.tN 198 Bundle.tN "backtrace" "Ljava/lang/Object;") (by simp [gm_ownX])) (a' (.lays Bundle.tN Bundle.tN "backtrace" "Ljava/lang/Object;") (by simp [gm_ownX])) e.platform hpl
  obtain ⟨cellS, hcS', heS, -, hkeep⟩ := X.same.2.2.2.2.2 T.aS cellS0 hcS0
  have hcellS : W.heap[T.aS]? = some cellS := hcS'
  have hout' : ∀ i, (⟨T.aS, i⟩ : Loc) ∉ locs := fun i hmem => by
    have := hlocs _ hmem cellS0 hcS0
    rw [hiss] at this; cases this
  have hknownS : cellS.vm ≠ .unknown := by
    rw [heS]; intro hu
    rw [show cellS0.vm = .unknown from hu] at hiss
    cases hiss
  have hneS : T.aS ≠ a := Nat.ne_of_lt (Nat.lt_of_lt_of_le (Array.getElem?_eq_some_iff.mp hcS0).1 hnew)
  obtain ⟨iM, hffM⟩ := Y.msg
  obtain ⟨tyC, dC, hdC, hdnC⟩ := Cond.laysAt hfound hk Y.cause (a' (.lays cls Bundle.tN "cause" "Ljava/lang/Throwable;") (by simp [gm_ownX]))
  obtain ⟨tyS, dS, hdS, hdnS⟩ := Cond.laysAt hfound hk Y.stack (a' (.lays cls Bundle.tN "stackTrace" Bundle.steD) (by simp [gm_ownX]))
  obtain ⟨tyP, dP, hdP, hdnP⟩ := Cond.laysAt hfound hk Y.supp (a' (.lays cls Bundle.tN "suppressedExceptions" Bundle.listD) (by simp [gm_ownX]))
  obtain ⟨tyM, dM, hdM, hdnM⟩ := Cond.laysAt hfound hk hffM (a' (.lays cls Bundle.tN "detailMessage" "Ljava/lang/String;") (by simp [gm_ownX]))
  obtain ⟨tyB, dB, hdB, hdnB⟩ := Cond.laysAt hfound hk hffB (a' (.lays cls Bundle.tN "backtrace" "Ljava/lang/Object;") (by simp [gm_ownX]))
  have bC := Cond.laysApart hdB hdC hdnB hdnC (by rw [hnB, Y.causeName]; decide)
  have bS := Cond.laysApart hdB hdS hdnB hdnS (by rw [hnB, Y.stackName]; decide)
  have bP := Cond.laysApart hdB hdP hdnB hdnP (by rw [hnB, Y.suppName]; decide)
  have hskip : SkipFacts T e.platform s (fun u => u) u0 ((preparedCellV T.toThrowableT (freshCell P1.m.cls kX) a u0 sen).withEntry W.cur) :=
    ⟨{ ci198 := ci198, i198 := i198, fBack := fB }, ⟨hk198, hg198, ha198, hsB⟩, by
      have := fresh_default (c := P1.m.cls) tyB
      rw [htB] at this
      simpa [preparedCellV, Cell.setSlot, Cell.withEntry, Array.getElem?_setIfInBounds, bC, bS, bP, bC.symm, bS.symm, bP.symm, defaultValue] using this, fun _ _ => rfl⟩
  obtain ⟨tm, methC, cdC, kC, vm₁, hnC, -, -, -, -, -, -, -, hW₁, st1⟩ := Steps.initColdS (tb := p.tables) (e := e) (below := below) (s := s) (U := W) X.here hexec X.warmed hpl hown (t := Bundle.initS cls) rfl rfl (Bundle.fit_spec hcls).2
    (a' (.methodLink own ic (Bundle.initS cls)) (by simp [gm_ownX])) (h (.instanceMethod (Bundle.initS cls)) (by cases names <;> simp [gm_ownX, gm_chX, Bundle.passSAtoms])) (bytes := rx) (maxL := 2) (h (.code (Bundle.initS cls) rx 2 none) (by cases names <;> simp [gm_ownX, gm_chX, Bundle.passSAtoms]))
    (f := g) hg (a := a) (msg := msg) (rest := .ref a :: rest) hstack hd6
  cases Option.some.inj (hnC.symm.trans hP1m)
  have X₁ := X.noted hW₁
  obtain ⟨vm₂, X₂, st2⟩ := X₁.ctorMessageOffV hexec (g := { g with stack := .ref a :: rest }) hg hsize T L Z LZ M LM (P1 :: Ps)
    (fun P hP => by rcases List.mem_cons.mp hP with rfl | hP; exact L1; exact hL P hP) ⟨hlink1, hlink⟩ (u0 := u0) (sen := sen) (self := a) hmsg (cell := freshCell P1.m.cls kX) (cellS := cellS)
    hcell (fun _ => by simp) (by simp) rfl rfl hsel0 hselF hcellS hneS hknownS (by rw [hkeep _ (hout' _)]; exact hu0) (by rw [hkeep _ (hout' _)]; exact hsen)
    (Takes.of_laid hk hord tyC (by rw [Y.causeType]; rfl)) (Takes.of_laid hk hord tyS (by rw [Y.stackType]; exact fits_refV_array _ u0)) (Takes.of_laid hk hord tyP (by rw [Y.suppType]; exact fits_refV_object _ sen))
    (Takes.of_laid hk hord tyM (by rw [Y.msgType]; exact fits_refV_object _ ⟨msg, hmsg⟩)) Y.objLocals hskip htr [] hd6
    (by simp only [List.length_cons, hlen]; omega) (by simp only [List.length_cons, hlen]; exact hRlocals)
  have hlt : a < ((W.setVm vm₁).setVm vm₂).heap.size := (Array.getElem?_eq_some_iff.mp hcell).1
  refine ⟨(W.setVm vm₁).setVm vm₂, _, _, X₂, fun y hy => ?_, hlt, rfl, rfl, fun target hwalk => st1 _ (fun acts => ?_)⟩
  · simp only [List.mem_cons, List.not_mem_nil, or_false] at hy
    rcases hy with rfl | rfl | rfl | rfl | rfl <;> rfl
  · rw [doInvoke_state]
    exact st2 _ hwalk
end GXX
end
/-! 10b.thr -/
section
/-! STRING CONSTANTS by place, THROWS. -/
noncomputable def gm_slk : List ((Nat × Nat) × Nat) := [(((12 : Nat), (82 : Nat)), (0 : Nat)), (((12 : Nat), (87 : Nat)), (1 : Nat)), (((12 : Nat), (89 : Nat)), (2 : Nat)), (((12 : Nat), (65 : Nat)), (3 : Nat)), (((12 : Nat), (100 : Nat)), (4 : Nat)), (((12 : Nat), (109 : Nat)), (5 : Nat)), (((12 : Nat), (111 : Nat)), (6 : Nat)), (((12 : Nat), (122 : Nat)), (7 : Nat)), (((12 : Nat), (124 : Nat)), (8 : Nat)), (((12 : Nat), (126 : Nat)), (9 : Nat)), (((12 : Nat), (128 : Nat)), (10 : Nat)), (((12 : Nat), (130 : Nat)), (11 : Nat)), (((12 : Nat), (132 : Nat)), (12 : Nat)), (((12 : Nat), (134 : Nat)), (13 : Nat)), (((12 : Nat), (136 : Nat)), (14 : Nat)), (((12 : Nat), (96 : Nat)), (15 : Nat)), (((12 : Nat), (98 : Nat)), (16 : Nat)), (((9 : Nat), (19 : Nat)), (17 : Nat)), (((9 : Nat), (31 : Nat)), (18 : Nat)), (((9 : Nat), (36 : Nat)), (19 : Nat)), (((9 : Nat), (41 : Nat)), (20 : Nat)), (((9 : Nat), (131 : Nat)), (21 : Nat)), (((9 : Nat), (46 : Nat)), (22 : Nat)), (((9 : Nat), (51 : Nat)), (23 : Nat)), (((9 : Nat), (56 : Nat)), (24 : Nat)), (((9 : Nat), (61 : Nat)), (25 : Nat)), (((9 : Nat), (152 : Nat)), (26 : Nat)), (((9 : Nat), (66 : Nat)), (27 : Nat)), (((9 : Nat), (71 : Nat)), (28 : Nat)), (((0 : Nat), (123 : Nat)), (29 : Nat)), (((0 : Nat), (133 : Nat)), (30 : Nat)), (((0 : Nat), (140 : Nat)), (31 : Nat)), (((0 : Nat), (458 : Nat)), (32 : Nat)), (((0 : Nat), (455 : Nat)), (33 : Nat)), (((0 : Nat), (197 : Nat)), (34 : Nat)), (((0 : Nat), (215 : Nat)), (35 : Nat)), (((0 : Nat), (462 : Nat)), (36 : Nat)), (((0 : Nat), (241 : Nat)), (37 : Nat)), (((0 : Nat), (263 : Nat)), (38 : Nat)), (((0 : Nat), (272 : Nat)), (39 : Nat)), (((0 : Nat), (287 : Nat)), (40 : Nat)), (((0 : Nat), (289 : Nat)), (41 : Nat)), (((0 : Nat), (301 : Nat)), (42 : Nat)), (((0 : Nat), (460 : Nat)), (43 : Nat)), (((0 : Nat), (365 : Nat)), (44 : Nat)), (((0 : Nat), (379 : Nat)), (45 : Nat)), (((0 : Nat), (414 : Nat)), (46 : Nat)), (((20 : Nat), (181 : Nat)), (47 : Nat)), (((20 : Nat), (185 : Nat)), (48 : Nat)), (((20 : Nat), (190 : Nat)), (49 : Nat)), (((20 : Nat), (195 : Nat)), (50 : Nat)), (((20 : Nat), (156 : Nat)), (51 : Nat)), (((20 : Nat), (200 : Nat)), (52 : Nat)), (((20 : Nat), (205 : Nat)), (53 : Nat)), (((20 : Nat), (168 : Nat)), (54 : Nat)), (((20 : Nat), (210 : Nat)), (55 : Nat)), (((20 : Nat), (215 : Nat)), (56 : Nat)), (((20 : Nat), (220 : Nat)), (57 : Nat)), (((20 : Nat), (222 : Nat)), (58 : Nat)), (((20 : Nat), (275 : Nat)), (59 : Nat)), (((20 : Nat), (277 : Nat)), (60 : Nat)), (((20 : Nat), (279 : Nat)), (61 : Nat)), (((20 : Nat), (281 : Nat)), (62 : Nat)), (((20 : Nat), (256 : Nat)), (63 : Nat)), (((20 : Nat), (261 : Nat)), (64 : Nat)), (((20 : Nat), (263 : Nat)), (65 : Nat)), (((20 : Nat), (231 : Nat)), (66 : Nat)), (((20 : Nat), (233 : Nat)), (67 : Nat)), (((20 : Nat), (235 : Nat)), (68 : Nat)), (((20 : Nat), (237 : Nat)), (69 : Nat)), (((20 : Nat), (239 : Nat)), (70 : Nat)), (((20 : Nat), (241 : Nat)), (71 : Nat)), (((20 : Nat), (243 : Nat)), (72 : Nat)), (((20 : Nat), (268 : Nat)), (73 : Nat)), (((20 : Nat), (273 : Nat)), (74 : Nat))]
noncomputable def gm_sld (o ix : Nat) : Option Nat := gm_slk.lookup (o, ix)
theorem gm_slk_ok : gm_slk.all (fun q => (match gm_sr_[q.2]? with | some r => decide (r.1 = gm_rn q.1.1 ∧ r.2.1 = q.1.2 ∧ r.2.2.2 = q.2) | none => false) && decide (q.2 < 1000)) = true := by decide +kernel
/-- the classes thrown: class of the code, its link, number, the constructor's link; words -/
noncomputable def gm_xl : List (Nat × Nat × Nat × Nat × Nat × Nat) := [((0 : Nat), (121 : Nat), (0 : Nat), (125 : Nat), (1070 : Nat), (176 : Nat)), ((0 : Nat), (131 : Nat), (1 : Nat), (135 : Nat), (1139 : Nat), (177 : Nat)), ((0 : Nat), (261 : Nat), (2 : Nat), (265 : Nat), (1364 : Nat), (181 : Nat)), ((0 : Nat), (453 : Nat), (3 : Nat), (457 : Nat), (1227 : Nat), (179 : Nat)), ((0 : Nat), (195 : Nat), (4 : Nat), (199 : Nat), (1272 : Nat), (180 : Nat))]
noncomputable def gm_xnm : List String := ["java/lang/RuntimeException", "java/lang/Exception"]
noncomputable def gm_xhl : List (List Nat) := [[(176 : Nat), (808 : Nat), (1070 : Nat), (1071 : Nat), (1072 : Nat), (1079 : Nat), (1080 : Nat), (1081 : Nat), (1083 : Nat), (1085 : Nat), (1087 : Nat), (1089 : Nat), (1114 : Nat), (1115 : Nat), (1116 : Nat), (1117 : Nat), (1135 : Nat), (1138 : Nat), (2380 : Nat), (173 : Nat), (174 : Nat), (175 : Nat), (188 : Nat), (189 : Nat), (190 : Nat), (196 : Nat), (202 : Nat), (312 : Nat), (331 : Nat), (391 : Nat), (429 : Nat), (453 : Nat), (459 : Nat), (1073 : Nat), (1074 : Nat), (1075 : Nat), (1076 : Nat), (1077 : Nat), (1078 : Nat), (1082 : Nat), (1084 : Nat), (1086 : Nat), (1088 : Nat), (1090 : Nat), (1091 : Nat), (1092 : Nat), (1093 : Nat), (1094 : Nat), (1095 : Nat), (1096 : Nat), (1097 : Nat), (1098 : Nat), (1099 : Nat), (1100 : Nat), (1101 : Nat), (1102 : Nat), (1107 : Nat), (1108 : Nat), (1109 : Nat), (1110 : Nat), (1111 : Nat), (1112 : Nat), (1118 : Nat), (1119 : Nat), (1120 : Nat), (1121 : Nat), (1122 : Nat), (1123 : Nat), (1124 : Nat), (1125 : Nat), (1126 : Nat), (1127 : Nat), (1128 : Nat), (1129 : Nat), (1130 : Nat), (1131 : Nat), (1132 : Nat), (1133 : Nat), (1134 : Nat), (1136 : Nat), (1137 : Nat), (1186 : Nat), (1683 : Nat), (2368 : Nat), (2386 : Nat)], [(177 : Nat), (809 : Nat), (1105 : Nat), (1139 : Nat), (1140 : Nat), (1141 : Nat), (1142 : Nat), (1143 : Nat), (1144 : Nat), (1145 : Nat), (1146 : Nat), (1147 : Nat), (1149 : Nat), (1150 : Nat), (1151 : Nat), (1152 : Nat), (1153 : Nat), (1154 : Nat), (2381 : Nat), (173 : Nat), (174 : Nat), (175 : Nat), (188 : Nat), (189 : Nat), (190 : Nat), (196 : Nat), (202 : Nat), (312 : Nat), (331 : Nat), (391 : Nat), (429 : Nat), (453 : Nat), (459 : Nat), (1073 : Nat), (1074 : Nat), (1075 : Nat), (1076 : Nat), (1077 : Nat), (1078 : Nat), (1082 : Nat), (1084 : Nat), (1086 : Nat), (1088 : Nat), (1090 : Nat), (1091 : Nat), (1092 : Nat), (1093 : Nat), (1094 : Nat), (1095 : Nat), (1096 : Nat), (1097 : Nat), (1098 : Nat), (1099 : Nat), (1100 : Nat), (1101 : Nat), (1102 : Nat), (1107 : Nat), (1108 : Nat), (1109 : Nat), (1110 : Nat), (1111 : Nat), (1112 : Nat), (1118 : Nat), (1119 : Nat), (1120 : Nat), (1121 : Nat), (1122 : Nat), (1123 : Nat), (1124 : Nat), (1125 : Nat), (1126 : Nat), (1127 : Nat), (1128 : Nat), (1129 : Nat), (1130 : Nat), (1131 : Nat), (1132 : Nat), (1133 : Nat), (1134 : Nat), (1136 : Nat), (1137 : Nat), (1186 : Nat), (1683 : Nat), (2368 : Nat), (2386 : Nat)], [(181 : Nat), (1103 : Nat), (1359 : Nat), (1364 : Nat), (1365 : Nat), (1366 : Nat), (1367 : Nat), (1368 : Nat), (1369 : Nat), (1370 : Nat), (1371 : Nat), (1372 : Nat), (1374 : Nat), (1375 : Nat), (1376 : Nat), (1377 : Nat), (1378 : Nat), (1379 : Nat), (2385 : Nat), (173 : Nat), (174 : Nat), (175 : Nat), (188 : Nat), (189 : Nat), (190 : Nat), (196 : Nat), (202 : Nat), (312 : Nat), (331 : Nat), (391 : Nat), (429 : Nat), (453 : Nat), (459 : Nat), (1073 : Nat), (1074 : Nat), (1075 : Nat), (1076 : Nat), (1077 : Nat), (1078 : Nat), (1082 : Nat), (1084 : Nat), (1086 : Nat), (1088 : Nat), (1090 : Nat), (1091 : Nat), (1092 : Nat), (1093 : Nat), (1094 : Nat), (1095 : Nat), (1096 : Nat), (1097 : Nat), (1098 : Nat), (1099 : Nat), (1100 : Nat), (1101 : Nat), (1102 : Nat), (1107 : Nat), (1108 : Nat), (1109 : Nat), (1110 : Nat), (1111 : Nat), (1112 : Nat), (1118 : Nat), (1119 : Nat), (1120 : Nat), (1121 : Nat), (1122 : Nat), (1123 : Nat), (1124 : Nat), (1125 : Nat), (1126 : Nat), (1127 : Nat), (1128 : Nat), (1129 : Nat), (1130 : Nat), (1131 : Nat), (1132 : Nat), (1133 : Nat), (1134 : Nat), (1136 : Nat), (1137 : Nat), (1186 : Nat), (1683 : Nat), (2368 : Nat), (2386 : Nat)], [(179 : Nat), (1104 : Nat), (1214 : Nat), (1227 : Nat), (1228 : Nat), (1229 : Nat), (1230 : Nat), (1231 : Nat), (1232 : Nat), (1233 : Nat), (1234 : Nat), (1235 : Nat), (1237 : Nat), (1238 : Nat), (1239 : Nat), (1240 : Nat), (1241 : Nat), (1242 : Nat), (2383 : Nat), (173 : Nat), (174 : Nat), (175 : Nat), (188 : Nat), (189 : Nat), (190 : Nat), (196 : Nat), (202 : Nat), (312 : Nat), (331 : Nat), (391 : Nat), (429 : Nat), (453 : Nat), (459 : Nat), (1073 : Nat), (1074 : Nat), (1075 : Nat), (1076 : Nat), (1077 : Nat), (1078 : Nat), (1082 : Nat), (1084 : Nat), (1086 : Nat), (1088 : Nat), (1090 : Nat), (1091 : Nat), (1092 : Nat), (1093 : Nat), (1094 : Nat), (1095 : Nat), (1096 : Nat), (1097 : Nat), (1098 : Nat), (1099 : Nat), (1100 : Nat), (1101 : Nat), (1102 : Nat), (1107 : Nat), (1108 : Nat), (1109 : Nat), (1110 : Nat), (1111 : Nat), (1112 : Nat), (1118 : Nat), (1119 : Nat), (1120 : Nat), (1121 : Nat), (1122 : Nat), (1123 : Nat), (1124 : Nat), (1125 : Nat), (1126 : Nat), (1127 : Nat), (1128 : Nat), (1129 : Nat), (1130 : Nat), (1131 : Nat), (1132 : Nat), (1133 : Nat), (1134 : Nat), (1136 : Nat), (1137 : Nat), (1186 : Nat), (1683 : Nat), (2368 : Nat), (2386 : Nat)], [(180 : Nat), (1106 : Nat), (1259 : Nat), (1272 : Nat), (1273 : Nat), (1274 : Nat), (1275 : Nat), (1276 : Nat), (1277 : Nat), (1278 : Nat), (1279 : Nat), (1280 : Nat), (1282 : Nat), (1283 : Nat), (1284 : Nat), (1285 : Nat), (1286 : Nat), (1287 : Nat), (2384 : Nat), (173 : Nat), (174 : Nat), (175 : Nat), (188 : Nat), (189 : Nat), (190 : Nat), (196 : Nat), (202 : Nat), (312 : Nat), (331 : Nat), (391 : Nat), (429 : Nat), (453 : Nat), (459 : Nat), (1073 : Nat), (1074 : Nat), (1075 : Nat), (1076 : Nat), (1077 : Nat), (1078 : Nat), (1082 : Nat), (1084 : Nat), (1086 : Nat), (1088 : Nat), (1090 : Nat), (1091 : Nat), (1092 : Nat), (1093 : Nat), (1094 : Nat), (1095 : Nat), (1096 : Nat), (1097 : Nat), (1098 : Nat), (1099 : Nat), (1100 : Nat), (1101 : Nat), (1102 : Nat), (1107 : Nat), (1108 : Nat), (1109 : Nat), (1110 : Nat), (1111 : Nat), (1112 : Nat), (1118 : Nat), (1119 : Nat), (1120 : Nat), (1121 : Nat), (1122 : Nat), (1123 : Nat), (1124 : Nat), (1125 : Nat), (1126 : Nat), (1127 : Nat), (1128 : Nat), (1129 : Nat), (1130 : Nat), (1131 : Nat), (1132 : Nat), (1133 : Nat), (1134 : Nat), (1136 : Nat), (1137 : Nat), (1186 : Nat), (1683 : Nat), (2368 : Nat), (2386 : Nat)]]
noncomputable def fl_hw (o : Option Jvm.Cond) (w : Jvm.Cond) : Bool := @Option.rec Jvm.Cond (fun _ => Bool) false (fun v => fl_if (Nat.beq (gm_tag v) (gm_tag w)) (decide (v = w)) false) o
noncomputable def gm_memH (hs : List Nat) (w : Jvm.Cond) : Bool := fl_any hs fun p => fl_hw (gm_tb p) w
theorem gm_memH_in {hs : List Nat} {w : Jvm.Cond} (h : gm_memH hs w = true) : w ∈ lw_tbl := by
  unfold gm_memH at h
  rw [fl_any_eq] at h
  obtain ⟨p, -, h2⟩ := List.any_eq_true.mp h
  have h2 : fl_hw (gm_tb p) w = true := h2
  cases e : gm_tb p with
  | none => rw [e] at h2; exact (Bool.false_ne_true h2).elim
  | some v =>
    rw [e] at h2
    have h2 : fl_if (Nat.beq (gm_tag v) (gm_tag w)) (decide (v = w)) false = true := h2
    rw [fl_and, Bool.and_eq_true, decide_eq_true_eq] at h2
    exact gm_tb_in (h2.2 ▸ e)
noncomputable def gm_xok (x : Nat) (w : Jvm.Cond) (X : String) : Bool := (gm_memH ((gm_xhl[x]?).getD []) w && goodWord w) || decide (w = .castable X X) || gm_dcs.any (fun y => decide (w = .declares y))
/-- of the fifth: its constructor, the pool number in it -/
noncomputable def gm_xix : Nat := 13
noncomputable def gm_xrx : ByteArray := ⟨#[0x2a, 0x2b, 0xb7, 0x0, 0xd, 0xb1]⟩
/-- the words of a throw -/
noncomputable def gm_xat (o ic x : Nat) : List Jvm.Cond := if x = 4 then gm_atX (gm_rn o) ic (gm_xn x) gm_xix gm_xrx gm_xnm else vx_atS (gm_rn o) ic (gm_xn x) gm_xnm
noncomputable def gm_xck (q : Nat × Nat × Nat × Nat × Nat × Nat) : Bool := match q with
  | (o, ik, x, ic, p1, p2) => decide (x < 5) && decide (gm_tb (p1) = some (.classLink (gm_rn o) ik (gm_xn x))) && decide (gm_tb (p2) = some (.initialized (gm_xn x))) && (gm_xat o ic x).all (fun w => gm_xok x w (gm_xn x) && vx_ot w) && (Bundle.fit (gm_xn x) && gm_xnm.all Bundle.fit)
theorem gm_xl_ok : gm_xl.all gm_xck = true := by decide +kernel
noncomputable def gm_xlk (o ik : Nat) : Option (Nat × Nat) := (gm_xl.find? (fun q => decide (q.1 = o ∧ q.2.1 = ik))).map (fun q => (q.2.2.1, q.2.2.2.1))
end
/-! 11.ends -/
section
/-! HOW A METHOD ENDS. -/
section GE
variable {X : Int → Int} {LX d bc bs mi pc : Nat} {L : gm_L} {st : List gm_V} {n : Nat} {K : gm_K} {R : gm_R} {M : gm_M} {Q : gm_Q}
theorem gm_r_int {x : Int} (h : gm_at mi pc = some .ireturn) (hr : gm_rt mi = some .int ∨ gm_rt mi = some .boolean ∧ (x = 0 ∨ x = 1)) (hq : Q (.inl (some (gm_vi x))) n K R M) : gm_Wp X LX d bc bs mi pc L [gm_vi x] n K R M Q := by
  intro p l e Rm s m args below meth c D ti adK adV A α0 n0 mc ms hcx hev hd hd2 hmc hms hA α H locs cells slots ls sv hxt hc1 hc2 hR hL hS
  obtain ⟨w, sv, rfl, h1, hS⟩ := hS
  cases h1; cases hS
  have hdg := gm_dec hcx h rfl
  obtain ⟨hx, hb, -, -, hret, hlk, -⟩ := id hcx
  obtain ⟨hKn, hP, hD, hSv, hRv⟩ := id hR
  have hq' : ∀ t : State, t.heap = H → s.WarmedH t.vm → gm_QC D ti adK A α0 n0 Q args s (.returned (some (.int (Int32.ofInt x)))) t := fun t ht hW => ⟨⟨_, some (gm_vi x), α, n, K, R, M, rfl, ⟨_, rfl, rfl⟩, hq, hxt, va_K.moved hW.alike hKn, by rw [ht]; exact hP, hD, hRv⟩, hSv.F ht⟩
  refine W.widen (k := mc) (n := ms) (by omega) (by omega) (vx_ret ?_)
  rcases hr with hr | ⟨hr, h01⟩
  · exact W.iret hx hb (by rw [hret]; exact hr) hq' hSv.2.2 hdg hlk
  · exact W.zret hx hb (by rw [hret]; exact hr) (by rcases h01 with rfl | rfl <;> rfl) hq' hSv.2.2 hdg hlk
theorem gm_r_void (h : gm_at mi pc = some .return_) (hr : gm_rt mi = none) (hq : Q (.inl none) n K R M) : gm_Wp X LX d bc bs mi pc L [] n K R M Q := by
  intro p l e Rm s m args below meth c D ti adK adV A α0 n0 mc ms hcx hev hd hd2 hmc hms hA α H locs cells slots ls sv hxt hc1 hc2 hR hL hS
  cases hS
  have hdg := gm_dec hcx h rfl
  obtain ⟨hx, hb, -, -, hret, hlk, -⟩ := id hcx
  obtain ⟨hKn, hP, hD, hSv, hRv⟩ := id hR
  refine W.widen (k := mc) (n := ms) (by omega) (by omega) (vx_ret ?_)
  exact W.vret hx hb (by rw [hret]; exact hr) (fun t ht hW => ⟨⟨_, none, α, n, K, R, M, rfl, rfl, hq, hxt, va_K.moved hW.alike hKn, by rw [ht]; exact hP, hD, hRv⟩, hSv.F ht⟩) hSv.2.2 hdg hlk
theorem gm_r_ref {k : Nat} (h : gm_at mi pc = some .areturn) (hr : (∃ C, gm_rt mi = some (.object C)) ∨ ∃ t, gm_rt mi = some (.array t)) (hq : Q (.inl (some (gm_vr k))) n K R M) : gm_Wp X LX d bc bs mi pc L [gm_vr k] n K R M Q := by
  intro p l e Rm s m args below meth c D ti adK adV A α0 n0 mc ms hcx hev hd hd2 hmc hms hA α H locs cells slots ls sv hxt hc1 hc2 hR hL hS
  obtain ⟨w, sv, rfl, ⟨rfl, hk⟩, hS⟩ := hS
  cases hS
  have hdg := gm_dec hcx h rfl
  obtain ⟨hx, hb, -, -, hret, hlk, -⟩ := id hcx
  obtain ⟨hKn, hP, hD, hSv, hRv⟩ := id hR
  refine W.widen (k := mc) (n := ms) (by omega) (by omega) (vx_ret ?_)
  have hq' : ∀ t : State, t.heap = H → s.WarmedH t.vm → gm_QC D ti adK A α0 n0 Q args s (.returned (some (gm_rf α k))) t := fun t ht hW => ⟨⟨_, some (gm_vr k), α, n, K, R, M, rfl, ⟨_, rfl, rfl, hk⟩, hq, hxt, va_K.moved hW.alike hKn, by rw [ht]; exact hP, hD, hRv⟩, hSv.F ht⟩
  have hv : gm_rf α k = .null ∨ ∃ a, gm_rf α k = .ref a := gm_rf_or α k
  rcases hr with ⟨C, hr⟩ | ⟨t, hr⟩
  · exact W.aret hx hb (by rw [hret]; exact hr) (Or.inl ⟨_, rfl⟩) hv hq' hSv.2.2 hdg hlk
  · exact W.aret hx hb (by rw [hret]; exact hr) (Or.inr ⟨_, rfl⟩) hv hq' hSv.2.2 hdg hlk
theorem gm_sld_spec {o ix id : Nat} (h : gm_sld o ix = some id) : id < 1000 ∧ ∃ tx, (gm_rn o, ix, tx, id) ∈ gm_sr_ := by
  have h1 := List.all_eq_true.mp gm_slk_ok _ (gm_lookup2 _ _ _ h)
  simp only [Bool.and_eq_true, decide_eq_true_eq] at h1
  obtain ⟨h1, h2⟩ := h1
  refine ⟨h2, ?_⟩
  cases hr : gm_sr_[id]? with
  | none => rw [hr] at h1; cases h1
  | some r =>
    rw [hr] at h1
    obtain ⟨r1, r2, r3, r4⟩ := r
    simp only [decide_eq_true_eq] at h1
    obtain ⟨rfl, rfl, rfl⟩ := h1
    exact ⟨r3, List.mem_of_getElem? hr⟩
theorem gm_ldcW {p : Program} {l : Launch} {e : Env} {Rm : Room} {s : State} {m : MethodId} {args : Array Value} {below : List Frame} {meth : Method} {c : Code} {T : State} {locs : List Loc} {cells slots : Nat}
    (Xs : Stand p l e Rm s m args below meth c T locs cells slots) (hexec : p.tables.exec = Jvm.exec) {own text : String} {index : Nat} {a : Addr} (hown : s.vm.findClass own = some m.cls)
    (hconst : (Jvm.Cond.stringRef own index text).before args s = true) (hev : (Term.string own index).eval args s none [] s = some (.ref a)) {g : JFrame} (hg : g.method = m) (hdg : decode c.code g.pc = .ok (.ldc_w index, 3)) :
    ∀ target, Steps p.tables e below (T.setTop { g with pc := g.pc + 3, stack := .ref a :: g.stack }) target → Steps p.tables e below (T.setTop g) target := by
  obtain ⟨k, cf, i, a', hk, hcf, hcp, -, hr, hev'⟩ := Cond.stringRef_spec hown hconst
  cases hev.symm.trans hev'
  obtain ⟨k', hk', he⟩ := Xs.warmed.alike.2.2 _ _ hk
  have hr' : k'.resolved[index]? = some (some (.string a)) := by
    rcases Xs.warmed.entry hk hk' index with h | ⟨h, -⟩
    · rw [h]; exact hr
    · rw [hr] at h; cases h
  intro target hrest
  subst hg
  jvm_step Xs.here [hexec, hdg, ldc_w.wp_string (e := e) (s := T) (f := g) Xs.here.top hk' (by rw [he]; exact hcf) hcp hr']
  exact hrest
theorem gm_p_ldcs {i : Instr} {ix id : Nat} (h : gm_at mi pc = some i) (hi : i = .ldc ix ∨ i = .ldc_w ix) (hv : gm_sld (gm_ow mi) ix = some id) : gm_Sp X LX d mi pc L st n K R M (pc + gm_len i) L (gm_vo id :: st) n K R M 0 0 := by
  intro p l e Rm s m args below meth c D ti adK adV A hcx hev hd hd2 hA α H locs cells slots ls sv Q' hc1 hc2 hR hL hS k2
  have hdg := gm_dec hcx h (by rcases hi with rfl | rfl <;> rfl)
  obtain ⟨hx, hb, -, hown, -, -, hts, -⟩ := _root_.id hcx
  obtain ⟨hid, tx, hmem⟩ := gm_sld_spec hv
  have hZ := hev.2.1 _ hmem
  have k3 := k2 α H locs ls (Value.ref (adK id) :: sv) gm_xt.rf hR hL ⟨_, _, rfl, ⟨adK id, rfl, fun _ => rfl⟩, hS⟩
  rcases hi with rfl | rfl
  · exact va_ldcS hx hb hown hZ hdg k3
  · intro T hT Xs
    obtain ⟨t, a1, b1⟩ := k3 T hT Xs
    exact ⟨t, gm_ldcW Xs hx hown hZ.1 hZ.2 (g := F0 m pc ls sv) rfl (by rw [hb]; exact hdg) t a1, b1⟩
end GE
end
/-! 11a.obj -/
section
/-- Object's constructor: class of the code, place; word -/
noncomputable def gm_oil : List ((Nat × Nat) × Nat) := [(((0 : Nat), (3 : Nat)), (188 : Nat)), (((1 : Nat), (3 : Nat)), (196 : Nat)), (((2 : Nat), (3 : Nat)), (202 : Nat)), (((3 : Nat), (3 : Nat)), (312 : Nat)), (((4 : Nat), (3 : Nat)), (331 : Nat)), (((7 : Nat), (3 : Nat)), (391 : Nat)), (((8 : Nat), (3 : Nat)), (429 : Nat)), (((10 : Nat), (3 : Nat)), (453 : Nat)), (((11 : Nat), (3 : Nat)), (459 : Nat)), (((13 : Nat), (3 : Nat)), (1186 : Nat)), (((20 : Nat), (7 : Nat)), (1683 : Nat))]
noncomputable def gm_oi (o ix : Nat) : Bool := (gm_oil.lookup (o, ix)).isSome
theorem gm_oil_ok : gm_oil.all (fun q => decide (gm_tb (q.2) = some (.methodLink (gm_rn q.1.1) q.1.2 Lib.objectInit))) = true := by decide +kernel
set_option maxRecDepth 100000 in
theorem gm_oi1 : Jvm.Cond.instanceMethod Lib.objectInit ∈ gm_T := gm_T_in (i := 189) (by decide +kernel) rfl
set_option maxRecDepth 100000 in
theorem gm_oi2 : Jvm.Cond.code Lib.objectInit ⟨#[0xb1]⟩ 1 none ∈ gm_T := gm_T_in (i := 190) (by decide +kernel) rfl
noncomputable def gm_jmax : Nat := 11
noncomputable def gm_jmin : Nat := 26
set_option maxRecDepth 100000 in
theorem gm_jwmax : Jvm.Cond.code Lib.Math.max.name Lib.Math.max.code 2 (some .int) ∈ gm_T := gm_T_in (i := 358) (by decide +kernel) rfl
theorem gm_jnmax : gm_mn gm_jmax = Lib.Math.max.name := by decide +kernel
set_option maxRecDepth 100000 in
theorem gm_jwmin : Jvm.Cond.code Lib.Math.min.name Lib.Math.min.code 2 (some .int) ∈ gm_T := gm_T_in (i := 610) (by decide +kernel) rfl
theorem gm_jnmin : gm_mn gm_jmin = Lib.Math.min.name := by decide +kernel
/-- the number of a method's class among those of which objects are made -/
noncomputable def gm_cio (i : Nat) : Nat := (([0, 1, 2, 3, 4, 4, 4, 4, 999, 2, 2, 999, 4, 5, 6, 7, 999, 8, 9, 0, 0, 0, 0, 0, 0, 2, 999, 5, 1, 5, 5, 5, 5, 5, 4, 4, 4, 4, 999, 4, 10, 10, 4, 5, 4, 2, 0, 0, 0, 999, 0, 0, 0, 0, 0, 3, 3, 1, 2, 0, 0, 0, 3, 0, 0, 0, 0, 0, 0, 3, 999, 0, 999, 9, 7, 8, 8, 8, 8, 9, 9, 8, 999, 999, 999, 999, 999, 999, 999, 999, 999, 999, 999, 8, 8, 8, 9, 9, 8, 9, 9, 9, 2, 7, 7, 1, 7, 7, 2, 7, 7, 7, 8, 7, 7, 7, 7, 7, 7, 1, 7, 8, 999, 0, 9, 999, 10, 999, 0, 0, 999, 0, 0, 0, 0, 999, 0, 999, 0, 0, 0, 999, 0, 0, 0, 0, 999, 0, 5, 999, 0, 999, 0, 0, 3, 999, 0, 999, 0, 1, 999, 0, 0, 0, 4, 10, 999, 0, 999, 0, 5, 999, 0, 999, 0, 5, 999, 0, 999, 0, 0, 0, 0, 0, 0, 999, 0, 0, 0, 999, 0, 999, 0, 0, 999, 0, 999, 0, 0, 0, 999, 0, 6, 6, 6, 6, 999, 0, 6, 6, 999, 0, 999, 0, 0, 0, 0, 999, 0, 0, 999, 0, 999, 0, 999, 0, 999, 0, 999, 0, 999, 0, 999, 0, 11, 11, 11, 11, 11, 11, 11, 11, 11, 11, 11, 11, 11, 11, 11, 11, 11, 11, 11, 11, 11, 11, 11, 11, 11, 11, 11, 11, 11, 11, 11, 11, 11, 11, 11, 11, 11, 11, 11, 11, 11, 11, 11, 11, 11, 11, 11, 11, 11, 11, 11, 11, 11, 11, 11, 11, 11, 11, 11, 11, 11, 11, 11, 11, 11, 11, 11, 11, 11, 11, 11, 11, 11, 11, 11, 11, 11, 11, 11, 11, 11, 11, 11, 11, 11, 11, 11, 11, 11, 11, 11, 11, 11, 11, 11, 11, 11, 11, 11, 11, 11, 11, 11, 11, 11, 11, 11, 11, 11, 11, 11, 11, 11, 11, 11, 11, 11, 11, 11, 11, 11, 11, 11, 11, 11, 11, 11, 11, 11, 11, 11, 11, 11, 11, 11, 11, 999] : List Nat)[i]?).getD 999
theorem gm_cio_ok : (List.range 371).all (fun i => decide (gm_cio i = 999) || (decide (gm_cio i < 12) && decide (gm_cn (gm_cio i) = (gm_mn i).cls))) = true := by decide +kernel
end
/-! 11b.thr -/
section
/-! Object's constructor; max and min; a throw. -/
section GT
variable {X : Int → Int} {LX d bc bs mi pc : Nat} {L : gm_L} {st : List gm_V} {n : Nat} {K : gm_K} {R : gm_R} {M : gm_M} {Q : gm_Q}
theorem gm_p_oinit {ix k : Nat} (h : gm_at mi pc = some (.invokespecial ix)) (ho : gm_oi (gm_ow mi) ix = true) (hk : 1 ≤ k ∧ k ≤ n) (hst : (st.map gm_cat).sum ≤ 8) (hd' : 1 ≤ d) : gm_Sp X LX d mi pc L (gm_vr k :: st) n K R M (pc + 3) L st n K R M 0 0 := by
  intro p l e Rm s m args below meth c D ti adK adV A hcx hev hd hd2 hA α H locs cells slots ls sv Q' hc1 hc2 hR hL hS k2
  obtain ⟨w1, sv, rfl, ⟨rfl, -⟩, hS⟩ := hS
  have hdg := gm_dec hcx h rfl
  obtain ⟨hx, hb, hml, hown, -, -, hts, -⟩ := _root_.id hcx
  obtain ⟨q, hq⟩ := Option.isSome_iff_exists.mp ho
  have h1 := List.all_eq_true.mp gm_oil_ok _ (gm_lookup2 _ _ _ hq)
  simp only [decide_eq_true_eq] at h1
  rw [gm_rf_pos hk.1 (Nat.lt_of_le_of_lt hk.2 hR.2.2.2.2.1)]
  refine W.objInit hx hb hown (hts _ (gm_T_in h1 rfl)) (hts _ gm_oi1) (hts _ gm_oi2) rfl (by rw [hml]; exact hL.2.choose_spec.1.1) rfl hdg (by omega) ?_ (k2 α H locs ls sv gm_xt.rf hR hL hS)
  have : (sv.map fun v => v.category).sum ≤ 8 := by rw [gm_sum_eq hS]; exact hst
  show 2 * 0 + _ + 12 ≤ _
  omega
theorem gm_p_max {ix : Nat} {x y : Int} (h : gm_at mi pc = some (.invokestatic ix)) (hc : gm_cal (gm_ow mi) ix = some (2, gm_jmax)) (hx0 : gm_w x = x) (hy0 : gm_w y = y) (hst : (st.map gm_cat).sum ≤ 8) (hd' : 1 ≤ d) : gm_Sp X LX d mi pc L (gm_vi y :: gm_vi x :: st) n K R M (pc + 3) L (gm_vi (max x y) :: st) n K R M 0 0 := by
  intro p l e Rm s m args below meth c D ti adK adV A hcx hev hd hd2 hA α H locs cells slots ls sv Q' hc1 hc2 hR hL hS k2
  obtain ⟨w0, sv, rfl, h0, hS⟩ := hS
  obtain ⟨w1, sv, rfl, h1, hS⟩ := hS
  cases h0; cases h1
  have hdg := gm_dec hcx h rfl
  obtain ⟨hx, hb, hml, hown, -, -, hts, -⟩ := _root_.id hcx
  obtain ⟨hj, i1, i2, -, -, i5, -⟩ := gm_cal_spec hc
  rw [gm_jnmax] at i1 i2 i5
  have hsum : (sv.map fun v => v.category).sum ≤ 8 := by rw [gm_sum_eq hS]; exact hst
  refine va_mmax hx hb (by rw [hml]; exact hL.2.choose_spec.1.1.symm) hown (hts _ (i2 (by omega))) (hts _ (i5 (Or.inl rfl))) (hts _ i1) (hts _ gm_jwmax) (by omega) (by omega) (by omega) (by omega) hdg ?_
  have e : (if Int32.ofInt x < Int32.ofInt y then Int32.ofInt y else Int32.ofInt x) = Int32.ofInt (max x y) := by
    have := gm_lt x y
    rw [hx0, hy0] at this
    simp only [this]
    split
    · rename_i q; rw [Int.max_eq_right (by omega)]
    · rename_i q; rw [Int.max_eq_left (by omega)]
  rw [e]
  exact k2 α H locs ls _ gm_xt.rf hR hL ⟨_, _, rfl, rfl, hS⟩
theorem gm_p_min {ix : Nat} {x y : Int} (h : gm_at mi pc = some (.invokestatic ix)) (hc : gm_cal (gm_ow mi) ix = some (2, gm_jmin)) (hx0 : gm_w x = x) (hy0 : gm_w y = y) (hst : (st.map gm_cat).sum ≤ 8) (hd' : 1 ≤ d) : gm_Sp X LX d mi pc L (gm_vi y :: gm_vi x :: st) n K R M (pc + 3) L (gm_vi (min x y) :: st) n K R M 0 0 := by
  intro p l e Rm s m args below meth c D ti adK adV A hcx hev hd hd2 hA α H locs cells slots ls sv Q' hc1 hc2 hR hL hS k2
  obtain ⟨w0, sv, rfl, h0, hS⟩ := hS
  obtain ⟨w1, sv, rfl, h1, hS⟩ := hS
  cases h0; cases h1
  have hdg := gm_dec hcx h rfl
  obtain ⟨hx, hb, hml, hown, -, -, hts, -⟩ := _root_.id hcx
  obtain ⟨hj, i1, i2, -, -, i5, -⟩ := gm_cal_spec hc
  rw [gm_jnmin] at i1 i2 i5
  have hsum : (sv.map fun v => v.category).sum ≤ 8 := by rw [gm_sum_eq hS]; exact hst
  refine va_mmin hx hb (by rw [hml]; exact hL.2.choose_spec.1.1.symm) hown (hts _ (i2 (by omega))) (hts _ (i5 (Or.inl rfl))) (hts _ i1) (hts _ gm_jwmin) (by omega) (by omega) (by omega) (by omega) hdg ?_
  have e : (if Int32.ofInt y < Int32.ofInt x then Int32.ofInt y else Int32.ofInt x) = Int32.ofInt (min x y) := by
    have := gm_lt y x
    rw [hx0, hy0] at this
    simp only [this]
    split
    · rename_i q; rw [Int.min_eq_right (by omega)]
    · rename_i q; rw [Int.min_eq_left (by omega)]
  rw [e]
  exact k2 α H locs ls _ gm_xt.rf hR hL ⟨_, _, rfl, rfl, hS⟩
theorem gm_xlk_spec {o ik x ic : Nat} (h : gm_xlk o ik = some (x, ic)) : x < 5 ∧ Jvm.Cond.classLink (gm_rn o) ik (gm_xn x) ∈ gm_T ∧ Jvm.Cond.initialized (gm_xn x) ∈ gm_T ∧ (∀ w ∈ gm_xat o ic x, (w ∈ gm_T ∨ w = .castable (gm_xn x) (gm_xn x) ∨ ∃ y ∈ gm_dcs, w = .declares y) ∧ vx_ot w = true) ∧ Bundle.fit (gm_xn x) = true ∧ ∀ y ∈ gm_xnm, Bundle.fit y = true := by
  unfold gm_xlk at h
  cases hr : gm_xl.find? (fun q => decide (q.1 = o ∧ q.2.1 = ik)) with
  | none => rw [hr] at h; cases h
  | some q =>
    rw [hr] at h
    have h1 := List.find?_some hr
    have h3 := List.all_eq_true.mp gm_xl_ok q (List.mem_of_find?_eq_some hr)
    obtain ⟨a1, a2, a3, a4, a5, a6⟩ := q
    simp only [decide_eq_true_eq] at h1
    obtain ⟨rfl, rfl⟩ := h1
    simp only [Option.map_some, Option.some.injEq, Prod.mk.injEq] at h
    obtain ⟨rfl, rfl⟩ := h
    simp only [gm_xck, Bool.and_eq_true, decide_eq_true_eq] at h3
    obtain ⟨⟨⟨⟨b1, b2⟩, b3⟩, b4⟩, b5, b6⟩ := h3
    refine ⟨b1, gm_T_in b2 rfl, gm_T_in b3 rfl, fun w hw => ?_, b5, fun y hy => List.all_eq_true.mp b6 y hy⟩
    have h4 := List.all_eq_true.mp b4 w hw
    simp only [gm_xok, Bool.and_eq_true, Bool.or_eq_true, decide_eq_true_eq] at h4
    refine ⟨?_, h4.2⟩
    rcases h4.1 with (q | q) | q
    · exact Or.inl (List.mem_filter.mpr ⟨gm_memH_in q.1, q.2⟩)
    · exact Or.inr (Or.inl q)
    · obtain ⟨y, hy, hy2⟩ := List.any_eq_true.mp q
      exact Or.inr (Or.inr ⟨y, hy, by simpa using hy2⟩)
end GT
section GTX
variable {p : Program} {l : Launch} {e : Env} {R : Room} {s : State} {m : MethodId} {args : Array Value} {below : List Frame} {meth : Method} {c : Code} {H : Heap} {locs : List Loc} {cells slots : Nat} {Q : State → Prop} {ls : Array Slot} {rest : List Value}
theorem gm_makeX {cc : ByteArray} {pc : Nat} (lw : Bool) (hexec : p.tables.exec = Jvm.exec) (hb : c.code = cc) (hl : l.stackTraces = false) {own cls text : String} {names : List String} {ik is ic sa ix : Nat} {rx : ByteArray} (x0 : decode rx 0 = .ok (.aload_n 0, 1)) (x1 : decode rx 1 = .ok (.aload_n 1, 1)) (x2 : decode rx 2 = .ok (.invokespecial ix, 3)) (x5 : decode rx 5 = .ok (.return_, 1)) {A : Nat → Prop}
    (hown : s.vm.findClass own = some m.cls) (hcls : Bundle.fit cls = true) (hnames : ∀ n ∈ names, Bundle.fit n = true)
    (hk : (Cond.classLink own ik cls).before args s = true) (hini : (Cond.initialized cls).before args s = true) (hstr : vk_R own is text sa s) (hat : ∀ w ∈ gm_atX own ic cls ix rx names, w.before args s = true)
    (hgood : ∀ w ∈ Cond.classLink own ik cls :: Cond.initialized cls :: gm_atX own ic cls ix rx names, vx_ot w = true)
    (hU : vx_Zq Bundle.tN "UNASSIGNED_STACK" Bundle.steD A s s.heap) (hN : vx_Zq Bundle.tN "SUPPRESSED_SENTINEL" Bundle.listD A s s.heap) (hS : va_S A s.heap H locs) (hsize : ls.size = c.maxLocals)
    (d0 : decode cc pc = .ok (.new ik, 3)) (d3 : decode cc (pc + 3) = .ok (.dup, 1)) (d4 : decode cc (pc + 4) = .ok (if lw = true then (.ldc_w is, 3) else (.ldc is, 2))) (d6 : decode cc (pc + (if lw = true then 7 else 6)) = .ok (.invokespecial ic, 3))
    (hRframes : names.length + 3 < R.frames) (hRlocals : (rest.map fun v => v.category).sum + (13 * (names.length + 1) + 43) ≤ R.locals) (hRcells : cells + 1 ≤ R.cells) (hRslots : slots + 6 ≤ R.slots)
    (kk : ∀ (q : Nat) (H1 : Heap) (ce : Cell), H1[q]? = some ce → ce.vm = .none → s.vm.findClass cls = some ce.cls → H.size ≤ H1.size → (∀ a : Nat, a < H.size → H1[a]? = H[a]?) → va_S A s.heap H1 locs → W p l e R s m args below meth c H1 locs (cells + 1) (slots + 6) Q (F0 m (pc + (if lw = true then 7 else 6) + 3) ls (.ref q :: rest))) :
    W p l e R s m args below meth c H locs cells slots Q (F0 m pc ls rest) := by
  intro T hT X
  subst hT
  have htr : e.platform.stackTraces = false := (show e.platform.stackTraces = l.stackTraces by rw [X.admits.platform]).trans hl
  have Y := vx_rebase X (R' := { frames := R.frames, locals := R.locals, cells := 1, slots := 6 }) (Nat.le_refl _) (Nat.le_refl _) hRcells hRslots
  obtain ⟨s', hA'⟩ : ∃ z, z = (T.setVm s.vm).setFrames (.invoking m args :: below) := ⟨_, rfl⟩
  rw [← hA'] at Y
  have hvm : s'.vm = s.vm := by rw [hA']; rfl
  have hhp : s'.heap = T.heap := by rw [hA']; rfl
  have hW0 : s.WarmedH s'.vm := by rw [hvm]; exact State.WarmedH.refl s
  have hat' : ∀ w ∈ gm_atX own ic cls ix rx names, w.before args s' = true := fun w hw => vx_ot_at hW0 hvm.symm (hgood w (List.mem_cons_of_mem _ (List.mem_cons_of_mem _ hw))) (hat w hw)
  have hk' : (Cond.classLink own ik cls).before args s' = true := vx_ot_at hW0 hvm.symm (hgood _ List.mem_cons_self) hk
  have hini' : (Cond.initialized cls).before args s' = true := vx_ot_at hW0 hvm.symm (hgood _ (List.mem_cons_of_mem _ List.mem_cons_self)) hini
  have hU' : vx_Zq Bundle.tN "UNASSIGNED_STACK" Bundle.steD A s' s'.heap := by rw [hhp]; exact vx_Zq.moved hW0.alike (hU.kept hS.2.1)
  have hN' : vx_Zq Bundle.tN "SUPPRESSED_SENTINEL" Bundle.listD A s' s'.heap := by rw [hhp]; exact vx_Zq.moved hW0.alike (hN.kept hS.2.1)
  have h : ∀ w ∈ gm_ownX own ic cls ix rx names, w.before args s' = true := vx_own hat' (vx_isRefq hU'.1) (vx_isRefq hN'.1) hU'.2.word hN'.2.word
  have hown' : s'.vm.findClass own = some m.cls := by rw [hvm]; exact hown
  have hins : (Cond.instantiable cls 6).before args s' = true := h _ (by simp [gm_ownX])
  obtain ⟨vm₁, cX, kX, hfX, hkX, -, -, X₁, st1⟩ := Y.newCold hexec (own := own) (C := cls) (index := ik) (n := 6) hown' hk' hins hini'
    (g := F0 m pc ls rest) rfl (by rw [hb]; exact d0) (Nat.le_refl _) (Nat.le_refl _)
  generalize hT1 : (T.setVm vm₁).pushCell { cls := cX, slots := kX.instanceTypes.map defaultValue, vm := .none } = T1 at X₁ st1
  have hcat : (Value.ref T.heap.size).category = 1 := rfl
  have hcellA : T1.heap[T.heap.size]? = some (freshCell cX kX) := by rw [← hT1]; exact State.heap_pushCell_size _ _
  have d3' : decode c.code (pc + 3) = .ok (.dup, 1) := by rw [hb]; exact d3
  have hstr' : vk_R own is text sa s' := vk_R.warm hW0 hstr
  obtain ⟨V, ce, L, Z, hL, hlt, hcl9, hvm9, st⟩ := gm_ctorMadeX X₁ hexec htr (own := own) (cls := cls) (names := names) (ic := ic) x0 x1 x2 x5 hown' hcls hnames h (fun x hx => nomatch hx) hfX hkX hcellA (by rw [hhp]; exact Nat.le_refl _) (msg := .ref sa) rfl
    (g := { method := m, pc := pc + (if lw = true then 7 else 6), locals := ls, stack := .ref sa :: .ref T.heap.size :: .ref T.heap.size :: rest, locked := none }) rfl hsize (rest := rest) rfl
    (by rw [hb]; exact d6) hRframes (by simp only [List.map_cons, List.sum_cons, hcat]; omega)
  have Z0 := Stand.forget (locs := []) Z (fun y hy => by rw [hL y hy, hhp]; exact Nat.le_refl _)
  obtain ⟨f1, f2⟩ := vx_frame Z0.same
  rw [hhp] at f1 f2
  have hh : (V.setCell T.heap.size ce).heap[T.heap.size]? = some ce := heapAt_setCell_self (s := V) ce hlt
  subst hA'
  have X5 := vx_back9 X Y Z0
  have X6 : Stand p l e R s m args below meth c (V.setCell T.heap.size ce) locs (cells + 1) (slots + 6) := { X5 with same := X5.same.mono (by omega) (by omega) }
  obtain ⟨t, a1, b1⟩ := kk T.heap.size (V.setCell T.heap.size ce).heap ce hh hvm9 (by rw [hcl9]; exact hfX) f1 (fun q hq => f2 q hq (fun z hz => nomatch hz)) ⟨Nat.le_trans hS.1 f1, fun q h1 h2 => (f2 q (Nat.lt_of_lt_of_le h1 hS.1) (fun z hz => nomatch hz)).trans (hS.2.1 q h1 h2), hS.2.2⟩ _ rfl X6
  refine ⟨t, st1 _ ?_, b1⟩
  show Steps p.tables e below (T1.setTop { method := m, pc := pc + 3, locals := ls, stack := .ref T.heap.size :: rest, locked := none }) _
  jvm_step X₁.here [X₁.here.top, hexec, d3', Value.category]
  cases lw with
  | true => exact gm_ldcW X₁ hexec (own := own) (text := text) (index := is) (a := sa) hown' hstr'.1 hstr'.2 (g := { method := m, pc := pc + 4, locals := ls, stack := .ref T.heap.size :: .ref T.heap.size :: rest, locked := none }) rfl (by rw [hb]; exact d4) _ (st _ a1)
  | false => exact X₁.ldcString hexec (own := own) (text := text) (index := is) (a := sa) hown' hstr'.1 hstr'.2 (g := { method := m, pc := pc + 4, locals := ls, stack := .ref T.heap.size :: .ref T.heap.size :: rest, locked := none }) rfl (by rw [hb]; exact d4) _ (st _ a1)
end GTX
section GTY
variable {X : Int → Int} {LX d bc bs mi pc : Nat} {L : gm_L} {st : List gm_V} {n : Nat} {K : gm_K} {R : gm_R} {M : gm_M} {Q : gm_Q}
theorem gm_throw {ik is ic x id : Nat} {lw : Bool} (hh : gm_hh mi = []) (h : gm_at mi pc = some (.new ik)) (hx : gm_xlk (gm_ow mi) ik = some (x, ic)) (h3 : gm_at mi (pc + 3) = some .dup) (h4 : gm_at mi (pc + 4) = some (if lw = true then .ldc_w is else .ldc is)) (h5 : gm_at mi (pc + (if lw = true then 7 else 6)) = some (.invokespecial ic)) (h6 : gm_at mi (pc + (if lw = true then 10 else 9)) = some .athrow) (hs : gm_sld (gm_ow mi) is = some id) (hst : (st.map gm_cat).sum ≤ 8) (hd' : 6 ≤ d) (hb1 : 1 ≤ bc) (hb2 : 6 ≤ bs) (hq : Q (.inr x) n K R M) : gm_Wp X LX d bc bs mi pc L st n K R M Q := by
  intro p l e Rm s m args below meth c D ti adK adV A α0 n0 mc ms hcx hev hd hd2 hmc hms hA α H locs cells slots ls sv hxt hc1 hc2 hR hL hS
  obtain ⟨hx9, hb, hml, hown, -, hlk, hts, -, hl, -, htab⟩ := _root_.id hcx
  obtain ⟨hKn, hP, hD, hSv, hRv⟩ := _root_.id hR
  obtain ⟨x1, x2, x3, x4, x5, x6⟩ := gm_xlk_spec hx
  obtain ⟨hid, tx, hmem⟩ := gm_sld_spec hs
  have hZ := hev.2.1 _ hmem
  have d0 := gm_dec hcx h rfl
  have d3 := gm_dec hcx h3 rfl
  have hsum : (sv.map fun v => v.category).sum ≤ 8 := by rw [gm_sum_eq hS]; exact hst
  have hat : ∀ w ∈ gm_xat (gm_ow mi) ic x, w.before args s = true := by
    intro w hw
    rcases (x4 w hw).1 with q | q | ⟨y, hy, q⟩
    · exact hts _ q
    · have h9 := hev.2.2.2.2.2.2.2.2.2.2.2.1 x x x1 x1
      rw [if_pos rfl] at h9
      rw [q]
      exact va_Nw.use rfl h9
    · rw [q]
      exact va_Nw.use rfl (hev.2.2.2.2.2.2.2.2.2.2.2.2 y hy)
  have hgood : ∀ w ∈ Jvm.Cond.classLink (gm_rn (gm_ow mi)) ik (gm_xn x) :: Jvm.Cond.initialized (gm_xn x) :: gm_xat (gm_ow mi) ic x, vx_ot w = true := by
    intro w hw
    rcases List.mem_cons.mp hw with rfl | hw
    · rfl
    · rcases List.mem_cons.mp hw with rfl | hw
      · rfl
      · exact (x4 w hw).2
  have hout : ∀ pc' : Nat, ∀ z ∈ c.exceptionTable.toList, covers z pc' = false := by
    intro pc' z hz
    rw [htab, hh] at hz
    cases hz
  have hXC : ∀ t : State, s.vm.Alike t.vm → H.size ≤ t.heap.size → (∀ q : Nat, q < H.size → t.heap[q]? = H[q]?) → gm_XC D ti A α0 n0 Q (gm_xn x) s t := by
    intro t hvm hz hk
    refine ⟨⟨x, α, n, K, R, M, rfl, x1, hq, hxt, va_K.moved hvm hKn, hP.kept (fun k y hy => hk y.1 ((hP k y hy).lt)), hD, hRv⟩, Nat.le_trans hSv.1 hz, fun q h1 h2 => ?_⟩
    rw [hk q (Nat.lt_of_lt_of_le h1 hSv.1)]
    exact hSv.2.1 q h1 h2
  have hsz : ls.size = c.maxLocals := by rw [hml]; exact hL.2.choose_spec.1.1
  by_cases hx4 : x = 4
  · have e4 : gm_xat (gm_ow mi) ic x = gm_atX (gm_rn (gm_ow mi)) ic (gm_xn x) gm_xix gm_xrx gm_xnm := by unfold gm_xat; rw [if_pos hx4]
    rw [e4] at hat hgood
    have d4 : decode (gm_bc mi) (pc + 4) = .ok (if lw = true then (.ldc_w is, 3) else (.ldc is, 2)) := by
      cases lw with
      | true => exact gm_dec hcx h4 rfl
      | false => exact gm_dec hcx h4 rfl
    have d6 := gm_dec hcx h5 rfl
    have d9 := gm_dec hcx h6 rfl
    refine gm_makeX lw hx9 hb hl (names := gm_xnm) (ix := gm_xix) (rx := gm_xrx) (by decide +kernel) (by decide +kernel) (by decide +kernel) (by decide +kernel) hown x5 x6 (hts _ x2) (hts _ x3) hZ hat hgood hev.2.2.1 hev.2.2.2.1 hSv hsz d0 d3 d4 d6 (by show 2 + 3 < _; omega) (by show _ + (13 * (2 + 1) + 43) ≤ _; omega) (by omega) (by omega) (fun q H1 ce h1 h2 h3 h7 h8 h9 => ?_)
    refine vx_athrow hx9 hb (pc := pc + (if lw = true then 7 else 6) + 3) (by cases lw <;> exact d9) (vx_out (ce := ce) (E := gm_xn x) (hout _) hlk h1 h2 h3 (fun t ht hvm => hXC t hvm (by rw [ht]; exact h7) (fun q hq => by rw [ht]; exact h8 q hq)) h9.2.2 (by omega) (by omega))
  have e4 : gm_xat (gm_ow mi) ic x = vx_atS (gm_rn (gm_ow mi)) ic (gm_xn x) gm_xnm := by unfold gm_xat; rw [if_neg hx4]
  rw [e4] at hat hgood
  cases lw with
  | true =>
    have d4 := gm_dec hcx h4 rfl
    have d7 := gm_dec hcx h5 rfl
    have d10 := gm_dec hcx h6 rfl
    exact vx_throwSW (names := gm_xnm) hx9 hb hl hown x5 x6 (hts _ x2) (hts _ x3) hZ hat hgood hev.2.2.1 hev.2.2.2.1 hSv hsz d0 d3 d4 d7 d10 (hout _) (by show 2 + 3 < _; omega) (by show _ + (13 * (2 + 1) + 43) ≤ _; omega) (by omega) (by omega) hlk hXC hSv.2.2 (by omega) (by omega)
  | false =>
    have d4 := gm_dec hcx h4 rfl
    have d6 := gm_dec hcx h5 rfl
    have d9 := gm_dec hcx h6 rfl
    exact vx_throwS (names := gm_xnm) hx9 hb hl hown x5 x6 (hts _ x2) (hts _ x3) hZ hat hgood hev.2.2.1 hev.2.2.2.1 hSv hsz d0 d3 d4 d6 d9 (hout _) (by show 2 + 3 < _; omega) (by show _ + (13 * (2 + 1) + 43) ≤ _; omega) (by omega) (by omega) hlk hXC hSv.2.2 (by omega) (by omega)
end GTY
end
/-! 11c.acp -/
section
/-! SYSTEM.ARRAYCOPY: class of the code, place; word. Laid by wip/am/gen_tables.py -/
noncomputable def gm_acl : List ((Nat × Nat) × Nat) := [(((2 : Nat), (40 : Nat)), (756 : Nat)), (((5 : Nat), (150 : Nat)), (1182 : Nat))]
noncomputable def gm_ac (o ix : Nat) : Bool := (gm_acl.lookup (o, ix)).isSome
theorem gm_acl_ok : gm_acl.all (fun q => decide (gm_tb (q.2) = some (.methodLink (gm_rn q.1.1) q.1.2 arraycopyName))) = true := by decide +kernel
set_option maxRecDepth 100000 in
theorem gm_ac1 : (.native arraycopyName : Jvm.Cond) ∈ gm_T := gm_T_in (i := 758) (by decide +kernel) rfl
set_option maxRecDepth 100000 in
theorem gm_ac2 : (.static arraycopyName : Jvm.Cond) ∈ gm_T := gm_T_in (i := 757) (by decide +kernel) rfl
set_option maxRecDepth 100000 in
theorem gm_ac3 : (.initialized "java/lang/System" : Jvm.Cond) ∈ gm_T := gm_T_in (i := 168) (by decide +kernel) rfl
end
/-! 11d.cpy -/
section
/-! A ROW COPIED by System.arraycopy. -/
section GA2
variable {X : Int → Int} {LX d bc bs mi pc : Nat} {L : gm_L} {st : List gm_V} {n : Nat} {K : gm_K} {R : gm_R} {M : gm_M} {Q : gm_Q}
/-- m numbers of the row k1 from sp on, copied into the row k2 from dp on -/
noncomputable def gm_cpM (M : gm_M) (k1 k2 : Nat) (sp dp m : Int) : gm_M := fun a b => if a = k2 ∧ dp ≤ b ∧ b < dp + m then M k1 (sp + (b - dp)) else M a b
theorem gm_cpM_ne {k1 k2 k : Nat} {sp dp m : Int} (h : k ≠ k2) (ti : Nat → ClassId) (α : Nat → Nat) : gm_en ti α K R (gm_cpM M k1 k2 sp dp m) k = gm_en ti α K R M k := by
  have e : gm_cpM M k1 k2 sp dp m k = M k := by
    funext b
    unfold gm_cpM
    rw [if_neg (fun q => h q.1)]
  unfold gm_en gm_fs
  rw [e]
theorem gm_p_acopy {ix k1 k2 : Nat} {sp dp m : Int} (h : gm_at mi pc = some (.invokestatic ix)) (ha : gm_ac (gm_ow mi) ix = true) (hk1 : 1 ≤ k1 ∧ k1 ≤ n) (hK1 : (K k1).1 = 0) (hk2 : 1 ≤ k2 ∧ k2 ≤ n) (hK2 : (K k2).1 = 0) (i1 : gm_w sp = sp) (i2 : gm_w dp = dp) (i3 : gm_w m = m) (h1 : 0 ≤ sp) (h2 : 0 ≤ dp) (h3 : 0 ≤ m) (h4 : sp + m ≤ (K k1).2) (h5 : dp + m ≤ (K k2).2) (hst : (st.map gm_cat).sum ≤ 8) (hd' : 1 ≤ d) : gm_Sp X LX d mi pc L (gm_vi m :: gm_vi dp :: gm_vr k2 :: gm_vi sp :: gm_vr k1 :: st) n K R M (pc + 3) L st n K R (gm_cpM M k1 k2 sp dp m) 0 0 := by
  intro p l e Rm s me args below meth c D ti adK adV A hcx hev hd hd2 hA α H locs cells slots ls sv Q' hc1 hc2 hR hL hS kk
  obtain ⟨w3, sv, rfl, g3, hS⟩ := hS
  obtain ⟨w2, sv, rfl, g2, hS⟩ := hS
  obtain ⟨wb, sv, rfl, ⟨rfl, -⟩, hS⟩ := hS
  obtain ⟨w1, sv, rfl, g1, hS⟩ := hS
  obtain ⟨wa, sv, rfl, ⟨rfl, -⟩, hS⟩ := hS
  cases g1; cases g2; cases g3
  have hdg := gm_dec hcx h rfl
  obtain ⟨hx, hb, hml, hown, -, -, hts, -⟩ := _root_.id hcx
  obtain ⟨hKn, hP, hD, hSv, hRv⟩ := _root_.id hR
  obtain ⟨q, hq⟩ := Option.isSome_iff_exists.mp ha
  have h9 := List.all_eq_true.mp gm_acl_ok _ (gm_lookup2 _ _ _ hq)
  simp only [decide_eq_true_eq] at h9
  have he1 := gm_wl_at (ti := ti) (α := α) (K := K) (R := R) (M := M) hk1.1 hk1.2
  have he2 := gm_wl_at (ti := ti) (α := α) (K := K) (R := R) (M := M) hk2.1 hk2.2
  have e1 : gm_en ti α K R M k1 = .inl (ti 0, (K k1).2, .inl fun j => Int32.ofInt (M k1 j)) := by unfold gm_en; rw [hK1]
  have e2 : ∀ M : gm_M, gm_en ti α K R M k2 = .inl (ti 0, (K k2).2, .inl fun j => Int32.ofInt (M k2 j)) := by intro M; unfold gm_en; rw [hK2]
  rw [e1] at he1
  rw [e2] at he2
  rw [gm_rf_pos hk1.1 (Nat.lt_of_le_of_lt hk1.2 hRv.1), gm_rf_pos hk2.1 (Nat.lt_of_le_of_lt hk2.2 hRv.1)]
  have n1 : ((Int32.ofInt sp).toNatClampNeg : Int) = sp := by rw [gm_cl, i1]; omega
  have n2 : ((Int32.ofInt dp).toNatClampNeg : Int) = dp := by rw [gm_cl, i2]; omega
  have n3 : ((Int32.ofInt m).toNatClampNeg : Int) = m := by rw [gm_cl, i3]; omega
  have lt0 : ∀ z : Int, gm_w z = z → 0 ≤ z → ¬ Int32.ofInt z < 0 := by
    intro z hz hz0 hlt
    have h8 : Int32.ofInt z < Int32.ofInt 0 := hlt
    rw [gm_lt, hz] at h8
    have : gm_w 0 = 0 := by decide
    omega
  have hnf : nativeFrameWords "java/lang/System" "arraycopy" 5 ≤ 200 := by decide +kernel
  have hsum : (sv.map fun v => v.category).sum ≤ 8 := by rw [gm_sum_eq hS]; exact hst
  refine va_copyi hx hb (by rw [hml]; exact hL.2.choose_spec.1.1.symm) hown (hts _ (gm_T_in h9 rfl)) (hts _ gm_ac1) (hts _ gm_ac2) (hts _ gm_ac3) hKn hP hD hSv (k1 - 1) (k2 - 1) 0 0 he1 he2 rfl rfl rfl (lt0 _ i1 h1) (lt0 _ i2 h2) (lt0 _ i3 h3) (by omega) (by omega) (fun _ _ => rfl) (by omega) (by omega) hdg fun H1 locs1 p1 p2 p3 => ?_
  have e3 : (va_cpy (fun j : Nat => Int32.ofInt (M k1 j)) (fun j : Nat => Int32.ofInt (M k2 j)) (Int32.ofInt sp).toNatClampNeg (Int32.ofInt dp).toNatClampNeg (Int32.ofInt m).toNatClampNeg) = fun j : Nat => Int32.ofInt (gm_cpM M k1 k2 sp dp m k2 j) := by
    funext j
    unfold va_cpy gm_cpM
    by_cases e : (Int32.ofInt dp).toNatClampNeg ≤ j ∧ j < (Int32.ofInt dp).toNatClampNeg + (Int32.ofInt m).toNatClampNeg
    · rw [if_pos e, if_pos ⟨rfl, by omega, by omega⟩]
      have e5 : (((Int32.ofInt sp).toNatClampNeg + (j - (Int32.ofInt dp).toNatClampNeg) : Nat) : Int) = sp + ((j : Int) - dp) := by omega
      show Int32.ofInt (M k1 (((Int32.ofInt sp).toNatClampNeg + (j - (Int32.ofInt dp).toNatClampNeg) : Nat) : Int)) = _
      rw [e5]
    · rw [if_neg e, if_neg (fun q => e ⟨by omega, by omega⟩)]
  rw [e3, gm_wl_set (M' := gm_cpM M k1 k2 sp dp m) (R' := R) hk2.1 hk2.2 (e2 _) (fun k' hk' => gm_cpM_ne hk' ti α)] at p1 p2
  exact kk α H1 locs1 ls sv gm_xt.rf ⟨hKn, p1, p2, p3, hRv⟩ hL hS
end GA2
end
/-! 11e.upc -/
section
/-! CALLS of a method that is inherited or abstract where it is named: (class of the code, place, class of the object): the method, its name there, its owner; words. Laid by wip/am/gen_tables.py -/
noncomputable def gm_ul : List ((Nat × Nat × Nat) × Nat × MethodName × String × Nat × Nat × Nat × Nat × Nat) := [(((0 : Nat), (117 : Nat), (7 : Nat)), (72 : Nat), ⟨"GlacierMail$ValleyReader", "readText", "(I)I"⟩, "GlacierMail$TextReader", (814 : Nat), (815 : Nat), (817 : Nat), (818 : Nat), (163 : Nat)), (((10 : Nat), (24 : Nat), (9 : Nat)), (73 : Nat), ⟨"GlacierMail$TextReader", "clear", "()V"⟩, "GlacierMail$TextReader", (820 : Nat), (822 : Nat), (823 : Nat), (824 : Nat), (166 : Nat)), (((10 : Nat), (24 : Nat), (7 : Nat)), (74 : Nat), ⟨"GlacierMail$TextReader", "clear", "()V"⟩, "GlacierMail$TextReader", (820 : Nat), (822 : Nat), (827 : Nat), (828 : Nat), (164 : Nat)), (((10 : Nat), (34 : Nat), (9 : Nat)), (79 : Nat), ⟨"GlacierMail$TextReader", "readLine", "()Z"⟩, "GlacierMail$TextReader", (845 : Nat), (847 : Nat), (848 : Nat), (849 : Nat), (166 : Nat)), (((10 : Nat), (34 : Nat), (7 : Nat)), (103 : Nat), ⟨"GlacierMail$TextReader", "readLine", "()Z"⟩, "GlacierMail$TextReader", (845 : Nat), (847 : Nat), (968 : Nat), (969 : Nat), (164 : Nat)), (((0 : Nat), (139 : Nat), (9 : Nat)), (72 : Nat), ⟨"GlacierMail$LawReader", "readText", "(I)I"⟩, "GlacierMail$TextReader", (1162 : Nat), (1163 : Nat), (1164 : Nat), (818 : Nat), (163 : Nat))]
noncomputable def gm_wok (p : Nat) (w : Jvm.Cond) : Bool := decide (gm_tb (p) = some w) && goodWord w
noncomputable def gm_uck : (Nat × Nat × Nat) × Nat × MethodName × String × Nat × Nat × Nat × Nat × Nat → Bool
  | ((o, ix, ci), mj, x, ow, p1, p2, p3, p4, p5) => gm_wok p1 (.methodLink (gm_rn o) ix x) && (gm_wok p2 (.sameMethod x.cls ow x.name x.desc) && (gm_wok p3 (.selects (gm_cn ci) x (gm_mn mj)) && (gm_wok p4 (.instanceMethod (gm_mn mj)) && (gm_wok p5 (.initialized (gm_mn mj).cls) && (decide (⟨ow, x.name, x.desc⟩ ∈ gm_dcs) && (decide (ow ≠ "java/lang/invoke/MethodHandle" ∧ ow ≠ "java/lang/invoke/VarHandle") && (decide (x.desc = (gm_mn mj).desc) && (decide (mj < 370) && (decide (ci < 12) && (decide (gm_hh mj = []) && decide (gm_ow mj ≠ gm_mxi)))))))))))
set_option maxRecDepth 100000 in
theorem gm_ul_ok : gm_ul.all gm_uck = true := by decide +kernel
noncomputable def gm_up (o ix ci : Nat) : Option Nat := (gm_ul.find? fun q => decide (q.1 = (o, ix, ci))).map fun q => q.2.1
end
/-! 11f.upv -/
section
/-! A CALL of a method that is inherited, or abstract where it is named. -/
section GUP
variable {X : Int → Int} {LX d bc bs mi pc : Nat} {L : gm_L} {st : List gm_V} {n : Nat} {K : gm_K} {R : gm_R} {M : gm_M} {Q : gm_Q}
theorem gm_up_spec {o ix ci mj : Nat} (h : gm_up o ix ci = some mj) : ∃ (x : MethodName) (ow : String), Jvm.Cond.methodLink (gm_rn o) ix x ∈ gm_T ∧ Jvm.Cond.sameMethod x.cls ow x.name x.desc ∈ gm_T ∧ Jvm.Cond.selects (gm_cn ci) x (gm_mn mj) ∈ gm_T ∧ Jvm.Cond.instanceMethod (gm_mn mj) ∈ gm_T ∧ Jvm.Cond.initialized (gm_mn mj).cls ∈ gm_T ∧ ⟨ow, x.name, x.desc⟩ ∈ gm_dcs ∧ (ow ≠ "java/lang/invoke/MethodHandle" ∧ ow ≠ "java/lang/invoke/VarHandle") ∧ x.desc = (gm_mn mj).desc ∧ mj < 370 ∧ ci < 12 ∧ gm_hh mj = [] ∧ gm_ow mj ≠ gm_mxi := by
  unfold gm_up at h
  cases hq : gm_ul.find? fun q => decide (q.1 = (o, ix, ci)) with
  | none => rw [hq] at h; cases h
  | some q =>
    rw [hq] at h
    have h1 := List.find?_some hq
    have h2 := List.all_eq_true.mp gm_ul_ok q (List.mem_of_find?_eq_some hq)
    obtain ⟨q1, mj', x, ow, p1, p2, p3, p4, p5⟩ := q
    have h1 : q1 = (o, ix, ci) := of_decide_eq_true h1
    subst h1
    have e : mj' = mj := by simpa using h
    subst e
    simp only [gm_uck, gm_wok, Bool.and_eq_true, decide_eq_true_eq] at h2
    obtain ⟨a1, a2, a3, a4, a5, a6, a7, a8, a9, a10, a11, a12⟩ := h2
    exact ⟨x, ow, gm_T_in a1.1 a1.2, gm_T_in a2.1 a2.2, gm_T_in a3.1 a3.2, gm_T_in a4.1 a4.2, gm_T_in a5.1 a5.2, a6, a7, a8, a9, a10, a11, a12⟩
theorem gm_c_up {ix mj k ci d' bc' bs' : Nat} {as : List gm_V} (h : gm_at mi pc = some (.invokevirtual ix)) (hc : gm_up (gm_ow mi) ix ci = some mj) (hh : gm_hh mi = []) (hk : 1 ≤ k ∧ k ≤ n) (hK : (K k).1 = ci + 4) (hna : as.length = gm_na mj) (hcat : ∀ v ∈ as, ¬ gm_sort v = 1) (hlen : as.length + 1 ≤ gm_ml mj) (hst : (st.map gm_cat).sum ≤ 8) (hd' : d' + 1 ≤ d) (hb1 : bc' ≤ bc) (hb2 : bs' ≤ bs)
    (hW : gm_Wp X LX d' bc' bs' mj 0 (gm_ent mj (gm_vr k :: as)) [] n K R M (gm_cont X LX d (bc - bc') (bs - bs') mi (pc + 3) L st Q)) : gm_Wp X LX d bc bs mi pc L (as.reverse ++ gm_vr k :: st) n K R M Q := by
  intro p l e Rm s m args below meth c D ti adK adV A α0 n0 mc ms hcx hev hd hd2 hmc hms hA α H locs cells slots ls sv hxt hc1 hc2 hR hL hS
  obtain ⟨w1, w2, rfl, hw1, w, sv2, rfl, ⟨rfl, hkn⟩, hS2⟩ := gm_sr_app hS
  have hdg := gm_dec hcx h rfl
  obtain ⟨hx, hb, hml, hown, -, -, hts, -, hl, -⟩ := id hcx
  obtain ⟨hKn, hP, hD, hSv, hRv⟩ := id hR
  obtain ⟨x, ow, u1, u2, u3, u4, u5, u6, u7, u8, hj, hci, hhj, hmx⟩ := gm_up_spec hc
  obtain ⟨j1, -, j3, j4, j5, -⟩ := gm_mck_spec hj
  have hA1 := gm_sub_A hD hSv hA
  have hvs : gm_sr α adK n (gm_vr k :: as) (Value.ref (α k) :: w1.reverse) := ⟨_, _, rfl, ⟨(gm_rf_pos hk.1 (Nat.lt_of_le_of_lt hk.2 hRv.1)).symm, hkn⟩, by have := gm_sr_rev hw1; rwa [List.reverse_reverse] at this⟩
  have hM := gm_met (adV := adV) (ti := ti) (D := D) hj hmx hhj l hl hW hvs (by intro v hv; rcases List.mem_cons.mp hv with rfl | hv; exact (by simp [gm_sort]); exact hcat v hv) (by simpa using hlen) hP (hD.self (sz := H.size)) hRv (fun q h => Or.inr h)
  have he := gm_wl_at (ti := ti) (α := α) (K := K) (R := R) (M := M) hk.1 hk.2
  rw [gm_en_obj hK] at he
  obtain ⟨T, N, hcs, -⟩ := gm_cs_get hci
  have hcode : gm_cwd mj = .code (gm_mn mj) (gm_bc mj) (gm_ml mj) (gm_rt mj) := by unfold gm_cwd; rw [if_pos hhj]
  have hwl : w1.length = as.length := by have := (gm_sr_at hw1).1; simpa using this
  have hG : GoodIn gm_T (va_wsU (gm_rn (gm_ow mi)) ix (gm_cn ci) ow x (gm_mn mj) (gm_cwd mj :: gm_T)) := by
    intro w hw
    simp only [va_wsU, List.cons_append, List.nil_append, List.mem_cons] at hw
    rcases hw with rfl | rfl | rfl | rfl | rfl | rfl | hw
    · exact gm_T_good _ u1
    · exact gm_T_good _ u2
    · exact gm_T_good _ u3
    · exact gm_T_good _ u4
    · exact gm_T_good _ u5
    · exact gm_T_good _ j1
    · exact gm_T_good _ hw
  rw [gm_rf_pos hk.1 (Nat.lt_of_le_of_lt hk.2 hRv.1)]
  refine gm_tail (bc' := bc') (bs' := bs') hh hcx hev hd hd2 hmc hms hA hxt hb1 hb2 hc1 hc2 hSv hL hS2 hA1 (a := (Value.ref (α k) :: w1.reverse).toArray) ?_
  refine vx_runU (As := w1.reverse) (n := gm_na mj) (index := ix) (C := gm_cn ci) (owner := ow) (x := x) ⟨hx, hb, hml, hown, hts⟩ hM (va_cwA (rm := { frames := d', cells := bc', slots := bs', locals := d' * 300 }) (gm_na mj) hts hG (by rw [hcode]) rfl rfl (hev.2.2.2.2.2.2.2.2.2.2.2.2 _ u6) ⟨u7.1, u7.2, by rw [u8]; exact j4⟩ ⟨by show d' + 1 ≤ _; omega, by show 8 + (gm_ml mj + 11) + d' * 300 ≤ _; omega⟩) ⟨gm_blind, ?_, fun U hU hWm => ⟨rfl, hU, gm_Ev_to hev hWm (by rw [hU]; exact hSv.1) (fun a h1 h2 => by rw [hU]; exact hSv.2.1 a h1 h2) hA1, va_K.moved hWm.alike hKn⟩⟩ rfl (by rw [List.length_reverse, hwl, hna]) ?_ (by rw [List.reverse_reverse]) (lv_room (by rw [gm_sum_eq hS2]; exact hst)) hdg ⟨by omega, by omega⟩
  · exact va_recv hKn hP hcs he
  · exact hL.2.choose_spec.1.1
end GUP
end
/-! 11g.ctc -/
section
/-! WHAT IS CAUGHT: class of the code, place; the number of the class caught; word. Laid by wip/am/gen_tables.py -/
noncomputable def gm_ctl : List ((Nat × Nat) × Nat × Nat) := [(((15 : Nat), (13 : Nat)), (0 : Nat), (808 : Nat)), (((15 : Nat), (15 : Nat)), (1 : Nat), (809 : Nat)), (((15 : Nat), (28 : Nat)), (3 : Nat), (1214 : Nat)), (((15 : Nat), (37 : Nat)), (4 : Nat), (1259 : Nat)), (((15 : Nat), (57 : Nat)), (2 : Nat), (1359 : Nat))]
noncomputable def gm_ctc (o ix : Nat) : Option Nat := (gm_ctl.lookup (o, ix)).map fun q => q.1
theorem gm_ctl_ok : gm_ctl.all (fun q => decide (q.2.1 < 5) && decide (gm_tb (q.2.2) = some (.classLink (gm_rn q.1.1) q.1.2 (gm_xn q.2.1)))) = true := by decide +kernel
end
/-! 11h.hnd -/
section
/-! A CALLEE'S THROW goes on at this method's handler. -/
/-- none: not told; some none: not caught here; some (some h): caught, it goes on at h -/
noncomputable def gm_hit (o pc x : Nat) : Bool → List (Nat × Nat × Nat × Nat) → Option (Option Nat)
  | fl, [] => if fl = true then none else some none
  | fl, q :: r => if q.1 ≤ pc ∧ pc < q.2.1 then (if q.2.2.2 = 0 then none else match gm_ctc o q.2.2.2 with
    | some y => if y = x then some (some q.2.2.1) else gm_hit o pc x true r
    | none => none) else gm_hit o pc x fl r
theorem gm_hit_some {o pc x h : Nat} : ∀ {rows : List (Nat × Nat × Nat × Nat)} {fl : Bool}, gm_hit o pc x fl rows = some (some h) → ∃ pre q suf, rows = pre ++ q :: suf ∧ q.2.2.1 = h ∧ (q.1 ≤ pc ∧ pc < q.2.1) ∧ ¬ q.2.2.2 = 0 ∧ gm_ctc o q.2.2.2 = some x ∧ ∀ z ∈ pre, ¬ (z.1 ≤ pc ∧ pc < z.2.1) ∨ (¬ z.2.2.2 = 0 ∧ ∃ y, gm_ctc o z.2.2.2 = some y ∧ ¬ y = x) := by
  intro rows
  induction rows with
  | nil => intro fl h; unfold gm_hit at h; split at h <;> cases h
  | cons q r ih =>
    intro fl h1
    unfold gm_hit at h1
    split at h1
    · rename_i e1
      split at h1
      · cases h1
      · rename_i e2
        cases hc : gm_ctc o q.2.2.2 with
        | none => rw [hc] at h1; cases h1
        | some y =>
          rw [hc] at h1
          dsimp only at h1
          split at h1
          · rename_i e3
            cases h1
            subst e3
            exact ⟨[], q, r, rfl, rfl, e1, e2, hc, fun z hz => nomatch hz⟩
          · rename_i e3
            obtain ⟨pre, q', suf, a1, a2, a3, a4, a5, a6⟩ := ih h1
            refine ⟨q :: pre, q', suf, by rw [a1]; rfl, a2, a3, a4, a5, fun z hz => ?_⟩
            rcases List.mem_cons.mp hz with rfl | hz
            · exact .inr ⟨e2, y, hc, e3⟩
            · exact a6 z hz
    · rename_i e1
      obtain ⟨pre, q', suf, a1, a2, a3, a4, a5, a6⟩ := ih h1
      refine ⟨q :: pre, q', suf, by rw [a1]; rfl, a2, a3, a4, a5, fun z hz => ?_⟩
      rcases List.mem_cons.mp hz with rfl | hz
      · exact .inl e1
      · exact a6 z hz
theorem gm_hit_none {o pc x : Nat} : ∀ {rows : List (Nat × Nat × Nat × Nat)} {fl : Bool}, gm_hit o pc x fl rows = some none → ∀ z ∈ rows, ¬ (z.1 ≤ pc ∧ pc < z.2.1) ∨ fl = true := by
  intro rows
  induction rows with
  | nil => intro fl _ z hz; cases hz
  | cons q r ih =>
    intro fl h1 z hz
    unfold gm_hit at h1
    split at h1
    · split at h1
      · cases h1
      · cases hc : gm_ctc o q.2.2.2 with
        | none => rw [hc] at h1; cases h1
        | some y =>
          rw [hc] at h1
          dsimp only at h1
          split at h1
          · cases h1
          · exfalso
            clear ih hz
            induction r with
            | nil => unfold gm_hit at h1; cases h1
            | cons q2 r2 ih2 =>
              unfold gm_hit at h1
              split at h1
              · split at h1
                · cases h1
                · cases hc2 : gm_ctc o q2.2.2.2 with
                  | none => rw [hc2] at h1; cases h1
                  | some y2 =>
                    rw [hc2] at h1
                    dsimp only at h1
                    split at h1
                    · cases h1
                    · exact ih2 h1
              · exact ih2 h1
    · rename_i e1
      rcases List.mem_cons.mp hz with rfl | hz
      · exact .inl e1
      · exact ih h1 z hz
section GH
variable {X : Int → Int} {LX d bc bs mi pc : Nat} {L : gm_L} {st : List gm_V} {n : Nat} {K : gm_K} {R : gm_R} {M : gm_M} {Q : gm_Q}
theorem gm_cov0 {q : Nat × Nat × Nat × Nat} {pc : Nat} (h : ¬ (q.1 ≤ pc ∧ pc < q.2.1)) : covers ⟨q.1, q.2.1, q.2.2.1, q.2.2.2⟩ pc = false := by
  simp only [covers]
  simpa using h
theorem gm_cov1 {q : Nat × Nat × Nat × Nat} {pc : Nat} (h : q.1 ≤ pc ∧ pc < q.2.1) : covers ⟨q.1, q.2.1, q.2.2.1, q.2.2.2⟩ pc = true := by
  simp only [covers]
  simpa using h
/-- what a callee owes a caller with handlers -/
noncomputable def gm_contH (X : Int → Int) (LX d bc bs mi pc pc' : Nat) (L : gm_L) (st : List gm_V) (Q : gm_Q) : gm_Q := fun o n K R M => match o with
  | .inl u => gm_Wp X LX d bc bs mi pc' L (u.toList ++ st) n K R M Q
  | .inr x => match gm_hit (gm_ow mi) pc x false (gm_hh mi) with
    | some (some h) => gm_Wp X LX d bc bs mi h L [gm_vo 4000] n K R M Q
    | some none => Q (.inr x) n K R M
    | none => False
theorem gm_tailH {p : Program} {l : Launch} {e : Env} {Rm : Room} {s : State} {m : MethodId} {args : Array Value} {below : List Frame} {meth : Method} {c : Code} {H : Heap} {locs : List Loc} {cells slots bc' bs' mc ms n0 : Nat} {D : va_G} {ti : Nat → ClassId} {adK adV α α0 : Nat → Nat} {A A1 : Nat → Prop} {a : Array Value} {ls : Array Slot} {sv0 sv : List Value}
    (hcx : gm_Cx mi p l s m args meth c) (hev : gm_Ev X LX adK adV A s) (hd : d ≤ Rm.frames) (hd2 : d * 300 ≤ Rm.locals) (hmc : mc ≤ Rm.cells) (hms : ms ≤ Rm.slots) (hA : ∀ q, s.heap.size ≤ q → A q) (hxt : gm_xt α0 n0 α n) (hb1 : bc' ≤ bc) (hb2 : bs' ≤ bs) (hc1 : cells + bc ≤ mc) (hc2 : slots + bs ≤ ms) (hSv : va_S A s.heap H locs) (hL : gm_lr α adK n (gm_ml mi) L ls) (hS : gm_sr α adK n st sv) (hA1 : ∀ q, A1 q → A q)
    (hr : vx_Run p l e Rm s m args below meth c H locs cells slots bc' bs' (F0 m pc ls sv0) sv (gm_QC D ti adK A1 α n (gm_contH X LX d (bc - bc') (bs - bs') mi pc (pc + 3) L st Q) a) (gm_XC D ti A1 α n (gm_contH X LX d (bc - bc') (bs - bs') mi pc (pc + 3) L st Q)) A1) :
    W p l e Rm s m args below meth c H locs cells slots (vx_MQ below (gm_QC D ti adK A α0 n0 Q) (gm_XC D ti A α0 n0 Q) args s mc ms A) (F0 m pc ls sv0) := by
  refine gm_after hr hSv hA1 (fun v u α' n' K' R' M' H1 locs1 ho hq hx9 hk hp hdd hrv hs9 => ?_) (fun x ce q9 α' n' K' R' M' H1 locs1 hx5 hq hx9 hk hp hdd hrv hs9 hce hcv hcl => ?_)
  · refine hq p l e Rm s m args below meth c D ti adK adV A α0 n0 mc ms hcx hev hd hd2 hmc hms hA α' H1 locs1 (cells + bc') (slots + bs') ls (v.toList ++ sv) (hxt.trans hx9) (by omega) (by omega) ⟨hk, hp, hdd, hs9, hrv⟩ (gm_lr_ext hx9 hL) ?_
    cases u with
    | none => cases ho; exact gm_sr_ext hx9 hS
    | some u => obtain ⟨w, rfl, hw⟩ := ho; exact ⟨w, sv, rfl, hw, gm_sr_ext hx9 hS⟩
  · have htab : c.exceptionTable.toList = tableOf (gm_hh mi) := hcx.2.2.2.2.2.2.2.2.2.2
    have hq2 : (match gm_hit (gm_ow mi) pc x false (gm_hh mi) with
      | some (some h) => gm_Wp X LX d (bc - bc') (bs - bs') mi h L [gm_vo 4000] n' K' R' M' Q
      | some none => Q (.inr x) n' K' R' M'
      | none => False) := hq
    cases hhit : gm_hit (gm_ow mi) pc x false (gm_hh mi) with
    | none => rw [hhit] at hq2; exact hq2.elim
    | some o =>
      rw [hhit] at hq2
      cases o with
      | none =>
        dsimp only at hq2
        refine vx_out (ce := ce) (E := gm_xn x) (fun z hz => ?_) hcx.2.2.2.2.2.1 hce hcv hcl (fun t ht hvm => ⟨⟨x, α', n', K', R', M', rfl, hx5, hq2, hxt.trans hx9, va_K.moved hvm hk, by rw [ht]; exact hp, hdd, hrv⟩, hs9.F ht⟩) hs9.2.2 (by omega) (by omega)
        rw [htab] at hz
        obtain ⟨q, hq1, rfl⟩ := List.mem_map.mp hz
        rcases gm_hit_none hhit q hq1 with h9 | h9
        · exact gm_cov0 h9
        · cases h9
      | some h =>
        dsimp only at hq2
        obtain ⟨pre, q, suf, b1, b2, b3, b4, b5, b6⟩ := gm_hit_some hhit
        have hsplit : c.exceptionTable.toList = tableOf pre ++ ⟨q.1, q.2.1, q.2.2.1, q.2.2.2⟩ :: tableOf suf := by
          rw [htab, b1]
          simp [tableOf]
        obtain ⟨-, -, -, hown, -, -, hts, -⟩ := _root_.id hcx
        have hcs : ∀ (x y : Nat), x < 5 → y < 5 → if x = y then va_Nw (.castable (gm_xn x) (gm_xn y)) s else va_Nc (gm_xn x) (gm_xn y) s := hev.2.2.2.2.2.2.2.2.2.2.2.1
        have hlk : ∀ (t y : Nat), gm_ctc (gm_ow mi) t = some y → y < 5 ∧ (Jvm.Cond.classLink (gm_rn (gm_ow mi)) t (gm_xn y)).before args s = true := by
          intro t y hty
          unfold gm_ctc at hty
          cases hz : gm_ctl.lookup (gm_ow mi, t) with
          | none => rw [hz] at hty; cases hty
          | some z =>
            rw [hz] at hty
            have hz2 := List.all_eq_true.mp gm_ctl_ok _ (gm_lookup2 _ _ _ hz)
            simp only [Bool.and_eq_true, decide_eq_true_eq] at hz2
            have e9 : z.1 = y := by simpa using hty
            rw [e9] at hz2
            exact ⟨hz2.1, hts _ (gm_T_in hz2.2 rfl)⟩
        have hxx := hcs x x hx5 hx5
        rw [if_pos rfl] at hxx
        refine vx_catch (ce := ce) (E := gm_xn x) (name := gm_xn x) (own := gm_rn (gm_ow mi)) hown (tableOf pre) ⟨q.1, q.2.1, q.2.2.1, q.2.2.2⟩ (tableOf suf) hsplit (fun z hz => ?_) (gm_cov1 b3) b4 (hlk _ _ b5).2 (va_Nw.use rfl hxx) hce hcv hcl ?_
        · obtain ⟨q3, hq3, rfl⟩ := List.mem_map.mp hz
          rcases b6 q3 hq3 with h9 | ⟨h9, y, h10, h11⟩
          · exact .inl (gm_cov0 h9)
          · obtain ⟨h12, h13⟩ := hlk _ _ h10
            have h14 := hcs x y hx5 h12
            rw [if_neg (fun e => h11 e.symm)] at h14
            exact .inr ⟨h9, gm_xn y, h13, h14⟩
        · show W p l e Rm s m args below meth c H1 locs1 _ _ _ (F0 m q.2.2.1 ls [.ref q9])
          rw [b2]
          exact hq2 p l e Rm s m args below meth c D ti adK adV A α0 n0 mc ms hcx hev hd hd2 hmc hms hA α' H1 locs1 (cells + bc') (slots + bs') ls [.ref q9] (hxt.trans hx9) (by omega) (by omega) ⟨hk, hp, hdd, hs9, hrv⟩ (gm_lr_ext hx9 hL) ⟨_, _, rfl, ⟨q9, rfl, fun h => by omega⟩, rfl⟩
end GH
end
/-! 11i.vch -/
section
/-! A CALL out of a method with handlers. -/
section GVH
variable {X : Int → Int} {LX d bc bs mi pc : Nat} {L : gm_L} {st : List gm_V} {n : Nat} {K : gm_K} {R : gm_R} {M : gm_M} {Q : gm_Q}
theorem gm_c_virtH {ix mj k ci d' bc' bs' : Nat} {as : List gm_V} (h : gm_at mi pc = some (.invokevirtual ix)) (hc : gm_cal (gm_ow mi) ix = some (0, mj)) (hmx : gm_ow mj ≠ gm_mxi) (hk : 1 ≤ k ∧ k ≤ n) (hK : (K k).1 = ci + 4) (hci : ci < 12) (hcn : gm_cn ci = (gm_mn mj).cls) (hna : as.length = gm_na mj) (hcat : ∀ v ∈ as, ¬ gm_sort v = 1) (hlen : as.length + 1 ≤ gm_ml mj) (hst : (st.map gm_cat).sum ≤ 8) (hd' : d' + 1 ≤ d) (hb1 : bc' ≤ bc) (hb2 : bs' ≤ bs)
    (hW : gm_Wp X LX d' bc' bs' mj 0 (gm_ent mj (gm_vr k :: as)) [] n K R M (gm_contH X LX d (bc - bc') (bs - bs') mi pc (pc + 3) L st Q)) : gm_Wp X LX d bc bs mi pc L (as.reverse ++ gm_vr k :: st) n K R M Q := by
  intro p l e Rm s m args below meth c D ti adK adV A α0 n0 mc ms hcx hev hd hd2 hmc hms hA α H locs cells slots ls sv hxt hc1 hc2 hR hL hS
  obtain ⟨w1, w2, rfl, hw1, w, sv2, rfl, ⟨rfl, hkn⟩, hS2⟩ := gm_sr_app hS
  have hdg := gm_dec hcx h rfl
  obtain ⟨hx, hb, hml, hown, -, -, hts, -, hl, -⟩ := id hcx
  obtain ⟨hKn, hP, hD, hSv, hRv⟩ := id hR
  obtain ⟨hj, i1, i2, i3, -, -, i6, -⟩ := gm_cal_spec hc
  obtain ⟨j1, -, j3, j4, j5, -⟩ := gm_mck_spec hj
  have hA1 := gm_sub_A hD hSv hA
  have hvs : gm_sr α adK n (gm_vr k :: as) (Value.ref (α k) :: w1.reverse) := ⟨_, _, rfl, ⟨(gm_rf_pos hk.1 (Nat.lt_of_le_of_lt hk.2 hRv.1)).symm, hkn⟩, by have := gm_sr_rev hw1; rwa [List.reverse_reverse] at this⟩
  have hM := gm_met (adV := adV) (ti := ti) (D := D) hj hmx (i6 (by omega)) l hl hW hvs (by intro v hv; rcases List.mem_cons.mp hv with rfl | hv; exact (by simp [gm_sort]); exact hcat v hv) (by simpa using hlen) hP (hD.self (sz := H.size)) hRv (fun q h => Or.inr h)
  have he := gm_wl_at (ti := ti) (α := α) (K := K) (R := R) (M := M) hk.1 hk.2
  rw [gm_en_obj hK] at he
  obtain ⟨T, N, hcs, -⟩ := gm_cs_get hci
  have hcode : gm_cwd mj = .code (gm_mn mj) (gm_bc mj) (gm_ml mj) (gm_rt mj) := by unfold gm_cwd; rw [if_pos (i6 (by omega))]
  have hwl : w1.length = as.length := by have := (gm_sr_at hw1).1; simpa using this
  have hG : GoodIn gm_T (wsV (gm_rn (gm_ow mi)) ix (gm_mn mj).cls (gm_mn mj) (gm_cwd mj :: gm_T)) := by
    intro w hw
    refine ⟨?_, ?_⟩
    · simp only [wsV, List.cons_append, List.nil_append, List.mem_cons] at hw
      rcases hw with rfl | rfl | rfl | rfl | rfl | hw
      · exact i2 (by omega)
      · exact (i3 rfl).1
      · exact (i3 rfl).2
      · exact i1
      · exact j1
      · exact hw
    · simp only [wsV, List.cons_append, List.nil_append, List.mem_cons] at hw
      rcases hw with rfl | rfl | rfl | rfl | rfl | hw
      · exact Or.inl rfl
      · exact Or.inl rfl
      · exact Or.inl rfl
      · exact Or.inl rfl
      · exact (gm_T_good _ j1).2
      · exact (gm_T_good _ hw).2
  rw [gm_rf_pos hk.1 (Nat.lt_of_le_of_lt hk.2 hRv.1)]
  refine gm_tailH (bc' := bc') (bs' := bs') hcx hev hd hd2 hmc hms hA hxt hb1 hb2 hc1 hc2 hSv hL hS2 hA1 (a := (Value.ref (α k) :: w1.reverse).toArray) ?_
  refine vx_runV (As := w1.reverse) (n := gm_na mj) (index := ix) (C := (gm_mn mj).cls) ⟨hx, hb, hml, hown, hts⟩ hM (cwV (rm := { frames := d', cells := bc', slots := bs', locals := d' * 300 }) (gm_na mj) hts hG (by rw [hcode]) rfl rfl ⟨rfl, j3.1, j3.2, j4⟩ ⟨by show d' + 1 ≤ _; omega, by show 8 + (gm_ml mj + 11) + d' * 300 ≤ _; omega⟩) ⟨gm_blind, ?_, fun U hU hWm => ⟨rfl, hU, gm_Ev_to hev hWm (by rw [hU]; exact hSv.1) (fun a h1 h2 => by rw [hU]; exact hSv.2.1 a h1 h2) hA1, va_K.moved hWm.alike hKn⟩⟩ rfl (by rw [List.length_reverse, hwl, hna]) ?_ (by rw [List.reverse_reverse]) (lv_room (by rw [gm_sum_eq hS2]; exact hst)) hdg ⟨by omega, by omega⟩
  · have := va_recv hKn hP hcs he
    rw [hcn] at this
    exact this
  · exact hL.2.choose_spec.1.1
theorem gm_cont_H {L : gm_L} {st : List gm_V} {o : gm_O} (hh : gm_hh mi = []) {pc' : Nat} (h : gm_contH X LX d bc bs mi pc pc' L st Q o n K R M) : gm_cont X LX d bc bs mi pc' L st Q o n K R M := by
  cases o with
  | inl u => exact h
  | inr x =>
    have h2 : (match gm_hit (gm_ow mi) pc x false (gm_hh mi) with
      | some (some h) => gm_Wp X LX d bc bs mi h L [gm_vo 4000] n K R M Q
      | some none => Q (.inr x) n K R M
      | none => False) := h
    rw [hh] at h2
    exact h2
end GVH
end
/-! 11j.stx -/
section
/-! A STATIC CALL of a method with handlers. -/
section GSX
variable {X : Int → Int} {LX d bc bs mi pc : Nat} {L : gm_L} {st : List gm_V} {n : Nat} {K : gm_K} {R : gm_R} {M : gm_M} {Q : gm_Q}
theorem gm_metH {mj : Nat} {vs : List gm_V} {avs : List Value} (hm : mj < 370) (hmx : gm_ow mj ≠ gm_mxi) (hh : ¬ gm_hh mj = []) (l : Launch) (hl : l.stackTraces = false) {D : va_G} {ti : Nat → ClassId} {adK adV α : Nat → Nat} {A' : Nat → Prop} {H : Heap}
    (hW : gm_Wp X LX d bc bs mj 0 (gm_ent mj vs) [] n K R M Q) (hvs : gm_sr α adK n vs avs) (hcat : ∀ v ∈ vs, ¬ gm_sort v = 1) (hlen : vs.length ≤ gm_ml mj) (hP : va_P D gm_cs (gm_wl ti α n K R M) H) (hD : va_D A' (gm_wl ti α n K R M)) (hRv : gm_Rv n R) (hA' : ∀ q, H.size ≤ q → A' q) :
    vx_Met l (gm_mn mj) (gm_cwd mj :: gm_T) ({ frames := d, cells := bc, slots := bs, locals := d * 300 }) (va_Pc avs (fun U => U.heap = H ∧ gm_Ev X LX adK adV A' U ∧ va_K D gm_cs (gm_ty ti) U)) (gm_QC D ti adK A' α n Q) (gm_XC D ti A' α n Q) bc bs A' := by
  obtain ⟨-, hpl, -, -, -, hown9⟩ := gm_mck_spec hm
  refine vx_ofWH (cc := gm_bc mj) (maxL := gm_ml mj) (ret := gm_rt mj) (ws' := gm_T) (hpl hmx) (hh := gm_hh mj) (by unfold gm_cwd; rw [if_neg hh]) ?_
  intro p e s m args below meth c s₁ B hml hv
  obtain ⟨rfl, hsz, hev, hK⟩ := hv
  have hts := atoms_spec (ws := gm_cwd mj :: gm_T) B.pre
  have hown : s.vm.findClass (gm_mn mj).cls = some m.cls := findClass_of_methodNamed B.named
  have hin : meth.name = (gm_mn mj).name := (name_of_methodNamed B.named B.method).1
  have htab : c.exceptionTable.toList = tableOf (gm_hh mj) := by
    have h1 := hts (gm_cwd mj) List.mem_cons_self
    unfold gm_cwd at h1
    rw [if_neg hh] at h1
    exact vx_table (x := gm_mn mj) B h1
  subst hsz
  rw [lg_entry_eq]
  exact hW p l e _ s m _ below meth c D ti adK adV A' α n bc bs ⟨B.exec, B.bytes, hml, by rw [hown9]; exact hown, B.returns, B.notSynchronized, fun w hw => hts w (List.mem_cons_of_mem _ hw), hin, hl, (by omega), htab⟩ hev (Nat.le_refl _) (Nat.le_refl _) (Nat.le_refl _) (Nat.le_refl _) hA' α s.heap [] 0 0 _ [] gm_xt.rf (by omega) (by omega) ⟨hK, hP, hD, va_S.rf, hRv⟩ (gm_lr_ent hvs hcat hlen) rfl
theorem gm_c_statX {ix mj d' bc' bs' : Nat} {as : List gm_V} (h : gm_at mi pc = some (.invokestatic ix)) (hc : gm_cal (gm_ow mi) ix = some (5, mj)) (hmx : gm_ow mj ≠ gm_mxi) (hh : gm_hh mi = []) (hhj : ¬ gm_hh mj = []) (hna : as.length = gm_na mj) (hcat : ∀ v ∈ as, ¬ gm_sort v = 1) (hlen : as.length ≤ gm_ml mj) (hst : (st.map gm_cat).sum ≤ 8) (hd' : d' + 1 ≤ d) (hb1 : bc' ≤ bc) (hb2 : bs' ≤ bs)
    (hW : gm_Wp X LX d' bc' bs' mj 0 (gm_ent mj as) [] n K R M (gm_cont X LX d (bc - bc') (bs - bs') mi (pc + 3) L st Q)) : gm_Wp X LX d bc bs mi pc L (as.reverse ++ st) n K R M Q := by
  intro p l e Rm s m args below meth c D ti adK adV A α0 n0 mc ms hcx hev hd hd2 hmc hms hA α H locs cells slots ls sv hxt hc1 hc2 hR hL hS
  obtain ⟨w1, sv2, rfl, hw1, hS2⟩ := gm_sr_app hS
  have hdg := gm_dec hcx h rfl
  obtain ⟨hx, hb, hml, hown, -, -, hts, -, hl, -⟩ := id hcx
  obtain ⟨hKn, hP, hD, hSv, hRv⟩ := id hR
  obtain ⟨hj, i1, i2, -, -, i5, i6, -⟩ := gm_cal_spec hc
  obtain ⟨j1, -, j3, j4, j5, -⟩ := gm_mck_spec hj
  have hA1 := gm_sub_A hD hSv hA
  have hvs : gm_sr α adK n as w1.reverse := by have := gm_sr_rev hw1; rwa [List.reverse_reverse] at this
  have hM := gm_metH (adV := adV) (ti := ti) (D := D) hj hmx hhj l hl hW hvs hcat hlen hP (hD.self (sz := H.size)) hRv (fun q h => Or.inr h)
  have hcode : gm_cwd mj = .codeWith (gm_mn mj) (gm_bc mj) (gm_ml mj) (gm_rt mj) (gm_hh mj) := by unfold gm_cwd; rw [if_neg hhj]
  have hwl : w1.length = as.length := by have := (gm_sr_at hw1).1; simpa using this
  have hpre : PreS s H (va_Pc w1.reverse (fun U => U.heap = H ∧ gm_Ev X LX adK adV (va_A (gm_wl ti α n K R M) H.size) U ∧ va_K D gm_cs (gm_ty ti) U)) w1.reverse := ⟨gm_blind, fun U hU hWm => ⟨rfl, hU, gm_Ev_to hev hWm (by rw [hU]; exact hSv.1) (fun a h1 h2 => by rw [hU]; exact hSv.2.1 a h1 h2) hA1, va_K.moved hWm.alike hKn⟩⟩
  refine gm_tail (bc' := bc') (bs' := bs') hh hcx hev hd hd2 hmc hms hA hxt hb1 hb2 hc1 hc2 hSv hL hS2 hA1 (a := w1.reverse.toArray) ?_
  have hR1 : d' + 1 ≤ Rm.frames ∧ 8 + (gm_ml mj + 11) + d' * 300 ≤ Rm.locals := ⟨by omega, by omega⟩
  have hroom := lv_room (m := m) (pc := pc) (ls := ls) (rest := w1 ++ sv2) (st := sv2) (by rw [gm_sum_eq hS2]; exact hst)
  have hG9 : GoodIn gm_T (va_wsS (gm_rn (gm_ow mi)) ix (gm_mn mj) (gm_cwd mj :: gm_T)) := by
    intro w hw
    simp only [va_wsS, List.cons_append, List.nil_append, List.mem_cons] at hw
    rcases hw with rfl | rfl | rfl | rfl | hw
    all_goals first | exact gm_T_good _ i1 | exact gm_T_good _ (i2 (by omega)) | exact gm_T_good _ (i5 (Or.inr rfl)) | exact gm_T_good _ j1 | exact gm_T_good _ hw
  exact vx_runSX (hh := gm_hh mj) (As := w1.reverse) (n := gm_na mj) (index := ix) ⟨hx, hb, hml, hown, hts⟩ hM (vx_cwSW (rm := { frames := d', cells := bc', slots := bs', locals := d' * 300 }) (gm_na mj) hts hG9 (by rw [hcode]) rfl rfl ⟨j3.1, j3.2, j4⟩ hR1) hpre rfl (by rw [List.length_reverse, hwl, hna]) hL.2.choose_spec.1.1 (by rw [List.reverse_reverse]) hroom hdg ⟨by omega, by omega⟩
end GSX
end
/-! 11k.str -/
section
/-! STRINGS: how long they are, their letters. -/
section GST
variable {X : Int → Int} {LX d bc bs mi pc : Nat} {L : gm_L} {st : List gm_V} {n : Nat} {K : gm_K} {R : gm_R} {M : gm_M} {Q : gm_Q}
theorem gm_sz {pc' : Nat} {L' : gm_L} {st' : List gm_V} {n' : Nat} {K' : gm_K} {R' : gm_R} {M' : gm_M} (h : gm_Sp X LX d mi pc L st n K R M pc' L' st' n' K' R' M' 0 0) (k : gm_Wp X LX d bc bs mi pc' L' st' n' K' R' M' Q) : gm_Wp X LX d bc bs mi pc L st n K R M Q := gm_sp h (Nat.zero_le _) (Nat.zero_le _) k
noncomputable def gm_slen (id : Nat) : Nat := gm_sl.getD id 0
noncomputable def gm_sby (id j : Nat) : Int32 := (gm_sb.getD id []).getD j 0
noncomputable def gm_sws : List Jvm.Cond := [.fieldLink "java/lang/String" 38 "java/lang/String" "COMPACT_STRINGS" "Z", .fieldLink "java/lang/String" 9 "java/lang/String" "value" "[B", .fieldLink "java/lang/String" 15 "java/lang/String" "coder" "B", .fieldLink "java/lang/String" 1053 "jdk/internal/util/Preconditions" "SIOOBE_FORMATTER" "Ljava/util/function/BiFunction;"]
theorem gm_sws_ok : gm_sws.all (fun w => gm_mem w && goodWord w) = true := by decide +kernel
theorem gm_sws_in {i : Nat} {w : Jvm.Cond} (h : gm_sws[i]? = some w) : w ∈ gm_T := by
  have h1 := List.all_eq_true.mp gm_sws_ok w (List.mem_of_getElem? h)
  rw [Bool.and_eq_true] at h1
  exact List.mem_filter.mpr ⟨gm_mem_in h1.1, h1.2⟩
theorem gm_sl75 : gm_sl.length = 75 := by decide +kernel
theorem gm_p_cs (h : gm_at mi pc = some (.getstatic 38)) (ho : gm_rn (gm_ow mi) = "java/lang/String") : gm_Sp X LX d mi pc L st n K R M (pc + 3) L (gm_vi 1 :: st) n K R M 0 0 := by
  intro p l e Rm s m args below meth c D ti adK adV A hcx hev hd hd2 hA α H locs cells slots ls sv Q' hc1 hc2 hR hL hS k2
  have hdg := gm_dec hcx h rfl
  obtain ⟨hx, hb, -, hown, -, -, hts, -⟩ := id hcx
  obtain ⟨hKn, hP, hD, hSv, hRv⟩ := id hR
  rw [ho] at hown
  exact va_gets hx hb hev.2.2.2.2.1.1 hSv hown (hts _ (gm_sws_in (i := 0) rfl)) (fun _ h => h) hdg (k2 α H locs ls _ gm_xt.rf hR hL ⟨_, _, rfl, rfl, hS⟩)
/-- the maker of what an index out of bounds would throw: null or a reference, it is only passed on -/
theorem gm_b_sio (h : gm_at mi pc = some (.getstatic 1053)) (ho : gm_rn (gm_ow mi) = "java/lang/String") (k0 : gm_Wp X LX d bc bs mi (pc + 3) L (gm_vr 0 :: st) n K R M Q) (k1 : gm_Wp X LX d bc bs mi (pc + 3) L (gm_vo 5000 :: st) n K R M Q) : gm_Wp X LX d bc bs mi pc L st n K R M Q := by
  intro p l e Rm s m args below meth c D ti adK adV A α0 n0 mc ms hcx hev hd hd2 hmc hms hA α H locs cells slots ls sv hxt hc1 hc2 hR hL hS
  have hdg := gm_dec hcx h rfl
  obtain ⟨hx, hb, -, hown, -, -, hts, -⟩ := id hcx
  obtain ⟨hKn, hP, hD, hSv, hRv⟩ := id hR
  rw [ho] at hown
  rcases hev.2.2.2.2.1.2.1 with hz | ⟨t, hz⟩
  · exact va_gets hx hb hz hSv hown (hts _ (gm_sws_in (i := 3) rfl)) (fun _ h => h) hdg (k0 p l e Rm s m args below meth c D ti adK adV A α0 n0 mc ms hcx hev hd hd2 hmc hms hA α H locs cells slots ls _ hxt hc1 hc2 hR hL ⟨_, _, rfl, ⟨rfl, Or.inl (Nat.zero_le _)⟩, hS⟩)
  · exact va_gets hx hb hz hSv hown (hts _ (gm_sws_in (i := 3) rfl)) (fun _ h => h) hdg (k1 p l e Rm s m args below meth c D ti adK adV A α0 n0 mc ms hcx hev hd hd2 hmc hms hA α H locs cells slots ls _ hxt hc1 hc2 hR hL ⟨_, _, rfl, ⟨t, rfl, fun h => absurd h (by omega)⟩, hS⟩)
theorem gm_p_sval {id : Nat} (hid : id < gm_sl.length) (h : gm_at mi pc = some (.getfield 9)) (ho : gm_rn (gm_ow mi) = "java/lang/String") : gm_Sp X LX d mi pc L (gm_vo id :: st) n K R M (pc + 3) L (gm_vo (1000 + id) :: st) n K R M 0 0 := by
  intro p l e Rm s m args below meth c D ti adK adV A hcx hev hd hd2 hA α H locs cells slots ls sv Q' hc1 hc2 hR hL hS k2
  obtain ⟨w1, sv, rfl, ⟨a, rfl, ha⟩, hS⟩ := hS
  have hdg := gm_dec hcx h rfl
  obtain ⟨hx, hb, -, hown, -, -, hts, -⟩ := _root_.id hcx
  obtain ⟨hKn, hP, hD, hSv, hRv⟩ := _root_.id hR
  rw [ho] at hown
  have h75 := gm_sl75
  obtain ⟨o1, o2, o3, o4⟩ := (hev.1 id hid).1 0 (by omega)
  have ha := ha (by omega)
  subst ha
  exact vk_getf hx hb o3 hSv hown (hts _ (gm_sws_in (i := 1) rfl)) (fun _ h => h) hdg (k2 α H locs ls _ gm_xt.rf hR hL ⟨_, _, rfl, ⟨adV id, rfl, fun _ => (hev.2.2.2.2.1.2.2 id hid).symm⟩, hS⟩)
theorem gm_p_scod {id : Nat} (hid : id < gm_sl.length) (h : gm_at mi pc = some (.getfield 15)) (ho : gm_rn (gm_ow mi) = "java/lang/String") : gm_Sp X LX d mi pc L (gm_vo id :: st) n K R M (pc + 3) L (gm_vi 0 :: st) n K R M 0 0 := by
  intro p l e Rm s m args below meth c D ti adK adV A hcx hev hd hd2 hA α H locs cells slots ls sv Q' hc1 hc2 hR hL hS k2
  obtain ⟨w1, sv, rfl, ⟨a, rfl, ha⟩, hS⟩ := hS
  have hdg := gm_dec hcx h rfl
  obtain ⟨hx, hb, -, hown, -, -, hts, -⟩ := _root_.id hcx
  obtain ⟨hKn, hP, hD, hSv, hRv⟩ := _root_.id hR
  rw [ho] at hown
  have h75 := gm_sl75
  obtain ⟨o1, o2, o3, o4⟩ := (hev.1 id hid).1 0 (by omega)
  have ha := ha (by omega)
  subst ha
  exact vk_getf hx hb o2 hSv hown (hts _ (gm_sws_in (i := 2) rfl)) (fun _ h => h) hdg (k2 α H locs ls _ gm_xt.rf hR hL ⟨_, _, rfl, rfl, hS⟩)
theorem gm_p_sale {id : Nat} (hid : id < gm_sl.length) (h : gm_at mi pc = some .arraylength) : gm_Sp X LX d mi pc L (gm_vo (1000 + id) :: st) n K R M (pc + 1) L (gm_vi (gm_slen id : Int) :: st) n K R M 0 0 := by
  intro p l e Rm s m args below meth c D ti adK adV A hcx hev hd hd2 hA α H locs cells slots ls sv Q' hc1 hc2 hR hL hS k2
  obtain ⟨w1, sv, rfl, ⟨a, rfl, ha⟩, hS⟩ := hS
  have hdg := gm_dec hcx h rfl
  obtain ⟨hx, hb, -⟩ := _root_.id hcx
  obtain ⟨hKn, hP, hD, hSv, hRv⟩ := _root_.id hR
  have h75 := gm_sl75
  obtain ⟨o1, o2, o3, o4⟩ := (hev.1 id hid).1 0 (by omega)
  have ha := (ha (by omega)).trans (hev.2.2.2.2.1.2.2 id hid)
  subst ha
  exact va_tlen hx hb o4 hSv (gm_ofNat _) hdg (k2 α H locs ls _ gm_xt.rf hR hL ⟨_, _, rfl, rfl, hS⟩)
theorem gm_p_sbal {id : Nat} {e0 : Int} (hid : id < gm_sl.length) (h : gm_at mi pc = some .baload) (hi : 0 ≤ gm_w e0 ∧ gm_w e0 < gm_slen id) : gm_Sp X LX d mi pc L (gm_vi e0 :: gm_vo (1000 + id) :: st) n K R M (pc + 1) L (gm_vi (gm_sby id (gm_w e0).toNat).toInt :: st) n K R M 0 0 := by
  intro p l e Rm s m args below meth c D ti adK adV A hcx hev hd hd2 hA α H locs cells slots ls sv Q' hc1 hc2 hR hL hS k2
  obtain ⟨w0, sv, rfl, h0, hS⟩ := hS
  obtain ⟨w1, sv, rfl, ⟨a, rfl, ha⟩, hS⟩ := hS
  cases h0
  have hdg := gm_dec hcx h rfl
  obtain ⟨hx, hb, -⟩ := _root_.id hcx
  obtain ⟨hKn, hP, hD, hSv, hRv⟩ := _root_.id hR
  have h75 := gm_sl75
  obtain ⟨o1, o2, o3, o4⟩ := (hev.1 id hid).1 0 (by omega)
  have ha := (ha (by omega)).trans (hev.2.2.2.2.1.2.2 id hid)
  subst ha
  refine va_tb hx hb o4 hSv (gm_in hi.1 hi.2) rfl hdg (k2 α H locs ls _ gm_xt.rf hR hL ⟨_, _, rfl, ?_, hS⟩)
  show Value.int (gm_sby id (Int32.ofInt e0).toNatClampNeg) = Value.int (Int32.ofInt (gm_sby id (gm_w e0).toNat).toInt)
  rw [gm_cl, ← gm_ti]
noncomputable def gm_i2c (x : Int) : Int := ((Int32.ofInt x).toUInt32 % 65536).toInt32.toInt
theorem gm_p_i2c {x : Int} (h : gm_at mi pc = some .i2c) : gm_Sp X LX d mi pc L (gm_vi x :: st) n K R M (pc + 1) L (gm_vi (gm_i2c x) :: st) n K R M 0 0 := by
  refine gm_stk fun p l e Rm s m args below meth c hcx α adK H locs cells slots ls sv Q' hL hS k => ?_
  obtain ⟨w, sv, rfl, h1, hS⟩ := hS
  cases h1
  have hdg := gm_dec hcx h rfl
  obtain ⟨hx, hb, -⟩ := hcx
  exact lv_i2c hx hb hdg (gm_ti _) (k _ ⟨_, _, rfl, rfl, hS⟩)
theorem gm_r_ty {x : Int} {ty : FieldType} (h : gm_at mi pc = some .ireturn) (hr : gm_rt mi = some ty) (hn : narrow ty (.int (Int32.ofInt x)) = .int (Int32.ofInt x)) (hq : Q (.inl (some (gm_vi x))) n K R M) : gm_Wp X LX d bc bs mi pc L [gm_vi x] n K R M Q := by
  intro p l e Rm s m args below meth c D ti adK adV A α0 n0 mc ms hcx hev hd hd2 hmc hms hA α H locs cells slots ls sv hxt hc1 hc2 hR hL hS
  obtain ⟨w, sv, rfl, h1, hS⟩ := hS
  cases h1; cases hS
  have hdg := gm_dec hcx h rfl
  obtain ⟨hx, hb, -, -, hret, hlk, -⟩ := id hcx
  obtain ⟨hKn, hP, hD, hSv, hRv⟩ := id hR
  have hq' : ∀ t : State, t.heap = H → s.WarmedH t.vm → gm_QC D ti adK A α0 n0 Q args s (.returned (some (.int (Int32.ofInt x)))) t := fun t ht hW => ⟨⟨_, some (gm_vi x), α, n, K, R, M, rfl, ⟨_, rfl, rfl⟩, hq, hxt, va_K.moved hW.alike hKn, by rw [ht]; exact hP, hD, hRv⟩, hSv.F ht⟩
  refine W.widen (k := mc) (n := ms) (by omega) (by omega) (vx_ret ?_)
  exact W.zret hx hb (by rw [hret]; exact hr) hn hq' hSv.2.2 hdg hlk
theorem gm_c_vstr {ix mj id d' bc' bs' : Nat} {as : List gm_V} (h : gm_at mi pc = some (.invokevirtual ix)) (hc : gm_cal (gm_ow mi) ix = some (0, mj)) (hmx : gm_ow mj ≠ gm_mxi) (hh : gm_hh mi = []) (hid : id < gm_sl.length) (hcn : (gm_mn mj).cls = "java/lang/String") (hna : as.length = gm_na mj) (hcat : ∀ v ∈ as, ¬ gm_sort v = 1) (hlen : as.length + 1 ≤ gm_ml mj) (hst : (st.map gm_cat).sum ≤ 8) (hd' : d' + 1 ≤ d) (hb1 : bc' ≤ bc) (hb2 : bs' ≤ bs)
    (hW : gm_Wp X LX d' bc' bs' mj 0 (gm_ent mj (gm_vo id :: as)) [] n K R M (gm_cont X LX d (bc - bc') (bs - bs') mi (pc + 3) L st Q)) : gm_Wp X LX d bc bs mi pc L (as.reverse ++ gm_vo id :: st) n K R M Q := by
  intro p l e Rm s m args below meth c D ti adK adV A α0 n0 mc ms hcx hev hd hd2 hmc hms hA α H locs cells slots ls sv hxt hc1 hc2 hR hL hS
  obtain ⟨w1, w2, rfl, hw1, w, sv2, rfl, ⟨a, rfl, ha⟩, hS2⟩ := gm_sr_app hS
  have h75 := gm_sl75
  have ha := ha (by omega)
  subst ha
  have hdg := gm_dec hcx h rfl
  obtain ⟨hx, hb, hml, hown, -, -, hts, -, hl, -⟩ := _root_.id hcx
  obtain ⟨hKn, hP, hD, hSv, hRv⟩ := _root_.id hR
  obtain ⟨hj, i1, i2, i3, -, -, i6, -⟩ := gm_cal_spec hc
  obtain ⟨j1, -, j3, j4, j5, -⟩ := gm_mck_spec hj
  have hA1 := gm_sub_A hD hSv hA
  have hvs : gm_sr α adK n (gm_vo id :: as) (Value.ref (adK id) :: w1.reverse) := ⟨_, _, rfl, ⟨_, rfl, fun _ => rfl⟩, by have := gm_sr_rev hw1; rwa [List.reverse_reverse] at this⟩
  have hM := gm_met (adV := adV) (ti := ti) (D := D) hj hmx (i6 (by omega)) l hl hW hvs (by intro v hv; rcases List.mem_cons.mp hv with rfl | hv; exact (by simp [gm_sort]); exact hcat v hv) (by simpa using hlen) hP (hD.self (sz := H.size)) hRv (fun q h => Or.inr h)
  obtain ⟨o1, -⟩ := (hev.1 id hid).1 0 (by omega)
  obtain ⟨cell, c1, c2, c3, -⟩ := o1.kept (fun a h1 h2 => hSv.2.1 a h1 h2)
  have hcode : gm_cwd mj = .code (gm_mn mj) (gm_bc mj) (gm_ml mj) (gm_rt mj) := by unfold gm_cwd; rw [if_pos (i6 (by omega))]
  have hwl : w1.length = as.length := by have := (gm_sr_at hw1).1; simpa using this
  have hG : GoodIn gm_T (wsV (gm_rn (gm_ow mi)) ix (gm_mn mj).cls (gm_mn mj) (gm_cwd mj :: gm_T)) := by
    intro w hw
    refine ⟨?_, ?_⟩
    · simp only [wsV, List.cons_append, List.nil_append, List.mem_cons] at hw
      rcases hw with rfl | rfl | rfl | rfl | rfl | hw
      · exact i2 (by omega)
      · exact (i3 rfl).1
      · exact (i3 rfl).2
      · exact i1
      · exact j1
      · exact hw
    · simp only [wsV, List.cons_append, List.nil_append, List.mem_cons] at hw
      rcases hw with rfl | rfl | rfl | rfl | rfl | hw
      · exact Or.inl rfl
      · exact Or.inl rfl
      · exact Or.inl rfl
      · exact Or.inl rfl
      · exact (gm_T_good _ j1).2
      · exact (gm_T_good _ hw).2
  refine gm_tail (bc' := bc') (bs' := bs') hh hcx hev hd hd2 hmc hms hA hxt hb1 hb2 hc1 hc2 hSv hL hS2 hA1 (a := (Value.ref (adK id) :: w1.reverse).toArray) ?_
  refine vx_runV (As := w1.reverse) (n := gm_na mj) (index := ix) (C := (gm_mn mj).cls) ⟨hx, hb, hml, hown, hts⟩ hM (cwV (rm := { frames := d', cells := bc', slots := bs', locals := d' * 300 }) (gm_na mj) hts hG (by rw [hcode]) rfl rfl ⟨rfl, j3.1, j3.2, j4⟩ ⟨by show d' + 1 ≤ _; omega, by show 8 + (gm_ml mj + 11) + d' * 300 ≤ _; omega⟩) ⟨gm_blind, ?_, fun U hU hWm => ⟨rfl, hU, gm_Ev_to hev hWm (by rw [hU]; exact hSv.1) (fun a h1 h2 => by rw [hU]; exact hSv.2.1 a h1 h2) hA1, va_K.moved hWm.alike hKn⟩⟩ rfl (by rw [List.length_reverse, hwl, hna]) ?_ (by rw [List.reverse_reverse]) (lv_room (by rw [gm_sum_eq hS2]; exact hst)) hdg ⟨by omega, by omega⟩
  · rw [hcn]; exact ⟨cell, c1, c2, c3⟩
  · exact hL.2.choose_spec.1.1
/-- a letter of a String constant -/
noncomputable def gm_chv (id j : Nat) : Int := gm_i2c (Int32.ofInt (gm_sby id j).toInt &&& Int32.ofInt 255).toInt
noncomputable def gm_chk : Bool := (List.range 75).all fun id => decide ((Int32.ofInt (gm_slen id : Int) >>> (Int32.ofInt 0 &&& 31)).toInt = (gm_slen id : Int)) && (decide (gm_slen id < 100) && (List.range (gm_slen id)).all fun j => (match narrow .char (.int (Int32.ofInt (gm_chv id j))) with | .int u => decide (u = Int32.ofInt (gm_chv id j)) | _ => false) && (decide (0 ≤ gm_chv id j) && decide (gm_chv id j < 128)))
theorem gm_chk_ok : gm_chk = true := by decide +kernel
theorem gm_chk_s {id : Nat} (hid : id < gm_sl.length) : ((Int32.ofInt (gm_slen id : Int) >>> (Int32.ofInt 0 &&& 31)).toInt = (gm_slen id : Int) ∧ gm_slen id < 100) ∧ ∀ j, j < gm_slen id → narrow .char (.int (Int32.ofInt (gm_chv id j))) = .int (Int32.ofInt (gm_chv id j)) ∧ 0 ≤ gm_chv id j ∧ gm_chv id j < 128 := by
  rw [gm_sl75] at hid
  have h := List.all_eq_true.mp gm_chk_ok id (List.mem_range.mpr hid)
  simp only [Bool.and_eq_true, decide_eq_true_eq] at h
  refine ⟨⟨h.1, h.2.1⟩, fun j hj => ?_⟩
  have h2 := List.all_eq_true.mp h.2.2 j (List.mem_range.mpr hj)
  rw [Bool.and_eq_true, Bool.and_eq_true, decide_eq_true_eq, decide_eq_true_eq] at h2
  refine ⟨?_, h2.2⟩
  have h3 := h2.1
  split at h3
  · rename_i u hu
    rw [hu, of_decide_eq_true h3]
  · cases h3

theorem gm_w83 {id : Nat} (hid : id < gm_sl.length) (hq : Q (.inl (some (gm_vi 0))) n K R M) : gm_Wp X LX d bc bs 83 0 (gm_ent 83 [gm_vo id]) [] n K R M Q := by
  refine gm_sz (gm_p_cs (pc := 0) (by decide +kernel) (by decide +kernel)) ?_
  refine gm_b_if (pc := 3) (cc := .eq) (off := 10) (by decide +kernel) (by decide +kernel) (fun hp => absurd hp (show ¬ (gm_w 1 = gm_w 0) by decide +kernel)) (fun _ => ?_)
  refine gm_sz (gm_p_load (pc := 6) (i := .aload_n 0) (sr := 2) (j := 0) (by decide +kernel) rfl rfl rfl) ?_
  refine gm_sz (gm_p_scod (pc := 7) hid (by decide +kernel) (by decide +kernel)) ?_
  refine gm_sz (gm_p_goto (pc := 10) (off := 4) (by decide +kernel) (by decide +kernel)) ?_
  exact gm_r_ty (pc := 14) (ty := .byte) (by decide +kernel) (by decide +kernel) rfl hq
theorem gm_w85 {id : Nat} (hid : id < gm_sl.length) (hq : Q (.inl (some (gm_vi 1))) n K R M) : gm_Wp X LX d bc bs 85 0 (gm_ent 85 [gm_vo id]) [] n K R M Q := by
  refine gm_sz (gm_p_cs (pc := 0) (by decide +kernel) (by decide +kernel)) ?_
  refine gm_b_if (pc := 3) (cc := .eq) (off := 14) (by decide +kernel) (by decide +kernel) (fun hp => absurd hp (show ¬ (gm_w 1 = gm_w 0) by decide +kernel)) (fun _ => ?_)
  refine gm_sz (gm_p_load (pc := 6) (i := .aload_n 0) (sr := 2) (j := 0) (by decide +kernel) rfl rfl rfl) ?_
  refine gm_sz (gm_p_scod (pc := 7) hid (by decide +kernel) (by decide +kernel)) ?_
  refine gm_b_if (pc := 10) (cc := .ne) (off := 7) (by decide +kernel) (by decide +kernel) (fun hp => absurd (show gm_w 0 = gm_w 0 from rfl) hp) (fun _ => ?_)
  refine gm_sz (gm_p_const (pc := 13) (i := .iconst 1) (v := gm_vi 1) (by decide +kernel) rfl) ?_
  refine gm_sz (gm_p_goto (pc := 14) (off := 4) (by decide +kernel) (by decide +kernel)) ?_
  exact gm_r_int (pc := 18) (by decide +kernel) (Or.inr ⟨(by decide +kernel), Or.inr rfl⟩) hq
theorem gm_w88 {v : gm_V} {i m : Int} (hi : 0 ≤ i ∧ i < m ∧ m < 2147483648) (hq : Q (.inl (some (gm_vi i))) n K R M) : gm_Wp X LX d bc bs 88 0 (gm_ent 88 [gm_vi i, gm_vi m, v]) [] n K R M Q := by
  have h1 : gm_w i = i := gm_w_id (by omega) (by omega)
  have h2 : gm_w m = m := gm_w_id (by omega) (by omega)
  refine gm_sz (gm_p_load (pc := 0) (i := .iload_n 0) (sr := 0) (j := 0) (by decide +kernel) rfl rfl rfl) ?_
  refine gm_b_if (pc := 1) (cc := .lt) (off := 8) (by decide +kernel) (by decide +kernel) (fun hp => ?_) (fun _ => ?_)
  · have hp : gm_w i < gm_w 0 := hp
    rw [h1, show gm_w 0 = 0 from rfl] at hp
    omega
  refine gm_sz (gm_p_load (pc := 4) (i := .iload_n 0) (sr := 0) (j := 0) (by decide +kernel) rfl rfl rfl) ?_
  refine gm_sz (gm_p_load (pc := 5) (i := .iload_n 1) (sr := 0) (j := 1) (by decide +kernel) rfl rfl rfl) ?_
  refine gm_b_ic (pc := 6) (cc := .lt) (off := 10) (by decide +kernel) (by decide +kernel) (fun _ => ?_) (fun hp => ?_)
  · refine gm_sz (gm_p_load (pc := 16) (i := .iload_n 0) (sr := 0) (j := 0) (by decide +kernel) rfl rfl rfl) ?_
    exact gm_r_int (pc := 17) (by decide +kernel) (Or.inl (by decide +kernel)) hq
  · exact absurd (show gm_w i < gm_w m by rw [h1, h2]; exact hi.2.1) hp
theorem gm_w87 {i m : Int} (hd : 1 ≤ d) (hi : 0 ≤ i ∧ i < m ∧ m < 2147483648) (hq : Q (.inl none) n K R M) : gm_Wp X LX d bc bs 87 0 (gm_ent 87 [gm_vi i, gm_vi m]) [] n K R M Q := by
  have key : ∀ v : gm_V, ¬ gm_sort v = 1 → gm_Wp X LX d bc bs 87 5 (gm_ent 87 [gm_vi i, gm_vi m]) [v, gm_vi m, gm_vi i] n K R M Q := by
    intro v hv
    refine gm_c_stat (pc := 5) (ix := 1059) (mj := 88) (as := [gm_vi i, gm_vi m, v]) (st := []) (d' := 0) (bc' := 0) (bs' := 0) (by decide +kernel) (by decide +kernel) (by decide +kernel) (by decide +kernel) rfl (fun u hu => ?_) (show 3 ≤ gm_ml 88 by decide +kernel) (by decide +kernel) hd (Nat.zero_le _) (Nat.zero_le _) (gm_w88 hi ?_)
    · rcases List.mem_cons.mp hu with rfl | hu
      · simp [gm_sort]
      · rcases List.mem_cons.mp hu with rfl | hu
        · simp [gm_sort]
        · rcases List.mem_cons.mp hu with rfl | hu
          · exact hv
          · cases hu
    · show gm_Wp X LX d (bc - 0) (bs - 0) 87 8 (gm_ent 87 [gm_vi i, gm_vi m]) [gm_vi i] n K R M Q
      refine gm_sz (gm_p_pop (pc := 8) (by decide +kernel) (by simp [gm_sort])) ?_
      exact gm_r_void (pc := 9) (by decide +kernel) (by decide +kernel) hq
  refine gm_sz (gm_p_load (pc := 0) (i := .iload_n 0) (sr := 0) (j := 0) (by decide +kernel) rfl rfl rfl) ?_
  refine gm_sz (gm_p_load (pc := 1) (i := .iload_n 1) (sr := 0) (j := 1) (by decide +kernel) rfl rfl rfl) ?_
  exact gm_b_sio (pc := 2) (by decide +kernel) (by decide +kernel) (key _ (by simp [gm_sort])) (key _ (by simp [gm_sort]))
theorem gm_w86 {id : Nat} {i : Int} (hd : 2 ≤ d) (hid : id < gm_sl.length) (hi : 0 ≤ i ∧ i < gm_slen id) (hq : Q (.inl (some (gm_vi (gm_chv id i.toNat)))) n K R M) : gm_Wp X LX d bc bs 86 0 (gm_ent 86 [gm_vo (1000 + id), gm_vi i]) [] n K R M Q := by
  obtain ⟨⟨-, g1⟩, g2⟩ := gm_chk_s hid
  have h1 : gm_w i = i := gm_w_id (by omega) (by omega)
  refine gm_sz (gm_p_load (pc := 0) (i := .iload_n 1) (sr := 0) (j := 1) (by decide +kernel) rfl rfl rfl) ?_
  refine gm_sz (gm_p_load (pc := 1) (i := .aload_n 0) (sr := 2) (j := 0) (by decide +kernel) rfl rfl rfl) ?_
  refine gm_sz (gm_p_sale (pc := 2) hid (by decide +kernel)) ?_
  refine gm_c_stat (pc := 3) (ix := 9) (mj := 87) (as := [gm_vi i, gm_vi (gm_slen id : Int)]) (st := []) (d' := 1) (bc' := 0) (bs' := 0) (by decide +kernel) (by decide +kernel) (by decide +kernel) (by decide +kernel) rfl (fun u hu => ?_) (show 2 ≤ gm_ml 87 by decide +kernel) (by decide +kernel) (by omega) (Nat.zero_le _) (Nat.zero_le _) (gm_w87 (by omega) ⟨hi.1, hi.2, by omega⟩ ?_)
  · rcases List.mem_cons.mp hu with rfl | hu
    · simp [gm_sort]
    · rcases List.mem_cons.mp hu with rfl | hu
      · simp [gm_sort]
      · cases hu
  · show gm_Wp X LX d (bc - 0) (bs - 0) 86 6 (gm_ent 86 [gm_vo (1000 + id), gm_vi i]) [] n K R M Q
    refine gm_sz (gm_p_load (pc := 6) (i := .aload_n 0) (sr := 2) (j := 0) (by decide +kernel) rfl rfl rfl) ?_
    refine gm_sz (gm_p_load (pc := 7) (i := .iload_n 1) (sr := 0) (j := 1) (by decide +kernel) rfl rfl rfl) ?_
    refine gm_sz (gm_p_sbal (pc := 8) hid (by decide +kernel) (by rw [h1]; exact hi)) ?_
    refine gm_sz (gm_p_const (pc := 9) (i := .sipush 255) (v := gm_vi 255) (by decide +kernel) (by decide +kernel)) ?_
    refine gm_sz (gm_p_bin (pc := 12) (i := .iand) (f := fun x y => (Int32.ofInt x &&& Int32.ofInt y).toInt) (by decide +kernel) rfl) ?_
    refine gm_sz (gm_p_i2c (pc := 13) (by decide +kernel)) ?_
    rw [h1]
    show gm_Wp X LX d _ _ 86 14 _ [gm_vi (gm_chv id i.toNat)] n K R M Q
    exact gm_r_ty (pc := 14) (ty := .char) (by decide +kernel) (by decide +kernel) (g2 i.toNat (by omega)).1 hq
/-- String.length -/
theorem gm_w82 {id : Nat} (hd : 1 ≤ d) (hid : id < gm_sl.length) (hq : Q (.inl (some (gm_vi (gm_slen id : Int)))) n K R M) : gm_Wp X LX d bc bs 82 0 (gm_ent 82 [gm_vo id]) [] n K R M Q := by
  refine gm_sz (gm_p_load (pc := 0) (i := .aload_n 0) (sr := 2) (j := 0) (by decide +kernel) rfl rfl rfl) ?_
  refine gm_sz (gm_p_sval (pc := 1) hid (by decide +kernel) (by decide +kernel)) ?_
  refine gm_sz (gm_p_sale (pc := 4) hid (by decide +kernel)) ?_
  refine gm_sz (gm_p_load (pc := 5) (i := .aload_n 0) (sr := 2) (j := 0) (by decide +kernel) rfl rfl rfl) ?_
  refine gm_c_vstr (pc := 6) (ix := 335) (mj := 83) (id := id) (as := []) (st := [gm_vi (gm_slen id : Int)]) (d' := 0) (bc' := 0) (bs' := 0) (by decide +kernel) (by decide +kernel) (by decide +kernel) (by decide +kernel) hid (by decide +kernel) (by decide +kernel) (fun _ h => nomatch h) (by decide +kernel) (by simp [gm_cat, gm_sort]) hd (Nat.zero_le _) (Nat.zero_le _) (gm_w83 hid ?_)
  show gm_Wp X LX d (bc - 0) (bs - 0) 82 9 (gm_ent 82 [gm_vo id]) [gm_vi 0, gm_vi (gm_slen id : Int)] n K R M Q
  refine gm_sz (gm_p_bin (pc := 9) (i := .ishr) (f := fun x y => (Int32.ofInt x >>> (Int32.ofInt y &&& 31)).toInt) (by decide +kernel) rfl) ?_
  rw [(gm_chk_s hid).1.1]
  exact gm_r_int (pc := 10) (by decide +kernel) (Or.inl (by decide +kernel)) hq
/-- String.charAt -/
theorem gm_w84 {id : Nat} {i : Int} (hd : 3 ≤ d) (hid : id < gm_sl.length) (hi : 0 ≤ i ∧ i < gm_slen id) (hq : Q (.inl (some (gm_vi (gm_chv id i.toNat)))) n K R M) : gm_Wp X LX d bc bs 84 0 (gm_ent 84 [gm_vo id, gm_vi i]) [] n K R M Q := by
  have g2 := (gm_chk_s hid).2
  refine gm_sz (gm_p_load (pc := 0) (i := .aload_n 0) (sr := 2) (j := 0) (by decide +kernel) rfl rfl rfl) ?_
  refine gm_c_vstr (pc := 1) (ix := 492) (mj := 85) (id := id) (as := []) (st := []) (d' := 0) (bc' := 0) (bs' := 0) (by decide +kernel) (by decide +kernel) (by decide +kernel) (by decide +kernel) hid (by decide +kernel) (by decide +kernel) (fun _ h => nomatch h) (by decide +kernel) (by decide +kernel) (by omega) (Nat.zero_le _) (Nat.zero_le _) (gm_w85 hid ?_)
  show gm_Wp X LX d (bc - 0) (bs - 0) 84 4 (gm_ent 84 [gm_vo id, gm_vi i]) [gm_vi 1] n K R M Q
  refine gm_b_if (pc := 4) (cc := .eq) (off := 12) (by decide +kernel) (by decide +kernel) (fun hp => absurd hp (show ¬ (gm_w 1 = gm_w 0) by decide +kernel)) (fun _ => ?_)
  refine gm_sz (gm_p_load (pc := 7) (i := .aload_n 0) (sr := 2) (j := 0) (by decide +kernel) rfl rfl rfl) ?_
  refine gm_sz (gm_p_sval (pc := 8) hid (by decide +kernel) (by decide +kernel)) ?_
  refine gm_sz (gm_p_load (pc := 11) (i := .iload_n 1) (sr := 0) (j := 1) (by decide +kernel) rfl rfl rfl) ?_
  refine gm_c_stat (pc := 12) (ix := 495) (mj := 86) (as := [gm_vo (1000 + id), gm_vi i]) (st := []) (d' := 2) (bc' := 0) (bs' := 0) (by decide +kernel) (by decide +kernel) (by decide +kernel) (by decide +kernel) rfl (fun u hu => ?_) (show 2 ≤ gm_ml 86 by decide +kernel) (by decide +kernel) (by omega) (Nat.zero_le _) (Nat.zero_le _) (gm_w86 (by omega) hid hi ?_)
  · rcases List.mem_cons.mp hu with rfl | hu
    · simp [gm_sort]
    · rcases List.mem_cons.mp hu with rfl | hu
      · simp [gm_sort]
      · cases hu
  · show gm_Wp X LX d (bc - 0 - 0) (bs - 0 - 0) 84 15 (gm_ent 84 [gm_vo id, gm_vi i]) [gm_vi (gm_chv id i.toNat)] n K R M Q
    exact gm_r_ty (pc := 15) (ty := .char) (by decide +kernel) (by decide +kernel) (g2 i.toNat (by omega)).1 hq
end GST
end
/-! 12b.ck -/
section
/-! WHAT THE CHECKER STANDS ON (turned from 12.wx to 16.ib of p1): what is fixed in memory, kinds, references, and TYPES: bounds that a cell's numbers keep. -/
noncomputable abbrev gm_JJ : Type := gm_K → gm_M → Prop
/-- what is said of memory looks at stretches that nothing writes, and at the kinds of their cells; and, with counted cells g (a row, the place of what goes on, the place where it began), at (0, 4), how far it is, (0, 3), where it began less what was laid down, and (0, 5), both together -/
noncomputable def gm_hP (fp : Nat → List (Int × Int)) (J : gm_JJ) (gh : Option (Nat × Int × Int)) : Prop :=
  (∀ (K K' : gm_K) (M M' : gm_M), (∀ k r, r ∈ fp k → K' k = K k) → (∀ k r, r ∈ fp k → ∀ j, r.1 ≤ j → j ≤ r.2 → M' k j = M k j) → J K M → J K' M') ∧ ∀ g, gh = some g → (∀ (K : gm_K) (M : gm_M), J K M → M 0 4 = M g.1 g.2.1 - M g.1 g.2.2 ∧ M 0 5 = M 0 3 + M 0 4 ∧ M 0 3 ≤ M g.1 g.2.2) ∧ (1 ≤ g.1 ∧ ¬ g.2.1 = g.2.2) ∧ ∀ (K : gm_K) (M M' : gm_M), J K M → (∀ c j, ¬ (c = g.1 ∧ (j = g.2.1 ∨ j = g.2.2)) → ¬ (c = 0 ∧ (j = 3 ∨ j = 4 ∨ j = 5)) → M' c j = M c j) → M' 0 4 = M' g.1 g.2.1 - M' g.1 g.2.2 → M' 0 5 = M' 0 3 + M' 0 4 → M' 0 3 - M' g.1 g.2.2 = M 0 3 - M g.1 g.2.2 → J K M'
/-- types; stretches that nothing writes; what is said of them; names of cells' numbers at a method's begin; cells that are counted with others -/
noncomputable def gm_O3 : Type := { q : (Nat → List (Int × Int × Int × Int)) × (Nat → List (Int × Int)) × gm_JJ × List (Nat × Nat × Int) × Option (Nat × Int × Int) // gm_hP q.2.1 q.2.2.1 q.2.2.2.2 }
noncomputable def gm_O3.ty (o : gm_O3) : Nat → List (Int × Int × Int × Int) := o.1.1
noncomputable def gm_O3.fp (o : gm_O3) : Nat → List (Int × Int) := o.1.2.1
noncomputable def gm_O3.J (o : gm_O3) : gm_JJ := o.1.2.2.1
noncomputable def gm_O3.nm (o : gm_O3) : List (Nat × Nat × Int) := o.1.2.2.2.1
noncomputable def gm_O3.gh (o : gm_O3) : Option (Nat × Int × Int) := o.1.2.2.2.2
theorem gm_O3.hJ (o : gm_O3) : ∀ (K K' : gm_K) (M M' : gm_M), (∀ k r, r ∈ o.fp k → K' k = K k) → (∀ k r, r ∈ o.fp k → ∀ j, r.1 ≤ j → j ≤ r.2 → M' k j = M k j) → o.J K M → o.J K' M' := o.2.1
theorem gm_O3.hG (o : gm_O3) : ∀ g, o.gh = some g → (∀ (K : gm_K) (M : gm_M), o.J K M → M 0 4 = M g.1 g.2.1 - M g.1 g.2.2 ∧ M 0 5 = M 0 3 + M 0 4 ∧ M 0 3 ≤ M g.1 g.2.2) ∧ (1 ≤ g.1 ∧ ¬ g.2.1 = g.2.2) ∧ ∀ (K : gm_K) (M M' : gm_M), o.J K M → (∀ c j, ¬ (c = g.1 ∧ (j = g.2.1 ∨ j = g.2.2)) → ¬ (c = 0 ∧ (j = 3 ∨ j = 4 ∨ j = 5)) → M' c j = M c j) → M' 0 4 = M' g.1 g.2.1 - M' g.1 g.2.2 → M' 0 5 = M' 0 3 + M' 0 4 → M' 0 3 - M' g.1 g.2.2 = M 0 3 - M g.1 g.2.2 → o.J K M' := o.2.2
noncomputable abbrev gm_Or : Type := (Nat → Option (Nat × Nat)) × (Nat → Int → Option Nat) × gm_O3
/-- kind and length, references, types: from .. to .., least, most -/
noncomputable def gm_Fx (O : gm_Or) (n : Nat) (K : gm_K) (R : gm_R) (M : gm_M) : Prop :=
  (∀ k q, O.1 k = some q → 1 ≤ k ∧ k ≤ n ∧ K k = q) ∧ (∀ k j r, O.2.1 k j = some r → k ≤ n ∧ R k j = r) ∧ (∀ k r, r ∈ O.2.2.ty k → k ≤ n ∧ ∀ j, r.1 ≤ j → j ≤ r.2.1 → (-2147483648 ≤ M k j ∧ M k j < 2147483648) ∧ r.2.2.1 ≤ M k j ∧ M k j ≤ r.2.2.2) ∧ (∀ k r, r ∈ O.2.2.fp k → k ≤ n) ∧ O.2.2.J K M
/-- a write of a number between a and b, at a place between lo and hi, keeps the types of the cell k -/
noncomputable def gm_fpw (O : gm_Or) (k : Nat) (lo hi : Int) : Bool := fl_all (O.2.2.fp k) fun r => fl_if (fl_lt hi r.1) true (fl_lt r.2 lo)
theorem gm_fpw_def {O : gm_Or} {k : Nat} {lo hi : Int} : gm_fpw O k lo hi = (O.2.2.fp k).all fun r => decide (hi < r.1) || decide (r.2 < lo) := by
  simp only [gm_fpw, fl_and, fl_or, fl_beq, fl_blt, fl_le_eq, fl_lt_eq, fl_ie_eq, fl_any_eq, fl_all_eq, fl_find_eq, fl_lk_eq, fl_nth_eq]
noncomputable def gm_tyw (O : gm_Or) (k : Nat) (lo hi a b : Int) : Bool := fl_if (gm_fpw O k lo hi) (fl_all (O.2.2.ty k) fun r => fl_if (fl_lt hi r.1) true (fl_if (fl_lt r.2.1 lo) true (fl_if (fl_le r.2.2.1 a) (fl_if (fl_le b r.2.2.2) (fl_if (fl_le (-2147483648) a) (fl_lt b 2147483648) false) false) false))) false
theorem gm_tyw_def {O : gm_Or} {k : Nat} {lo hi a b : Int} : gm_tyw O k lo hi a b = (gm_fpw O k lo hi && (O.2.2.ty k).all fun r => decide (hi < r.1) || (decide (r.2.1 < lo) || (decide (r.2.2.1 ≤ a) && (decide (b ≤ r.2.2.2) && (decide (-2147483648 ≤ a) && decide (b < 2147483648)))))) := by
  simp only [gm_tyw, fl_and, fl_or, fl_beq, fl_blt, fl_le_eq, fl_lt_eq, fl_ie_eq, fl_any_eq, fl_all_eq, fl_find_eq, fl_lk_eq, fl_nth_eq]
theorem gm_J_M {O : gm_Or} {K : gm_K} {M : gm_M} {k : Nat} {j v lo hi : Int} (hJ : O.2.2.J K M) (h : gm_fpw O k lo hi = true) (h1 : lo ≤ j) (h2 : j ≤ hi) : O.2.2.J K (gm_uM M k j v) := by
  refine O.2.2.hJ K K M _ (fun _ _ _ => rfl) (fun c r hr i h3 h4 => ?_) hJ
  unfold gm_uM
  rw [if_neg]
  rintro ⟨rfl, rfl⟩
  have h7 := List.all_eq_true.mp (gm_fpw_def.symm.trans h) r hr
  simp only [Bool.or_eq_true, decide_eq_true_eq] at h7
  omega
theorem gm_Fx_M {O : gm_Or} {n : Nat} {K : gm_K} {R : gm_R} {M : gm_M} {k : Nat} {j v lo hi a b : Int} (hF : gm_Fx O n K R M) (h : gm_tyw O k lo hi a b = true) (h1 : lo ≤ j) (h2 : j ≤ hi) (h3 : a ≤ v) (h4 : v ≤ b) : gm_Fx O n K R (gm_uM M k j v) := by
  rw [gm_tyw_def] at h
  rw [Bool.and_eq_true] at h
  refine ⟨hF.1, hF.2.1, fun c r hr => ?_, hF.2.2.2.1, gm_J_M hF.2.2.2.2 h.1 h1 h2⟩
  obtain ⟨g1, g2⟩ := hF.2.2.1 c r hr
  refine ⟨g1, fun i h5 h6 => ?_⟩
  unfold gm_uM
  split
  · rename_i e
    obtain ⟨rfl, rfl⟩ := e
    have h7 := List.all_eq_true.mp h.2 r hr
    simp only [Bool.or_eq_true, Bool.and_eq_true, decide_eq_true_eq] at h7
    rcases h7 with h7 | h7 | ⟨h7, h8, h9, h10⟩
    · omega
    · omega
    · exact ⟨⟨by omega, by omega⟩, by omega, by omega⟩
  · exact g2 i h5 h6
theorem gm_Fx_E {O : gm_Or} {n : Nat} {K : gm_K} {R : gm_R} {M : gm_M} {k : Nat} {j v : Int} (hF : gm_Fx O n K R M) (h : ((O.2.2.ty k).isEmpty && (O.2.2.fp k).isEmpty) = true) : gm_Fx O n K R (gm_uM M k j v) := by
  rw [Bool.and_eq_true] at h
  refine ⟨hF.1, hF.2.1, fun c r hr => ?_, hF.2.2.2.1, gm_J_M (lo := j) (hi := j) hF.2.2.2.2 ?_ (Int.le_refl _) (Int.le_refl _)⟩
  · obtain ⟨g1, g2⟩ := hF.2.2.1 c r hr
    refine ⟨g1, fun i h5 h6 => ?_⟩
    unfold gm_uM
    split
    · rename_i e
      obtain ⟨rfl, rfl⟩ := e
      rw [List.isEmpty_iff.mp h.1] at hr
      cases hr
    · exact g2 i h5 h6
  · rw [gm_fpw_def]
    rw [List.isEmpty_iff.mp h.2]
    rfl
/-- the types alone -/
noncomputable def gm_tyv (O : gm_Or) (k : Nat) (lo hi a b : Int) : Bool := fl_all (O.2.2.ty k) fun r => fl_if (fl_lt hi r.1) true (fl_if (fl_lt r.2.1 lo) true (fl_if (fl_le r.2.2.1 a) (fl_if (fl_le b r.2.2.2) (fl_if (fl_le (-2147483648) a) (fl_lt b 2147483648) false) false) false))
theorem gm_tyv_def {O : gm_Or} {k : Nat} {lo hi a b : Int} : gm_tyv O k lo hi a b = (O.2.2.ty k).all fun r => decide (hi < r.1) || (decide (r.2.1 < lo) || (decide (r.2.2.1 ≤ a) && (decide (b ≤ r.2.2.2) && (decide (-2147483648 ≤ a) && decide (b < 2147483648))))) := by
  simp only [gm_tyv, fl_and, fl_or, fl_beq, fl_blt, fl_le_eq, fl_lt_eq, fl_ie_eq, fl_any_eq, fl_all_eq, fl_find_eq, fl_lk_eq, fl_nth_eq]
theorem gm_Fx_G {O : gm_Or} {n : Nat} {K : gm_K} {R : gm_R} {M M' : gm_M} {k : Nat} {j v a b : Int} (hF : gm_Fx O n K R M) (h : gm_tyv O k j j a b = true) (h0 : (O.2.2.ty 0).isEmpty = true) (h3 : a ≤ v) (h4 : v ≤ b) (hM : ∀ c i, 1 ≤ c → M' c i = gm_uM M k j v c i) (hJ : O.2.2.J K M') : gm_Fx O n K R M' := by
  refine ⟨hF.1, hF.2.1, fun c r hr => ?_, hF.2.2.2.1, hJ⟩
  obtain ⟨g1, g2⟩ := hF.2.2.1 c r hr
  refine ⟨g1, fun i h5 h6 => ?_⟩
  have hc : 1 ≤ c := by
    cases c with
    | zero => rw [List.isEmpty_iff.mp h0] at hr; cases hr
    | succ c => omega
  rw [hM c i hc]
  unfold gm_uM
  split
  · rename_i e
    obtain ⟨rfl, rfl⟩ := e
    have h7 := List.all_eq_true.mp (gm_tyv_def.symm.trans h) r hr
    simp only [Bool.or_eq_true, Bool.and_eq_true, decide_eq_true_eq] at h7
    rcases h7 with h7 | h7 | ⟨h7, h8, h9, h10⟩
    · omega
    · omega
    · exact ⟨⟨by omega, by omega⟩, by omega, by omega⟩
  · exact g2 i h5 h6
theorem gm_Fx_R {O : gm_Or} {n : Nat} {K : gm_K} {R : gm_R} {M : gm_M} {k : Nat} {j : Int} {v : Nat} (hF : gm_Fx O n K R M) (h : O.2.1 k j = none) : gm_Fx O n K (gm_uR R k j v) M := by
  refine ⟨hF.1, fun a b x hx => ?_, hF.2.2.1, hF.2.2.2⟩
  obtain ⟨h1, h3⟩ := hF.2.1 a b x hx
  refine ⟨h1, ?_⟩
  unfold gm_uR
  split
  · rename_i e
    obtain ⟨rfl, rfl⟩ := e
    rw [h] at hx; cases hx
  · exact h3
theorem gm_Fx_n {O : gm_Or} {n kd len : Nat} {K : gm_K} {R : gm_R} {M : gm_M} (hF : gm_Fx O n K R M) : gm_Fx O (n + 1) (gm_nK K n kd len) (gm_nR R n) (gm_nM M n) := by
  refine ⟨fun k q h => ?_, fun k j r h => ?_, fun k r h => ?_, fun k r h => ?_, O.2.2.hJ K _ M _ (fun k r h => ?_) (fun k r h j _ _ => ?_) hF.2.2.2.2⟩
  · obtain ⟨h1, h2, h3⟩ := hF.1 k q h
    exact ⟨h1, by omega, by unfold gm_nK; rw [if_neg (by omega)]; exact h3⟩
  · obtain ⟨h1, h2⟩ := hF.2.1 k j r h
    exact ⟨by omega, by unfold gm_nR; rw [if_neg (by omega)]; exact h2⟩
  · obtain ⟨h1, h2⟩ := hF.2.2.1 k r h
    refine ⟨by omega, fun j h3 h4 => ?_⟩
    unfold gm_nM
    rw [if_neg (by omega)]
    exact h2 j h3 h4
  · have := hF.2.2.2.1 k r h; omega
  · have := hF.2.2.2.1 k r h
    unfold gm_nK
    rw [if_neg (by omega)]
  · have := hF.2.2.2.1 k r h
    unfold gm_nM
    rw [if_neg (by omega)]
/-- what the types say of a stretch -/
noncomputable def gm_tyq (l : List (Int × Int × Int × Int)) : Nat → Int → Int → Option (Int × Int)
  | 0, _, _ => none
  | f + 1, lo, hi => match fl_find l fun r => fl_if (fl_le r.1 lo) (fl_le lo r.2.1) false with
    | none => none
    | some r => if hi ≤ r.2.1 then some (r.2.2.1, r.2.2.2) else (match gm_tyq l f (r.2.1 + 1) hi with
      | some q => some (if r.2.2.1 ≤ q.1 then r.2.2.1 else q.1, if r.2.2.2 ≤ q.2 then q.2 else r.2.2.2)
      | none => none)
noncomputable def gm_tyr (O : gm_Or) (k : Nat) (lo hi : Int) : Option (Int × Int) := match fl_ty hi (O.2.2.ty k) lo with
  | some q => some q
  | none => gm_tyq (O.2.2.ty k) 400 lo hi
theorem gm_tyq_s {O : gm_Or} {n : Nat} {K : gm_K} {R : gm_R} {M : gm_M} {k : Nat} (hF : gm_Fx O n K R M) : ∀ (f : Nat) (lo hi : Int) (q : Int × Int), gm_tyq (O.2.2.ty k) f lo hi = some q → k ≤ n ∧ ∀ j, lo ≤ j → j ≤ hi → (-2147483648 ≤ M k j ∧ M k j < 2147483648) ∧ q.1 ≤ M k j ∧ M k j ≤ q.2 := by
  intro f
  induction f with
  | zero => intro lo hi q h; cases h
  | succ f ih =>
    intro lo hi q h
    unfold gm_tyq at h
    simp only [fl_and, fl_or, fl_beq, fl_blt, fl_le_eq, fl_lt_eq, fl_ie_eq, fl_any_eq, fl_all_eq, fl_find_eq, fl_lk_eq, fl_nth_eq] at h
    cases hr : (O.2.2.ty k).find? fun r => decide (r.1 ≤ lo) && decide (lo ≤ r.2.1) with
    | none => rw [hr] at h; cases h
    | some r =>
      rw [hr] at h
      dsimp only at h
      have h1 := List.find?_some hr
      simp only [Bool.and_eq_true, decide_eq_true_eq] at h1
      obtain ⟨h2, h3⟩ := hF.2.2.1 k r (List.mem_of_find?_eq_some hr)
      split at h
      · cases h
        exact ⟨h2, fun j h4 h5 => h3 j (by omega) (by omega)⟩
      · cases hq : gm_tyq (O.2.2.ty k) f (r.2.1 + 1) hi with
        | none => rw [hq] at h; cases h
        | some p =>
          rw [hq] at h
          dsimp only at h
          cases h
          obtain ⟨-, h6⟩ := ih _ _ _ hq
          refine ⟨h2, fun j h4 h5 => ?_⟩
          by_cases e : j ≤ r.2.1
          · obtain ⟨g1, g2, g3⟩ := h3 j (by omega) e
            refine ⟨g1, ?_, ?_⟩
            · dsimp only; split <;> omega
            · dsimp only; split <;> omega
          · obtain ⟨g1, g2, g3⟩ := h6 j (by omega) h5
            refine ⟨g1, ?_, ?_⟩
            · dsimp only; split <;> omega
            · dsimp only; split <;> omega
theorem fl_ty_s {O : gm_Or} {n : Nat} {K : gm_K} {R : gm_R} {M : gm_M} {k : Nat} {hi : Int} (hF : gm_Fx O n K R M) : ∀ (l : List (Int × Int × Int × Int)) (lo : Int) (q : Int × Int), (∀ r ∈ l, r ∈ O.2.2.ty k) → fl_ty hi l lo = some q → k ≤ n ∧ ∀ j, lo ≤ j → j ≤ hi → (-2147483648 ≤ M k j ∧ M k j < 2147483648) ∧ q.1 ≤ M k j ∧ M k j ≤ q.2 := by
  intro l
  induction l with
  | nil => intro lo q _ h; cases h
  | cons r l ih =>
    intro lo q hm h
    have hl : ∀ x ∈ l, x ∈ O.2.2.ty k := fun x hx => hm x (List.mem_cons_of_mem _ hx)
    have h : fl_if (fl_if (fl_le r.1 lo) (fl_le lo r.2.1) false) (fl_if (fl_le hi r.2.1) (some (r.2.2.1, r.2.2.2)) (fl_tj r (fl_ty hi l (r.2.1 + 1)))) (fl_ty hi l lo) = some q := h
    cases e1 : fl_if (fl_le r.1 lo) (fl_le lo r.2.1) false with
    | false => rw [e1] at h; exact ih lo q hl h
    | true =>
      rw [e1] at h
      have h : fl_if (fl_le hi r.2.1) (some (r.2.2.1, r.2.2.2)) (fl_tj r (fl_ty hi l (r.2.1 + 1))) = some q := h
      rw [fl_and, fl_le_eq, fl_le_eq, Bool.and_eq_true, decide_eq_true_eq, decide_eq_true_eq] at e1
      obtain ⟨h2, h3⟩ := hF.2.2.1 k r (hm r List.mem_cons_self)
      cases e2 : fl_le hi r.2.1 with
      | true =>
        rw [e2] at h
        rw [fl_le_eq, decide_eq_true_eq] at e2
        have h : some (r.2.2.1, r.2.2.2) = some q := h
        cases h
        exact ⟨h2, fun j h4 h5 => h3 j (by omega) (by omega)⟩
      | false =>
        rw [e2] at h
        have h : fl_tj r (fl_ty hi l (r.2.1 + 1)) = some q := h
        cases hq : fl_ty hi l (r.2.1 + 1) with
        | none => rw [hq] at h; exact nomatch (show (none : Option (Int × Int)) = some q from h)
        | some p =>
          rw [hq] at h
          have h : some (fl_if (fl_le r.2.2.1 p.1) r.2.2.1 p.1, fl_if (fl_le r.2.2.2 p.2) p.2 r.2.2.2) = some q := h
          have h6 := (ih _ _ hl hq).2
          have q1 : q.1 ≤ r.2.2.1 ∧ q.1 ≤ p.1 := by
            rw [← (Option.some.inj h)]
            show fl_if (fl_le r.2.2.1 p.1) r.2.2.1 p.1 ≤ _ ∧ fl_if (fl_le r.2.2.1 p.1) r.2.2.1 p.1 ≤ _
            cases e : fl_le r.2.2.1 p.1 with
            | true => rw [fl_le_eq, decide_eq_true_eq] at e; exact ⟨Int.le_refl _, e⟩
            | false => rw [fl_le_eq, decide_eq_false_iff_not] at e; exact ⟨show p.1 ≤ r.2.2.1 by omega, Int.le_refl _⟩
          have q2 : r.2.2.2 ≤ q.2 ∧ p.2 ≤ q.2 := by
            rw [← (Option.some.inj h)]
            show _ ≤ fl_if (fl_le r.2.2.2 p.2) p.2 r.2.2.2 ∧ _ ≤ fl_if (fl_le r.2.2.2 p.2) p.2 r.2.2.2
            cases e : fl_le r.2.2.2 p.2 with
            | true => rw [fl_le_eq, decide_eq_true_eq] at e; exact ⟨e, Int.le_refl _⟩
            | false => rw [fl_le_eq, decide_eq_false_iff_not] at e; exact ⟨Int.le_refl _, show p.2 ≤ r.2.2.2 by omega⟩
          refine ⟨h2, fun j h4 h5 => ?_⟩
          by_cases e : j ≤ r.2.1
          · obtain ⟨g1, g2, g3⟩ := h3 j (by omega) e
            exact ⟨g1, by omega, by omega⟩
          · obtain ⟨g1, g2, g3⟩ := h6 j (by omega) h5
            exact ⟨g1, by omega, by omega⟩
theorem gm_tyr_s {O : gm_Or} {n : Nat} {K : gm_K} {R : gm_R} {M : gm_M} {k : Nat} {lo hi : Int} {q : Int × Int} (hF : gm_Fx O n K R M) (h : gm_tyr O k lo hi = some q) : k ≤ n ∧ ∀ j, lo ≤ j → j ≤ hi → (-2147483648 ≤ M k j ∧ M k j < 2147483648) ∧ q.1 ≤ M k j ∧ M k j ≤ q.2 := by
  unfold gm_tyr at h
  cases e : fl_ty hi (O.2.2.ty k) lo with
  | some p =>
    rw [e] at h
    have h : some p = some q := h
    cases h
    exact fl_ty_s hF _ _ _ (fun _ hr => hr) e
  | none => rw [e] at h; exact gm_tyq_s hF _ _ _ _ h
noncomputable def gm_ir (x : Int) : Prop := -2147483648 ≤ x ∧ x < 2147483648
/-- a comparison of numbers that are ints -/
noncomputable def gm_cm : ClassFile.Cond → Int → Int → Prop
  | .eq, x, y => x = y
  | .ne, x, y => ¬ x = y
  | .lt, x, y => x < y
  | .ge, x, y => y ≤ x
  | .gt, x, y => y < x
  | .le, x, y => x ≤ y
theorem gm_ir_w {x : Int} (h : gm_ir x) : gm_w x = x := gm_w_id h.1 h.2
theorem gm_cm_w {c : ClassFile.Cond} {x y : Int} (hx : gm_ir x) (hy : gm_ir y) : gm_cmp c x y = gm_cm c x y := by
  cases c <;> simp only [gm_cmp, gm_cm, gm_ir_w hx, gm_ir_w hy]
noncomputable def gm_and (x y : Int) : Int := (Int32.ofInt x &&& Int32.ofInt y).toInt
noncomputable def gm_or (x y : Int) : Int := (Int32.ofInt x ||| Int32.ofInt y).toInt
noncomputable def gm_xor (x y : Int) : Int := (Int32.ofInt x ^^^ Int32.ofInt y).toInt
noncomputable def gm_shl (x y : Int) : Int := (Int32.ofInt x <<< (Int32.ofInt y &&& 31)).toInt
noncomputable def gm_shr (x y : Int) : Int := (Int32.ofInt x >>> (Int32.ofInt y &&& 31)).toInt
noncomputable def gm_ushr (x y : Int) : Int := ((Int32.ofInt x).toUInt32 >>> ((Int32.ofInt y).toUInt32 &&& Int32.toUInt32 31)).toInt32.toInt
noncomputable def gm_land (x y : Int) : Int := (Int64.ofInt x &&& Int64.ofInt y).toInt
noncomputable def gm_lor (x y : Int) : Int := (Int64.ofInt x ||| Int64.ofInt y).toInt
noncomputable def gm_lxor (x y : Int) : Int := (Int64.ofInt x ^^^ Int64.ofInt y).toInt
/-- is here a throw: the class, and nothing else -/
noncomputable def gm_isx (mi pc ix : Nat) : Option Nat := match gm_xlk (gm_ow mi) ix, gm_at mi (pc + 3), gm_at mi (pc + 4) with
  | some q, some .dup, some (.ldc is) => if (gm_sld (gm_ow mi) is).isSome = true ∧ gm_at mi (pc + 6) = some (.invokespecial q.2) ∧ gm_at mi (pc + 9) = some .athrow then some q.1 else none
  | some q, some .dup, some (.ldc_w is) => if (gm_sld (gm_ow mi) is).isSome = true ∧ gm_at mi (pc + 7) = some (.invokespecial q.2) ∧ gm_at mi (pc + 10) = some .athrow then some q.1 else none
  | _, _, _ => none
section GS2
variable {X : Int → Int} {LX d bc bs mi pc : Nat} {L : gm_L} {st : List gm_V} {n : Nat} {K : gm_K} {R : gm_R} {M : gm_M} {Q Q' : gm_Q}
theorem gm_Wp_mono (hQ : ∀ o n K R M, Q o n K R M → Q' o n K R M) (h : gm_Wp X LX d bc bs mi pc L st n K R M Q) : gm_Wp X LX d bc bs mi pc L st n K R M Q' := by
  intro p l e Rm s m args below meth c D ti adK adV A α0 n0 mc ms hcx hev hd hd2 hmc hms hA α H locs cells slots ls sv hxt hc1 hc2 hR hL hS T hT Xs
  obtain ⟨t, a1, o, b1, b2, b3⟩ := h p l e Rm s m args below meth c D ti adK adV A α0 n0 mc ms hcx hev hd hd2 hmc hms hA α H locs cells slots ls sv hxt hc1 hc2 hR hL hS T hT Xs
  refine ⟨t, a1, o, b1, b2, ?_⟩
  rcases b3 with ⟨⟨⟨v, u, α', n', K', R', M', e1, e2, e3, e4⟩, e5⟩, e6⟩ | ⟨q, rfl, E1, ce, L1, ⟨⟨x, α', n', K', R', M', e1, e2, e3, e4⟩, e5⟩, e6⟩
  · exact Or.inl ⟨⟨⟨v, u, α', n', K', R', M', e1, e2, hQ _ _ _ _ _ e3, e4⟩, e5⟩, e6⟩
  · exact Or.inr ⟨q, rfl, E1, ce, L1, ⟨⟨x, α', n', K', R', M', e1, e2, hQ _ _ _ _ _ e3, e4⟩, e5⟩, e6⟩
theorem gm_Wp_wk {d' bc' bs' : Nat} (hd : d' ≤ d) (h1 : bc' ≤ bc) (h2 : bs' ≤ bs) (h : gm_Wp X LX d' bc' bs' mi pc L st n K R M Q) : gm_Wp X LX d bc bs mi pc L st n K R M Q := by
  intro p l e Rm s m args below meth c D ti adK adV A α0 n0 mc ms hcx hev hd1 hd2 hmc hms hA α H locs cells slots ls sv hxt hc1 hc2 hR hL hS
  exact h p l e Rm s m args below meth c D ti adK adV A α0 n0 mc ms hcx hev (Nat.le_trans hd hd1) (Nat.le_trans (Nat.mul_le_mul_right 300 hd) hd2) hmc hms hA α H locs cells slots ls sv hxt (Nat.le_trans (Nat.add_le_add_left h1 _) hc1) (Nat.le_trans (Nat.add_le_add_left h2 _) hc2) hR hL hS
/-- cell 0 is no cell -/
theorem gm_wl_g {ti : Nat → ClassId} {α : Nat → Nat} {n : Nat} {K : gm_K} {R : gm_R} {M M' : gm_M} (h : ∀ c i, 1 ≤ c → M' c i = M c i) : gm_wl ti α n K R M' = gm_wl ti α n K R M := by
  refine gm_wl_ext (fun k h1 h2 => ⟨rfl, ?_⟩)
  have e : M' k = M k := funext fun i => h k i h1
  have e2 : gm_fs α R M' k = gm_fs α R M k := by
    funext c
    unfold gm_fs
    rw [e]
  unfold gm_en
  rw [e, e2]
theorem gm_Wp_g {M' : gm_M} (hM : ∀ c i, 1 ≤ c → M' c i = M c i) (h : gm_Wp X LX d bc bs mi pc L st n K R M' Q) : gm_Wp X LX d bc bs mi pc L st n K R M Q := by
  intro p l e Rm s m args below meth c D ti adK adV A α0 n0 mc ms hcx hev hd hd2 hmc hms hA α H locs cells slots ls sv hxt hc1 hc2 hR hL hS
  refine h p l e Rm s m args below meth c D ti adK adV A α0 n0 mc ms hcx hev hd hd2 hmc hms hA α H locs cells slots ls sv hxt hc1 hc2 ?_ hL hS
  unfold gm_Rl at hR ⊢
  rw [gm_wl_g hM]
  exact hR
theorem gm_cio_spec {i : Nat} (hi : i < 370) (h : gm_cio i < 12) : gm_cn (gm_cio i) = (gm_mn i).cls := by
  have := List.all_eq_true.mp gm_cio_ok i (List.mem_range.mpr (by omega))
  simp only [Bool.or_eq_true, Bool.and_eq_true, decide_eq_true_eq] at this
  rcases this with h1 | h1
  · omega
  · exact h1.2
theorem gm_isx_of {ix x : Nat} (h : gm_isx mi pc ix = some x) : ∃ (ic is id : Nat) (lw : Bool), gm_xlk (gm_ow mi) ix = some (x, ic) ∧ gm_at mi (pc + 3) = some .dup ∧ gm_at mi (pc + 4) = some (if lw = true then .ldc_w is else .ldc is) ∧ gm_at mi (pc + (if lw = true then 7 else 6)) = some (.invokespecial ic) ∧ gm_at mi (pc + (if lw = true then 10 else 9)) = some .athrow ∧ gm_sld (gm_ow mi) is = some id := by
  unfold gm_isx at h
  split at h
  · rename_i q is e1 e2 e3
    obtain ⟨q1, q2⟩ := q
    split at h
    · rename_i e4
      cases h
      obtain ⟨id, hid⟩ := Option.isSome_iff_exists.mp e4.1
      exact ⟨q2, is, id, false, e1, e2, e3, e4.2.1, e4.2.2, hid⟩
    · cases h
  · rename_i q is e1 e2 e3
    obtain ⟨q1, q2⟩ := q
    split at h
    · rename_i e4
      cases h
      obtain ⟨id, hid⟩ := Option.isSome_iff_exists.mp e4.1
      exact ⟨q2, is, id, true, e1, e2, e3, e4.2.1, e4.2.2, hid⟩
    · cases h
  · cases h
theorem gm_cn1 : gm_cn 1 = "GlacierMail$State" := by decide +kernel
end GS2
end
/-! 20.ck -/
section
/-! THE CHECKER: a method is explored over bounds of ints, with names; the heap is a list of facts; loops are cut where it is told. -/
noncomputable abbrev ck_I : Type := Int × Int × List (Nat × Int)
noncomputable abbrev ck_A : Type := ck_I ⊕ (ck_I ⊕ (Nat ⊕ Nat))
/-- where a number stands too: a local, a cell; it is more by so much -/
noncomputable abbrev ck_S : Type := Option ((Nat × Int) ⊕ ((Nat × Int × Int) ⊕ (Nat × Int × Nat × Int × Int)))
noncomputable abbrev ck_AL : Type := List (Option ck_A)
noncomputable abbrev ck_AS : Type := List (ck_A × ck_S)
/-- kinds and lengths; references; ints: cell, from, to, bounds -/
noncomputable abbrev ck_F : Type := List (Nat × Nat × Nat) × List (Nat × Int × Nat) × List (Nat × Int × Int × ck_I)
/-- how it ends (a throw, or a value or none), how many cells there are then, facts -/
noncomputable abbrev ck_Oc : Type := (Nat ⊕ Option ck_A) × Nat × ck_F
/-- frames, cells, slots; cells that are there; arguments; facts; what may be written: ints, references; ends -/
noncomputable abbrev ck_Sum : Type := (Nat × Nat × Nat) × Nat × List ck_A × ck_F × (List (Nat × Int × Int) × List (Nat × Int)) × List ck_Oc
/-- a cut: locals, facts, the name, its place, whether it grows -/
noncomputable abbrev ck_C : Type := ck_AL × ck_F × Nat × (Nat ⊕ (Nat × Int)) × Bool
/-- a cut on the way: place, what is known there, cells, slots, cells that are there -/
noncomputable abbrev ck_H : Type := Nat × ck_C × Nat × Nat × Nat
/-! meanings -/
noncomputable def ck_r6 (x : Int) : Prop := -9223372036854775808 ≤ x ∧ x < 9223372036854775808
/-- a name and an offset: the number itself; a name from 1000000 on: the number is not less -/
noncomputable def ck_g1 (σ : Nat → Int) (q : Nat × Int) (x : Int) : Prop := (q.1 < 1000000 → x = σ q.1 + q.2) ∧ (1000000 ≤ q.1 → σ (q.1 - 1000000) + q.2 ≤ x)
noncomputable def ck_gt (σ : Nat → Int) (t : List (Nat × Int)) (x : Int) : Prop := ∀ q, q ∈ t → ck_g1 σ q x
noncomputable def ck_gi (σ : Nat → Int) (a : ck_I) (x : Int) : Prop := a.1 ≤ x ∧ x ≤ a.2.1 ∧ ck_gt σ a.2.2 x
noncomputable def ck_ga (σ : Nat → Int) : ck_A → gm_V → Prop
  | .inl a, v => ∃ x, v = gm_vi x ∧ gm_ir x ∧ ck_gi σ a x
  | .inr (.inl a), v => ∃ x, v = gm_vl x ∧ ck_r6 x ∧ ck_gi σ a x
  | .inr (.inr (.inl k)), v => v = gm_vr k
  | .inr (.inr (.inr c)), v => v = gm_vo c
noncomputable def ck_gl (σ : Nat → Int) (AL : ck_AL) (L : gm_L) : Prop := AL.length = L.length ∧ ∀ (j : Nat) (b : ck_A), AL[j]? = some (some b) → ∃ u, L[j]? = some (some u) ∧ ck_ga σ b u
noncomputable def ck_gr (L : gm_L) (M : gm_M) : ck_S → gm_V → Prop
  | none, _ => True
  | some (.inl q), v => ∃ u, L[q.1]? = some (some u) ∧ (v = u ∧ q.2 = 0 ∨ ∃ y, u = gm_vi y ∧ v = gm_vi (y + q.2))
  | some (.inr (.inl q)), v => v = gm_vi (M q.1 q.2.1 + q.2.2)
  | some (.inr (.inr q)), v => v = gm_vi (M q.1 q.2.1 - M q.2.2.1 q.2.2.2.1 + q.2.2.2.2)
noncomputable def ck_gs (σ : Nat → Int) (L : gm_L) (M : gm_M) : ck_AS → List gm_V → Prop
  | [], st => st = []
  | a :: as, st => ∃ v vs, st = v :: vs ∧ (ck_ga σ a.1 v ∧ ck_gr L M a.2 v) ∧ ck_gs σ L M as vs
noncomputable def ck_gf (σ : Nat → Int) (F : ck_F) (n : Nat) (K : gm_K) (R : gm_R) (M : gm_M) : Prop :=
  (∀ q ∈ F.1, (1 ≤ q.1 ∧ q.1 ≤ n) ∧ K q.1 = q.2) ∧ (∀ q ∈ F.2.1, q.1 ≤ n ∧ R q.1 q.2.1 = q.2.2) ∧ ∀ q ∈ F.2.2, q.1 ≤ n ∧ ∀ j, q.2.1 ≤ j → j ≤ q.2.2.1 → gm_ir (M q.1 j) ∧ ck_gi σ q.2.2.2 (M q.1 j)
noncomputable def ck_fr (W : List (Nat × Int × Int) × List (Nat × Int)) (n0 : Nat) (K0 : gm_K) (R0 : gm_R) (M0 : gm_M) (n : Nat) (K : gm_K) (R : gm_R) (M : gm_M) : Prop :=
  n0 ≤ n ∧ (∀ k, k ≤ n0 → K k = K0 k) ∧ (∀ k j, k ≤ n0 → (∀ w ∈ W.1, ¬ (w.1 = k ∧ w.2.1 ≤ j ∧ j ≤ w.2.2)) → M k j = M0 k j) ∧ (∀ k j, k ≤ n0 → ¬ (k, j) ∈ W.2 → R k j = R0 k j)
/-! words of the checker -/
noncomputable def ck_top : ck_I := ((-2147483648 : Int), (2147483647 : Int), [])
noncomputable def ck_tp6 : ck_I := ((-9223372036854775808 : Int), (9223372036854775807 : Int), [])
noncomputable def ck_one (z : Int) : ck_I := (z, z, [])
noncomputable def ck_in (a : ck_I) : Bool := decide (-2147483648 ≤ a.1) && decide (a.2.1 ≤ 2147483647)
noncomputable def ck_nrm (a : ck_I) : ck_I := if ck_in a = true then a else ck_top
noncomputable def ck_sg (a : ck_I) : Bool := decide (a.1 = a.2.1)
noncomputable def ck_mv (t : List (Nat × Int)) (z : Int) : List (Nat × Int) := t.map fun q => (q.1, q.2 + z)
noncomputable def ck_cv : gm_V → ck_A
  | .inl x => .inl (ck_one x)
  | .inr (.inl x) => .inr (.inl (ck_one x))
  | .inr (.inr (.inl k)) => .inr (.inr (.inl k))
  | .inr (.inr (.inr c)) => .inr (.inr (.inr c))
noncomputable def ck_cvk : gm_V → Bool
  | .inl x => decide (-2147483648 ≤ x) && decide (x < 2147483648)
  | .inr (.inl x) => decide (-9223372036854775808 ≤ x) && decide (x < 9223372036854775808)
  | _ => true
noncomputable def ck_so : ck_A → Nat
  | .inl _ => 0
  | .inr (.inl _) => 1
  | .inr (.inr _) => 2
/-- two ints, first and second: bounds of the result -/
noncomputable def ck_aop : Instr → ck_I → ck_I → ck_I
  | .iadd, a, b => (a.1 + b.1, a.2.1 + b.2.1, if ck_sg b = true then ck_mv a.2.2 b.1 else if ck_sg a = true then ck_mv b.2.2 a.1 else [])
  | .isub, a, b => (a.1 - b.2.1, a.2.1 - b.1, if ck_sg b = true then ck_mv a.2.2 (- b.1) else [])
  | .imul, a, b => if 0 ≤ a.1 ∧ 0 ≤ b.1 then (a.1 * b.1, a.2.1 * b.2.1, []) else ck_top
  | .iand, a, b => if 0 ≤ b.1 then (0, b.2.1, []) else if 0 ≤ a.1 then (0, a.2.1, []) else ck_top
  | _, _, _ => ck_top
noncomputable def ck_bo (i : Instr) (f : Int → Int → Int) (a b : ck_I) : ck_I := if (ck_sg a && ck_sg b) = true then ck_one (gm_w (f a.1 b.1)) else ck_nrm (ck_aop i a b)
/-- no name s -/
noncomputable def ck_nI (s : Nat) (a : ck_I) : Bool := a.2.2.all fun q => !(q.1 == s) && !(q.1 == s + 1000000)
noncomputable def ck_nA (s : Nat) : ck_A → Bool
  | .inl a => ck_nI s a
  | .inr (.inl a) => ck_nI s a
  | _ => true
noncomputable def ck_nL (s : Nat) (AL : ck_AL) : Bool := AL.all fun a => match a with
  | some b => ck_nA s b
  | none => true
noncomputable def ck_nF (s : Nat) (F : ck_F) : Bool := F.2.2.all fun q => ck_nI s q.2.2.2
/-- what is known is enough -/
noncomputable def ck_im (t : List (Nat × Int)) (q : Nat × Int) : Bool := t.any fun p => (p.1 == q.1 && decide (p.2 = q.2)) || (decide (1000000 ≤ q.1) && (decide (q.2 ≤ p.2) && (p.1 == q.1 || (p.1 + 1000000 == q.1 && decide (p.1 < 1000000)))))
noncomputable def ck_leI (a b : ck_I) : Bool := fl_if (fl_le b.1 a.1) (fl_if (fl_le a.2.1 b.2.1) (fl_all b.2.2 (ck_im a.2.2)) false) false
theorem ck_leI_def {a b : ck_I} : ck_leI a b = (decide (b.1 ≤ a.1) && decide (a.2.1 ≤ b.2.1) && b.2.2.all (ck_im a.2.2)) := by
  simp only [ck_leI, fl_and, fl_or, fl_beq, fl_blt, fl_le_eq, fl_lt_eq, fl_ie_eq, fl_any_eq, fl_all_eq, fl_find_eq, fl_lk_eq, fl_nth_eq, Bool.and_assoc]
noncomputable def ck_ex (a : ck_I) : Bool := a.2.2.any fun p => decide (p.1 < 1000000)
noncomputable def ck_leA : ck_A → ck_A → Bool
  | .inl a, .inl b => ck_leI a b
  | .inr (.inl a), .inr (.inl b) => ck_leI a b
  | .inr (.inr (.inl k)), .inr (.inr (.inl j)) => k == j
  | .inr (.inr (.inr k)), .inr (.inr (.inr j)) => k == j
  | _, _ => false
noncomputable def ck_leL : ck_AL → ck_AL → Bool
  | [], [] => true
  | _ :: as, none :: bs => ck_leL as bs
  | some a :: as, some b :: bs => ck_leA a b && ck_leL as bs
  | _, _ => false
noncomputable def ck_fi (F : ck_F) (k : Nat) (lo hi : Int) : Option ck_I := (fl_find F.2.2 fun q => fl_if (Nat.beq q.1 k) (fl_if (fl_le q.2.1 lo) (fl_le hi q.2.2.1) false) false).map fun q => q.2.2.2
theorem ck_fi_def {F : ck_F} {k : Nat} {lo hi : Int} : ck_fi F k lo hi = (F.2.2.find? fun q => q.1 == k && (decide (q.2.1 ≤ lo) && decide (hi ≤ q.2.2.1))).map fun q => q.2.2.2 := by
  simp only [ck_fi, fl_and, fl_or, fl_beq, fl_blt, fl_le_eq, fl_lt_eq, fl_ie_eq, fl_any_eq, fl_all_eq, fl_find_eq, fl_lk_eq, fl_nth_eq]
noncomputable def ck_fR (O : gm_Or) (F : ck_F) (k : Nat) (j : Int) : Option Nat := match O.2.1 k j with
  | some r => some r
  | none => (fl_find F.2.1 fun q => fl_if (Nat.beq q.1 k) (fl_ie q.2.1 j) false).map fun q => q.2.2
theorem ck_fR_def {O : gm_Or} {F : ck_F} {k : Nat} {j : Int} : ck_fR O F k j = match O.2.1 k j with
  | some r => some r
  | none => (F.2.1.find? fun q => q.1 == k && decide (q.2.1 = j)).map fun q => q.2.2 := by
  simp only [ck_fR, fl_and, fl_or, fl_beq, fl_blt, fl_le_eq, fl_lt_eq, fl_ie_eq, fl_any_eq, fl_all_eq, fl_find_eq, fl_lk_eq, fl_nth_eq]
noncomputable def ck_kd (O : gm_Or) (F : ck_F) (k : Nat) : Option (Nat × Nat) := match O.1 k with
  | some q => some q
  | none => (fl_find F.1 fun q => Nat.beq q.1 k).map fun q => q.2
theorem ck_kd_def {O : gm_Or} {F : ck_F} {k : Nat} : ck_kd O F k = match O.1 k with
  | some q => some q
  | none => (F.1.find? fun q => q.1 == k).map fun q => q.2 := by
  simp only [ck_kd, fl_and, fl_or, fl_beq, fl_blt, fl_le_eq, fl_lt_eq, fl_ie_eq, fl_any_eq, fl_all_eq, fl_find_eq, fl_lk_eq, fl_nth_eq]
/-- a fact, or else what the types say -/
noncomputable def ck_rd (O : gm_Or) (F : ck_F) (k : Nat) (lo hi : Int) : Option ck_I := match ck_fi F k lo hi with
  | some a => some a
  | none => (match gm_tyr O k lo hi with
    | some t => some (t.1, t.2, [])
    | none => none)
/-- a row of cells, piece by piece -/
noncomputable def ck_pcs (F : ck_F) (k : Nat) (b : ck_I) : Nat → Int → Int → Bool
  | 0, lo, hi => decide (hi < lo)
  | f + 1, lo, hi => decide (hi < lo) || (match fl_find F.2.2 fun q => fl_if (Nat.beq q.1 k) (fl_if (fl_le q.2.1 lo) (fl_le lo q.2.2.1) false) false with
    | some q => ck_leI q.2.2.2 b && ck_pcs F k b f (q.2.2.1 + 1) hi
    | none => false)
/-- a fact that says no less -/
noncomputable def fl_cf (f g : Nat × Int × Int × ck_I) : Bool := fl_if (Nat.beq f.1 g.1) (fl_if (fl_le f.2.1 g.2.1) (fl_if (fl_le g.2.2.1 f.2.2.1) (ck_leI f.2.2.2 g.2.2.2) false) false) false
noncomputable def fl_df (f : Nat × Int × Int × ck_I) (G : List (Nat × Int × Int × ck_I)) : List (Nat × Int × Int × ck_I) := @List.rec (Nat × Int × Int × ck_I) (fun _ => List (Nat × Int × Int × ck_I)) [] (fun g G ih => fl_if (fl_cf f g) ih (g :: G)) G
noncomputable def fl_mf (F : List (Nat × Int × Int × ck_I)) : List (Nat × Int × Int × ck_I) → Bool := @List.rec (Nat × Int × Int × ck_I) (fun _ => List (Nat × Int × Int × ck_I) → Bool) (fun G => @List.rec (Nat × Int × Int × ck_I) (fun _ => Bool) true (fun _ _ _ => false) G) (fun f _ ih G => @List.rec (Nat × Int × Int × ck_I) (fun _ => Bool) true (fun g G _ => ih (fl_df f (g :: G))) G) F
theorem fl_df_s {f : Nat × Int × Int × ck_I} : ∀ {G : List (Nat × Int × Int × ck_I)} {x : Nat × Int × Int × ck_I}, x ∈ G → fl_cf f x = true ∨ x ∈ fl_df f G := by
  intro G
  induction G with
  | nil => intro x h; cases h
  | cons y a ih =>
    intro x h
    cases e : fl_cf f y with
    | true =>
      have e2 : fl_df f (y :: a) = fl_df f a := by
        show fl_if (fl_cf f y) (fl_df f a) (y :: a) = fl_df f a
        rw [e]; rfl
      rw [e2]
      rcases List.mem_cons.mp h with rfl | h
      · exact Or.inl e
      · exact ih h
    | false =>
      have e2 : fl_df f (y :: a) = y :: a := by
        show fl_if (fl_cf f y) (fl_df f a) (y :: a) = y :: a
        rw [e]; rfl
      rw [e2]
      exact Or.inr h
theorem fl_mf_s : ∀ {F G : List (Nat × Int × Int × ck_I)} {x : Nat × Int × Int × ck_I}, fl_mf F G = true → x ∈ G → ∃ f ∈ F, fl_cf f x = true := by
  intro F
  induction F with
  | nil =>
    intro G x h hx
    cases G with
    | nil => cases hx
    | cons y a => exact (Bool.false_ne_true h).elim
  | cons f F ih =>
    intro G x h hx
    cases G with
    | nil => cases hx
    | cons y a =>
      have h : fl_mf F (fl_df f (y :: a)) = true := h
      rcases fl_df_s (f := f) hx with h2 | h2
      · exact ⟨f, List.mem_cons_self, h2⟩
      · obtain ⟨v, hv, h3⟩ := ih h h2
        exact ⟨v, List.mem_cons_of_mem _ hv, h3⟩
noncomputable def ck_leF (O : gm_Or) (F G : ck_F) : Bool := fl_if (fl_all G.1 fun q => match ck_kd O F q.1 with
    | some p => p.1 == q.2.1 && p.2 == q.2.2
    | none => false) (fl_if (fl_all G.2.1 fun q => match ck_fR O F q.1 q.2.1 with
    | some r => r == q.2.2
    | none => false) (fl_if (fl_mf F.2.2 G.2.2) true (fl_all G.2.2 fun q => (match ck_rd O F q.1 q.2.1 q.2.2.1 with
    | some a => ck_leI a q.2.2.2
    | none => false) || (decide (q.2.1 ≤ q.2.2.1) && ck_pcs F q.1 q.2.2.2 40 q.2.1 q.2.2.1))) false) false
theorem ck_leF_def {O : gm_Or} {F G : ck_F} : ck_leF O F G = ((G.1.all fun q => match ck_kd O F q.1 with
    | some p => p.1 == q.2.1 && p.2 == q.2.2
    | none => false) && ((G.2.1.all fun q => match ck_fR O F q.1 q.2.1 with
    | some r => r == q.2.2
    | none => false) && (fl_mf F.2.2 G.2.2 || G.2.2.all fun q => (match ck_rd O F q.1 q.2.1 q.2.2.1 with
    | some a => ck_leI a q.2.2.2
    | none => false) || (decide (q.2.1 ≤ q.2.2.1) && ck_pcs F q.1 q.2.2.2 40 q.2.1 q.2.2.1)))) := by
  unfold ck_leF
  rw [fl_and, fl_and, fl_or, fl_all_eq, fl_all_eq, fl_all_eq]
noncomputable def ck_jn (a b : ck_I) : ck_I := (if a.1 ≤ b.1 then a.1 else b.1, if a.2.1 ≤ b.2.1 then b.2.1 else a.2.1, a.2.2.filter (ck_im b.2.2))
/-- an int is written into cell k, at a place from lo to hi -/
noncomputable def ck_cut (lo hi : Int) (a : ck_I) (q : Nat × Int × Int × ck_I) : List (Nat × Int × Int × ck_I) := if lo = hi then (if q.2.1 < lo then [(q.1, q.2.1, lo - 1, q.2.2.2)] else []) ++ (if lo < q.2.2.1 then [(q.1, lo + 1, q.2.2.1, q.2.2.2)] else []) else [(q.1, q.2.1, q.2.2.1, ck_jn q.2.2.2 a)]
noncomputable def fl_up (k : Nat) (lo hi : Int) (a : ck_I) (l : List (Nat × Int × Int × ck_I)) : List (Nat × Int × Int × ck_I) := @List.rec _ (fun _ => List (Nat × Int × Int × ck_I)) [] (fun q _ ih => fl_if (fl_if (Nat.beq q.1 k) (fl_if (fl_le q.2.1 hi) (fl_le lo q.2.2.1) false) false) (ck_cut lo hi a q ++ ih) (q :: ih)) l
theorem fl_up_eq {k : Nat} {lo hi : Int} {a : ck_I} {l : List (Nat × Int × Int × ck_I)} : fl_up k lo hi a l = l.flatMap fun q => if q.1 = k ∧ q.2.1 ≤ hi ∧ lo ≤ q.2.2.1 then ck_cut lo hi a q else [q] := by
  induction l with
  | nil => rfl
  | cons q l ih =>
    rw [List.flatMap_cons, ← ih]
    show fl_if (fl_if (Nat.beq q.1 k) (fl_if (fl_le q.2.1 hi) (fl_le lo q.2.2.1) false) false) (ck_cut lo hi a q ++ fl_up k lo hi a l) (q :: fl_up k lo hi a l) = _
    rw [fl_and, fl_and, fl_beq, fl_le_eq, fl_le_eq]
    by_cases h : q.1 = k ∧ q.2.1 ≤ hi ∧ lo ≤ q.2.2.1
    · rw [if_pos h, show (q.1 == k && (decide (q.2.1 ≤ hi) && decide (lo ≤ q.2.2.1))) = true by simp [h.1, h.2.1, h.2.2]]; rfl
    · rw [if_neg h, show (q.1 == k && (decide (q.2.1 ≤ hi) && decide (lo ≤ q.2.2.1))) = false by
        rw [Bool.eq_false_iff]; intro h2; simp only [Bool.and_eq_true, beq_iff_eq, decide_eq_true_eq] at h2; exact h h2]; rfl
noncomputable def ck_up (F : ck_F) (k : Nat) (lo hi : Int) (a : ck_I) : ck_F := (F.1, F.2.1, (if lo = hi then [(k, lo, lo, a)] else []) ++ fl_up k lo hi a F.2.2)
theorem ck_up_def {F : ck_F} {k : Nat} {lo hi : Int} {a : ck_I} : ck_up F k lo hi a = (F.1, F.2.1, (if lo = hi then [(k, lo, lo, a)] else []) ++ F.2.2.flatMap fun q => if q.1 = k ∧ q.2.1 ≤ hi ∧ lo ≤ q.2.2.1 then ck_cut lo hi a q else [q]) := by
  unfold ck_up
  rw [fl_up_eq]
/-- as ck_up; a write that says no more than the type leaves no fact -/
noncomputable def ck_upc (O : gm_Or) (k : Nat) (lo hi : Int) (a : ck_I) : Bool := decide (lo = hi) && (a.2.2.isEmpty && (match gm_tyr O k lo lo with
  | some t => decide (t.1 = a.1) && decide (t.2 = a.2.1)
  | none => false))
noncomputable def ck_upT (O : gm_Or) (F : ck_F) (k : Nat) (lo hi : Int) (a : ck_I) : ck_F := if ck_upc O k lo hi a = true then (F.1, F.2.1, (ck_up F k lo hi a).2.2.drop 1) else ck_up F k lo hi a
noncomputable def ck_upR (F : ck_F) (k : Nat) (j : Int) (r : Nat) : ck_F := (F.1, (k, j, r) :: F.2.1.filter (fun q => !(q.1 == k && decide (q.2.1 = j))), F.2.2)
/-- may it be written -/
noncomputable def ck_okW (W : List (Nat × Int × Int)) (n0 k : Nat) (lo hi : Int) : Bool := fl_if (Nat.ble (Nat.succ n0) k) true (fl_any W fun w => fl_if (Nat.beq w.1 k) (fl_if (fl_le w.2.1 lo) (fl_le hi w.2.2) false) false)
theorem ck_okW_def {W : List (Nat × Int × Int)} {n0 k : Nat} {lo hi : Int} : ck_okW W n0 k lo hi = (decide (n0 < k) || W.any fun w => w.1 == k && (decide (w.2.1 ≤ lo) && decide (hi ≤ w.2.2))) := by
  simp only [ck_okW, fl_and, fl_or, fl_beq, fl_blt, fl_le_eq, fl_lt_eq, fl_ie_eq, fl_any_eq, fl_all_eq, fl_find_eq, fl_lk_eq, fl_nth_eq]
noncomputable def ck_okR (W : List (Nat × Int)) (n0 k : Nat) (j : Int) : Bool := fl_if (Nat.ble (Nat.succ n0) k) true (fl_any W fun w => fl_if (Nat.beq w.1 k) (fl_ie w.2 j) false)
theorem ck_okR_def {W : List (Nat × Int)} {n0 k : Nat} {j : Int} : ck_okR W n0 k j = (decide (n0 < k) || W.any fun w => w.1 == k && decide (w.2 = j)) := by
  simp only [ck_okR, fl_and, fl_or, fl_beq, fl_blt, fl_le_eq, fl_lt_eq, fl_ie_eq, fl_any_eq, fl_all_eq, fl_find_eq, fl_lk_eq, fl_nth_eq]
noncomputable def ck_lc (L : ck_AL) : Nat → ck_AL
  | 0 => L
  | i + 1 => match L[i]? with
    | some (some (.inr (.inl _))) => L.set i none
    | _ => L
noncomputable def ck_lst (L : ck_AL) (j : Nat) (v : ck_A) : ck_AL := match v with
  | .inr (.inl _) => ((ck_lc L j).set j (some v)).set (j + 1) none
  | _ => (ck_lc L j).set j (some v)
/-- the stack without what it says of locals, of the heap -/
noncomputable def ck_sl (AS : ck_AS) : ck_AS := AS.map fun q => (q.1, match q.2 with
  | some (.inl _) => none
  | s => s)
noncomputable def ck_sh (AS : ck_AS) : ck_AS := AS.map fun q => (q.1, match q.2 with
  | some (.inr _) => none
  | s => s)
/-- a stands to b as c says: what of a is left -/
noncomputable def ck_rf (c : ClassFile.Cond) (a b : ck_I) : ck_I := match c with
  | .lt => (a.1, if a.2.1 ≤ b.2.1 - 1 then a.2.1 else b.2.1 - 1, a.2.2)
  | .le => (a.1, if a.2.1 ≤ b.2.1 then a.2.1 else b.2.1, a.2.2)
  | .gt => (if b.1 + 1 ≤ a.1 then a.1 else b.1 + 1, a.2.1, a.2.2)
  | .ge => (if b.1 ≤ a.1 then a.1 else b.1, a.2.1, a.2.2)
  | .eq => (if b.1 ≤ a.1 then a.1 else b.1, if a.2.1 ≤ b.2.1 then a.2.1 else b.2.1, a.2.2)
  | .ne => if b.1 = b.2.1 then (if a.1 = b.1 then (a.1 + 1, a.2.1, a.2.2) else if a.2.1 = b.1 then (a.1, a.2.1 - 1, a.2.2) else a) else a
noncomputable def ck_ng : ClassFile.Cond → ClassFile.Cond
  | .lt => .ge
  | .ge => .lt
  | .gt => .le
  | .le => .gt
  | .eq => .ne
  | .ne => .eq
noncomputable def ck_sw : ClassFile.Cond → ClassFile.Cond
  | .lt => .gt
  | .gt => .lt
  | .le => .ge
  | .ge => .le
  | .eq => .eq
  | .ne => .ne
noncomputable def ck_no (a : ck_I) : Bool := decide (a.2.1 < a.1)
noncomputable def ck_rL (s : ck_S) (a : ck_I) (AL : ck_AL) : ck_AL := match s with
  | some (.inl q) => (match AL[q.1]? with
    | some (some (.inl b)) => AL.set q.1 (some (.inl (if b.1 ≤ a.1 - q.2 then a.1 - q.2 else b.1, if a.2.1 - q.2 ≤ b.2.1 then a.2.1 - q.2 else b.2.1, b.2.2)))
    | _ => AL)
  | _ => AL
noncomputable def ck_rF (s : ck_S) (a a0 : ck_I) (F : ck_F) : ck_F := match s with
  | some (.inr (.inl q)) => (match ck_fi F q.1 q.2.1 q.2.1 with
    | some b => if ¬ (a.1 = a0.1 ∧ a.2.1 = a0.2.1) then (F.1, F.2.1, (q.1, q.2.1, q.2.1, (if b.1 ≤ a.1 - q.2.2 then a.1 - q.2.2 else b.1, if a.2.1 - q.2.2 ≤ b.2.1 then a.2.1 - q.2.2 else b.2.1, b.2.2)) :: F.2.2) else F
    | none => F)
  | some (.inr (.inr q)) => (match ck_fi F q.1 q.2.1 q.2.1, ck_fi F q.2.2.1 q.2.2.2.1 q.2.2.2.1 with
    | some b, some c => if ¬ (a.1 = a0.1 ∧ a.2.1 = a0.2.1) then (F.1, F.2.1, (q.1, q.2.1, q.2.1, (if b.1 ≤ c.1 + a.1 - q.2.2.2.2 then c.1 + a.1 - q.2.2.2.2 else b.1, if c.2.1 + a.2.1 - q.2.2.2.2 ≤ b.2.1 then c.2.1 + a.2.1 - q.2.2.2.2 else b.2.1, b.2.2)) :: (q.2.2.1, q.2.2.2.1, q.2.2.2.1, (if c.1 ≤ b.1 - a.2.1 + q.2.2.2.2 then b.1 - a.2.1 + q.2.2.2.2 else c.1, if b.2.1 - a.1 + q.2.2.2.2 ≤ c.2.1 then b.2.1 - a.1 + q.2.2.2.2 else c.2.1, c.2.2)) :: F.2.2) else F
    | _, _ => F)
  | _ => F
/-- a constant more -/
noncomputable def ck_sm (s : ck_S) (z : Int) : ck_S := match s with
  | some (.inl q) => some (.inl (q.1, q.2 + z))
  | some (.inr (.inl q)) => some (.inr (.inl (q.1, q.2.1, q.2.2 + z)))
  | some (.inr (.inr q)) => some (.inr (.inr (q.1, q.2.1, q.2.2.1, q.2.2.2.1, q.2.2.2.2 + z)))
  | none => none
noncomputable def ck_sb (i : Instr) (a : ck_I) (s : ck_S) (b : ck_I) (t : ck_S) : ck_S := match i with
  | .iadd => if (ck_sg b && ck_in (a.1 + b.1, a.2.1 + b.1, [])) = true then ck_sm s b.1 else if (ck_sg a && ck_in (b.1 + a.1, b.2.1 + a.1, [])) = true then ck_sm t a.1 else none
  | .isub => if (ck_sg b && ck_in (a.1 - b.1, a.2.1 - b.1, [])) = true then ck_sm s (- b.1) else if ck_in (a.1 - b.2.1, a.2.1 - b.1, []) = true then (match s, t with
    | some (.inr (.inl p)), some (.inr (.inl q)) => some (.inr (.inr (p.1, p.2.1, q.1, q.2.1, p.2.2 - q.2.2)))
    | _, _ => none) else none
  | _ => none
/-- a name's number lies between lo and hi: so do all that have the name -/
noncomputable def ck_tg (nm : Nat) (lo hi : Int) (b : ck_I) : ck_I := match b.2.2.find? fun q => q.1 == nm with
  | some q => (if b.1 ≤ lo + q.2 then lo + q.2 else b.1, if hi + q.2 ≤ b.2.1 then hi + q.2 else b.2.1, b.2.2)
  | none => b
noncomputable def ck_tgA (nm : Nat) (lo hi : Int) : ck_A → ck_A
  | .inl a => .inl (ck_tg nm lo hi a)
  | x => x
noncomputable def ck_tgL (nm : Nat) (lo hi : Int) (AL : ck_AL) : ck_AL := AL.map fun a => match a with
  | some b => some (ck_tgA nm lo hi b)
  | none => none
noncomputable def ck_tgF (nm : Nat) (lo hi : Int) (F : ck_F) : ck_F := (F.1, F.2.1, F.2.2.map fun q => (q.1, q.2.1, q.2.2.1, ck_tg nm lo hi q.2.2.2))
noncomputable def ck_ptL (lo hi : Int) : List (Nat × Int) → ck_AL → ck_AL
  | [], AL => AL
  | q :: l, AL => ck_ptL lo hi l (if q.1 < 100 then ck_tgL q.1 (lo - q.2) (hi - q.2) AL else AL)
noncomputable def ck_ptF (lo hi : Int) : List (Nat × Int) → ck_F → ck_F
  | [], F => F
  | q :: l, F => ck_ptF lo hi l (if q.1 < 100 then ck_tgF q.1 (lo - q.2) (hi - q.2) F else F)
noncomputable def ck_eqb (a b : ck_I) : Bool := decide (a.1 = b.1) && decide (a.2.1 = b.2.1)
noncomputable def ck_qL (a a0 : ck_I) (AL : ck_AL) : ck_AL := cond (ck_eqb a a0) AL (ck_ptL a.1 a.2.1 a0.2.2 AL)
noncomputable def ck_qF (a a0 : ck_I) (F : ck_F) : ck_F := cond (ck_eqb a a0) F (ck_ptF a.1 a.2.1 a0.2.2 F)
/-- how far it is: what goes on less where it began -/
noncomputable def ck_lks (O : gm_Or) (s : ck_S) : ck_S := match O.2.2.gh with
  | none => s
  | some g => (match s with
    | some (.inr (.inr q)) => cond (q.1 == g.1 && (q.2.2.1 == g.1 && (decide (q.2.1 = g.2.1) && decide (q.2.2.2.1 = g.2.2)))) (some (.inr (.inl (0, 4, q.2.2.2.2)))) s
    | _ => s)
/-- the one and the other stand to one another as how far it is stands to 0 -/
noncomputable def ck_lkp (O : gm_Or) (F : ck_F) (s t : ck_S) : Option ck_I := match O.2.2.gh with
  | none => none
  | some g => (match s, t with
    | some (.inr (.inl p)), some (.inr (.inl q)) => cond ((p.1 == g.1 && (q.1 == g.1 && (decide (p.2.1 = g.2.1) && decide (q.2.1 = g.2.2)))) && (decide (p.2.2 = 0) && decide (q.2.2 = 0))) (ck_fi F 0 4 4) none
    | _, _ => none)
/-- tags of a number that is more by w -/
noncomputable def ck_ltg (w : ck_I) (z : Int) (t : List (Nat × Int)) : List (Nat × Int) := cond (ck_sg w) (ck_mv t (w.1 + z)) (t.map fun q => (if q.1 < 1000000 then q.1 + 1000000 else q.1, q.2 + (w.1 + z)))
noncomputable def ck_mn (x y : Int) : Int := if x ≤ y then x else y
noncomputable def ck_mx (x y : Int) : Int := if x ≤ y then y else x
/-- a write of one of the two: how far it is then, where it began then, both -/
noncomputable def ck_gp (O : gm_Or) (F : ck_F) (r : Nat) (j : Int) (s : ck_S) (a : ck_I) : Option (ck_I × ck_I × ck_I) := match O.2.2.gh with
  | none => none
  | some g => (match s with
    | some (.inr (.inl q)) => cond (r == g.1 && q.1 == g.1) (match ck_fi F 0 4 4, ck_fi F 0 3 3, ck_fi F 0 5 5, gm_tyr O g.1 g.2.2 g.2.2 with
      | some w, some e, some f, some t => if j = g.2.1 then (if q.2.1 = g.2.1 then some ((w.1 + q.2.2, ck_mn (w.2.1 + q.2.2) (a.2.1 - t.1), ck_mv w.2.2 q.2.2), e, (f.1 + q.2.2, ck_mn (f.2.1 + q.2.2) a.2.1, ck_mv f.2.2 q.2.2)) else if q.2.1 = g.2.2 then some (ck_one q.2.2, e, (e.1 + q.2.2, ck_mn (e.2.1 + q.2.2) a.2.1, ck_mv e.2.2 q.2.2)) else none) else if j = g.2.2 then (if q.2.1 = g.2.1 then some (ck_one (- q.2.2), (f.1 + q.2.2, ck_mn (f.2.1 + q.2.2) a.2.1, ck_mv f.2.2 q.2.2), f) else none) else none
      | _, _, _, _ => none) none
    | _ => none)
noncomputable def ck_gF (F : ck_F) (r : Nat) (j : Int) (a : ck_I) (g : ck_I × ck_I × ck_I) : ck_F := ck_up (ck_up (ck_up (ck_up F r j j a) 0 4 4 g.1) 0 3 3 g.2.1) 0 5 5 g.2.2
/-- how far it is is known: so are both together -/
noncomputable def ck_rE (O : gm_Or) (F : ck_F) : ck_F := match O.2.2.gh with
  | none => F
  | some g => (match ck_fi F 0 3 3, ck_fi F 0 4 4, ck_fi F 0 5 5, ck_rd O F g.1 g.2.1 g.2.1, ck_rd O F g.1 g.2.2 g.2.2 with
    | some e, some w, some f, some p, some b => if 0 ≤ w.1 then (F.1, F.2.1, (0, 5, 5, (ck_mx f.1 (e.1 + w.1), ck_mn f.2.1 (e.2.1 + w.2.1), f.2.2 ++ (ck_ltg w 0 e.2.2).filter fun q => !ck_im f.2.2 q)) :: (g.1, g.2.2, g.2.2, (ck_mx b.1 (p.1 - w.2.1), ck_mn b.2.1 (p.2.1 - w.1), b.2.2)) :: F.2.2) else F
    | _, _, _, _, _ => F)
/-- one way of a branch: x stands to y as c says -/
noncomputable def ck_br (c : ClassFile.Cond) (a : ck_I) (s : ck_S) (b : ck_I) (t : ck_S) (AL : ck_AL) (F : ck_F) (k : ck_AL → ck_F → Bool) : Bool :=
  if (ck_no (ck_rf c a b) || ck_no (ck_rf (ck_sw c) b a)) = true then true
  else k (ck_qL (ck_rf (ck_sw c) b a) b (ck_qL (ck_rf c a b) a (ck_rL t (ck_rf (ck_sw c) b a) (ck_rL s (ck_rf c a b) AL)))) (ck_qF (ck_rf (ck_sw c) b a) b (ck_qF (ck_rf c a b) a (ck_rF t (ck_rf (ck_sw c) b a) b (ck_rF s (ck_rf c a b) a F))))
noncomputable def ck_swk (a : ck_I) (s : ck_S) (AL : ck_AL) (F : ck_F) (pc : Nat) (k : Nat → ck_AL → ck_F → Bool) : List Int → Int → Bool
  | [], _ => true
  | o :: os, v => ck_br .eq a s (ck_one v) none AL F (k (gm_tgt pc o)) && ck_swk a s AL F pc k os (v + 1)
/-- only names below 100: they mean the same from the first to the last -/
noncomputable def ck_tI (a : ck_I) : Bool := fl_all a.2.2 fun q => decide (q.1 < 100) || (decide (1000000 ≤ q.1) && decide (q.1 < 1000100))
theorem ck_tI_def {a : ck_I} : ck_tI a = a.2.2.all fun q => decide (q.1 < 100) || (decide (1000000 ≤ q.1) && decide (q.1 < 1000100)) := by
  unfold ck_tI
  rw [fl_all_eq]
noncomputable def ck_tA : ck_A → Bool
  | .inl a => ck_tI a
  | .inr (.inl a) => ck_tI a
  | _ => true
noncomputable def ck_tF (F : ck_F) : Bool := fl_all F.2.2 fun q => ck_tI q.2.2.2
theorem ck_tF_def {F : ck_F} : ck_tF F = F.2.2.all fun q => ck_tI q.2.2.2 := by
  unfold ck_tF
  rw [fl_all_eq]
noncomputable def ck_leO : (Nat ⊕ Option ck_A) → (Nat ⊕ Option ck_A) → Bool
  | .inl x, .inl y => x == y
  | .inr none, .inr none => true
  | .inr (some a), .inr (some b) => ck_leA a b && ck_tA b
  | _, _ => false
noncomputable def ck_end (O : gm_Or) (outs : List ck_Oc) (how : Nat ⊕ Option ck_A) (n : Nat) (F : ck_F) : Bool := fl_any outs fun oc => ck_leO how oc.1 && (n == oc.2.1 && (ck_leF O F oc.2.2 && ck_tF oc.2.2))
theorem ck_end_def {O : gm_Or} {outs : List ck_Oc} {how : Nat ⊕ Option ck_A} {n : Nat} {F : ck_F} : ck_end O outs how n F = outs.any fun oc => ck_leO how oc.1 && (n == oc.2.1 && (ck_leF O F oc.2.2 && ck_tF oc.2.2)) := by
  unfold ck_end
  rw [fl_any_eq]
/-- a callee's throw: at the handler, or to the end -/
noncomputable def ck_thr (O : gm_Or) (outs : List ck_Oc) (mi pc x n : Nat) (F : ck_F) (k : Nat → Bool) : Bool := match gm_hit (gm_ow mi) pc x false (gm_hh mi) with
  | some (some h) => k h
  | some none => ck_end O outs (.inl x) n F
  | none => false
noncomputable def ck_leAs : List ck_A → List ck_A → Bool
  | [], [] => true
  | a :: as, b :: bs => ck_leA a b && ck_leAs as bs
  | _, _ => false
/-- a fact without what was written -/
noncomputable def ck_cw (w : Nat × Int × Int) (q : Nat × Int × Int × ck_I) : List (Nat × Int × Int × ck_I) := if q.1 = w.1 ∧ w.2.1 ≤ q.2.2.1 ∧ q.2.1 ≤ w.2.2 then (if q.2.1 < w.2.1 then [(q.1, q.2.1, w.2.1 - 1, q.2.2.2)] else []) ++ (if w.2.2 < q.2.2.1 then [(q.1, w.2.2 + 1, q.2.2.1, q.2.2.2)] else []) else [q]
noncomputable def fl_cw (w : Nat × Int × Int) (l : List (Nat × Int × Int × ck_I)) : List (Nat × Int × Int × ck_I) := @List.rec _ (fun _ => List (Nat × Int × Int × ck_I)) [] (fun q _ ih => fl_if (fl_if (Nat.beq q.1 w.1) (fl_if (fl_le w.2.1 q.2.2.1) (fl_le q.2.1 w.2.2) false) false) (ck_cw w q ++ ih) (q :: ih)) l
theorem fl_cw_eq {w : Nat × Int × Int} {l : List (Nat × Int × Int × ck_I)} : fl_cw w l = l.flatMap (ck_cw w) := by
  induction l with
  | nil => rfl
  | cons q l ih =>
    rw [List.flatMap_cons, ← ih]
    show fl_if (fl_if (Nat.beq q.1 w.1) (fl_if (fl_le w.2.1 q.2.2.1) (fl_le q.2.1 w.2.2) false) false) (ck_cw w q ++ fl_cw w l) (q :: fl_cw w l) = _
    rw [fl_and, fl_and, fl_beq, fl_le_eq, fl_le_eq]
    by_cases h : q.1 = w.1 ∧ w.2.1 ≤ q.2.2.1 ∧ q.2.1 ≤ w.2.2
    · rw [show (q.1 == w.1 && (decide (w.2.1 ≤ q.2.2.1) && decide (q.2.1 ≤ w.2.2))) = true by simp [h.1, h.2.1, h.2.2]]; rfl
    · rw [show (q.1 == w.1 && (decide (w.2.1 ≤ q.2.2.1) && decide (q.2.1 ≤ w.2.2))) = false by
        rw [Bool.eq_false_iff]; intro h2; simp only [Bool.and_eq_true, beq_iff_eq, decide_eq_true_eq] at h2; exact h h2]
      show q :: fl_cw w l = ck_cw w q ++ fl_cw w l
      unfold ck_cw
      rw [if_neg h]
      rfl
noncomputable def ck_cws (ws : List (Nat × Int × Int)) : List (Nat × Int × Int × ck_I) → List (Nat × Int × Int × ck_I) := @List.rec _ (fun _ => List (Nat × Int × Int × ck_I) → List (Nat × Int × Int × ck_I)) (fun l => l) (fun w _ ih l => ih (fl_cw w l)) ws
noncomputable def ck_mix (n : Nat) (F : ck_F) (W : List (Nat × Int × Int) × List (Nat × Int)) (G : ck_F) : ck_F :=
  (G.1 ++ F.1, G.2.1 ++ F.2.1.filter (fun q => decide (q.1 ≤ n) && !(W.2.any fun w => w.1 == q.1 && decide (w.2 = q.2.1))), G.2.2 ++ ck_cws W.1 F.2.2)
/-- a value without tags -/
noncomputable def ck_nt (a : ck_I) : Bool := a.2.2.isEmpty
noncomputable def ck_ntA : ck_A → Bool
  | .inl a => ck_nt a
  | .inr (.inl a) => ck_nt a
  | _ => true
/-- a fact at a call: without tags, or the name of its own cell -/
noncomputable def ck_own (O : gm_Or) (q : Nat × Int × Int × ck_I) : Bool := q.2.2.2.2.2.all fun t => decide (q.2.1 = q.2.2.1) && (decide (t.2 = 0) && (decide (t.1 < 1000000) && (match O.2.2.nm.find? fun p => p.1 == t.1 with
  | some p => p.2.1 == q.1 && decide (p.2.2 = q.2.1)
  | none => false)))
noncomputable def ck_cl (G : ck_F) : ck_F := (G.1, G.2.1, G.2.2.map fun q => (q.1, q.2.1, q.2.2.1, (q.2.2.2.1, q.2.2.2.2.1, [])))
noncomputable def ck_pick (O : gm_Or) (n : Nat) (F : ck_F) (as : List ck_A) (l : List ck_Sum) : Option ck_Sum := fl_find l fun S => fl_if (Nat.beq S.2.1 n) (fl_if (ck_leAs as S.2.2.1) (S.2.2.1.all ck_ntA && (ck_leF O F (ck_cl S.2.2.2.1) && fl_all S.2.2.2.1.2.2 (ck_own O))) false) false
theorem ck_pick_def {O : gm_Or} {n : Nat} {F : ck_F} {as : List ck_A} {l : List ck_Sum} : ck_pick O n F as l = l.find? fun S => S.2.1 == n && (ck_leAs as S.2.2.1 && (S.2.2.1.all ck_ntA && (ck_leF O F (ck_cl S.2.2.2.1) && S.2.2.2.1.2.2.all (ck_own O)))) := by
  simp only [ck_pick, fl_and, fl_or, fl_beq, fl_blt, fl_le_eq, fl_lt_eq, fl_ie_eq, fl_any_eq, fl_all_eq, fl_find_eq, fl_lk_eq, fl_nth_eq]
/-- what a tag of the callee says here -/
noncomputable def ck_r1 (O : gm_Or) (F : ck_F) (q : Nat × Int) : List (Nat × Int) := match O.2.2.nm.find? fun p => p.1 == (if q.1 < 1000000 then q.1 else q.1 - 1000000) with
  | some p => (match ck_rd O F p.2.1 p.2.2 p.2.2 with
    | some b => b.2.2.map fun t => (if q.1 < 1000000 then t.1 else if t.1 < 1000000 then t.1 + 1000000 else t.1, t.2 + q.2)
    | none => [])
  | none => []
noncomputable def ck_rlo (O : gm_Or) (F : ck_F) : List (Nat × Int) → Int → Int
  | [], x => x
  | q :: l, x => ck_rlo O F l (match O.2.2.nm.find? fun p => p.1 == (if q.1 < 1000000 then q.1 else q.1 - 1000000) with
    | some p => (match ck_rd O F p.2.1 p.2.2 p.2.2 with
      | some b => if x ≤ b.1 + q.2 then b.1 + q.2 else x
      | none => x)
    | none => x)
noncomputable def ck_rhi (O : gm_Or) (F : ck_F) : List (Nat × Int) → Int → Int
  | [], x => x
  | q :: l, x => ck_rhi O F l (if q.1 < 1000000 then (match O.2.2.nm.find? fun p => p.1 == q.1 with
    | some p => (match ck_rd O F p.2.1 p.2.2 p.2.2 with
      | some b => if b.2.1 + q.2 ≤ x then b.2.1 + q.2 else x
      | none => x)
    | none => x) else x)
noncomputable def ck_rI (O : gm_Or) (F : ck_F) (a : ck_I) : ck_I := match a.2.2 with
  | [] => a
  | _ => (ck_rlo O F a.2.2 a.1, ck_rhi O F a.2.2 a.2.1, a.2.2.flatMap (ck_r1 O F))
noncomputable def ck_rA (O : gm_Or) (F : ck_F) : ck_A → ck_A
  | .inl a => .inl (ck_rI O F a)
  | .inr (.inl a) => .inr (.inl (ck_rI O F a))
  | x => x
noncomputable def ck_rO (O : gm_Or) (F : ck_F) : (Nat ⊕ Option ck_A) → (Nat ⊕ Option ck_A)
  | .inr (some a) => .inr (some (ck_rA O F a))
  | x => x
noncomputable def ck_rG (O : gm_Or) (F G : ck_F) : ck_F := (G.1, G.2.1, G.2.2.map fun q => (q.1, q.2.1, q.2.2.1, ck_rI O F q.2.2.2))
/-- a stretch that lies in another -/
noncomputable def fl_cv (w x : Nat × Int × Int) : Bool := fl_if (Nat.beq w.1 x.1) (fl_if (fl_le w.2.1 x.2.1) (fl_le x.2.2 w.2.2) false) false
noncomputable def fl_dw (w : Nat × Int × Int) (a : List (Nat × Int × Int)) : List (Nat × Int × Int) := @List.rec (Nat × Int × Int) (fun _ => List (Nat × Int × Int)) [] (fun x a ih => fl_if (fl_cv w x) ih (x :: a)) a
noncomputable def fl_nil (a : List (Nat × Int × Int)) : Bool := @List.rec (Nat × Int × Int) (fun _ => Bool) true (fun _ _ _ => false) a
noncomputable def fl_sw (W : List (Nat × Int × Int)) : List (Nat × Int × Int) → Bool := @List.rec (Nat × Int × Int) (fun _ => List (Nat × Int × Int) → Bool) fl_nil (fun w _ ih a => ih (fl_dw w a)) W
theorem fl_dw_s {w : Nat × Int × Int} : ∀ {a : List (Nat × Int × Int)} {x : Nat × Int × Int}, x ∈ a → fl_cv w x = true ∨ x ∈ fl_dw w a := by
  intro a
  induction a with
  | nil => intro x h; cases h
  | cons y a ih =>
    intro x h
    cases e : fl_cv w y with
    | true =>
      have e2 : fl_dw w (y :: a) = fl_dw w a := by
        show fl_if (fl_cv w y) (fl_dw w a) (y :: a) = fl_dw w a
        rw [e]; rfl
      rw [e2]
      rcases List.mem_cons.mp h with rfl | h
      · exact Or.inl e
      · exact ih h
    | false =>
      have e2 : fl_dw w (y :: a) = y :: a := by
        show fl_if (fl_cv w y) (fl_dw w a) (y :: a) = y :: a
        rw [e]; rfl
      rw [e2]
      exact Or.inr h
theorem fl_sw_s : ∀ {W a : List (Nat × Int × Int)} {x : Nat × Int × Int}, fl_sw W a = true → x ∈ a → ∃ w ∈ W, fl_cv w x = true := by
  intro W
  induction W with
  | nil =>
    intro a x h hx
    cases a with
    | nil => cases hx
    | cons y a => exact (Bool.false_ne_true h).elim
  | cons w W ih =>
    intro a x h hx
    have h : fl_sw W (fl_dw w a) = true := h
    rcases fl_dw_s (w := w) hx with h2 | h2
    · exact ⟨w, List.mem_cons_self, h2⟩
    · obtain ⟨v, hv, h3⟩ := ih h h2
      exact ⟨v, List.mem_cons_of_mem _ hv, h3⟩
noncomputable def ck_aW (W : List (Nat × Int × Int)) (n0 : Nat) (a : List (Nat × Int × Int)) : Bool := fl_if (fl_sw W a) true (fl_all a fun w => ck_okW W n0 w.1 w.2.1 w.2.2)
theorem ck_aW_eq {W : List (Nat × Int × Int)} {n0 : Nat} {a : List (Nat × Int × Int)} : ck_aW W n0 a = a.all fun w => ck_okW W n0 w.1 w.2.1 w.2.2 := by
  unfold ck_aW
  cases e : fl_sw W a with
  | false => rw [fl_all_eq]; rfl
  | true =>
    refine (List.all_eq_true.mpr fun x hx => ?_).symm
    obtain ⟨w, hw, h⟩ := fl_sw_s e hx
    unfold fl_cv at h
    rw [fl_and, fl_and, Bool.and_eq_true, Bool.and_eq_true] at h
    rw [fl_le_eq, fl_le_eq, decide_eq_true_eq, decide_eq_true_eq] at h
    show ck_okW W n0 x.1 x.2.1 x.2.2 = true
    rw [ck_okW_def, Bool.or_eq_true]
    refine Or.inr (List.any_eq_true.mpr ⟨w, hw, ?_⟩)
    show (w.1 == x.1 && (decide (w.2.1 ≤ x.2.1) && decide (x.2.2 ≤ w.2.2))) = true
    rw [Bool.and_eq_true, Bool.and_eq_true, decide_eq_true_eq, decide_eq_true_eq]
    exact ⟨fl_beq.symm.trans h.1, h.2.1, h.2.2⟩
/-- a call -/
noncomputable def ck_call (O : gm_Or) (E : List (Nat × List ck_Sum)) (d n0 : Nat) (W : List (Nat × Int × Int) × List (Nat × Int)) (bc bs n mj : Nat) (F : ck_F) (as : List ck_A) (k : Nat → Nat → (Nat ⊕ Option ck_A) → Nat → ck_F → Bool) : Bool := match fl_lk mj E with
  | none => false
  | some l => match ck_pick O n F as l with
    | none => false
    | some S => (decide (S.1.1 + 1 ≤ d) && (decide (S.1.2.1 ≤ bc) && decide (S.1.2.2 ≤ bs))) && ((ck_aW W.1 n0 S.2.2.2.2.1.1 && fl_all S.2.2.2.2.1.2 (fun w => ck_okR W.2 n0 w.1 w.2)) && fl_all S.2.2.2.2.2 fun oc => k (bc - S.1.2.1) (bs - S.1.2.2) (ck_rO O F oc.1) oc.2.1 (ck_mix n F S.2.2.2.2.1 (ck_rG O F oc.2.2)))
noncomputable def ck_sum8 (AS : ck_AS) : Bool := decide ((AS.map fun q => if ck_so q.1 = 1 then 2 else 1).sum ≤ 8)
noncomputable def ck_n1 (AS : ck_AS) : Bool := AS.all fun q => !(ck_so q.1 == 1)
/-- what a call leaves on the stack -/
noncomputable def ck_psh (how : Option ck_A) (AS : ck_AS) : ck_AS := match how with
  | some a => (a, none) :: ck_sh AS
  | none => ck_sh AS
/-- how many arguments a call of a method named elsewhere has -/
noncomputable def gm_una (o ix : Nat) : Option Nat := (gm_ul.find? fun q => decide (q.1.1 = o) && decide (q.1.2.1 = ix)).map fun q => gm_na q.2.1
/-- bounds of a quotient -/
noncomputable def ck_dv (a b : ck_I) : ck_I := if (ck_sg a && ck_sg b) = true then ck_one (gm_w (Int.tdiv a.1 b.1)) else if 0 ≤ a.1 ∧ 0 < b.1 then (0, a.2.1, []) else ck_top
/-- a local's number that may be less than 0 or not -/
noncomputable def ck_sgl (a b : ck_I) (s : ck_S) : Bool := match s with
  | some (.inl _) => decide (a.1 < 0) && (decide (0 ≤ a.2.1) && decide (0 < b.1))
  | _ => false
/-- a cell's number that may be less than 0 or not -/
noncomputable def ck_sgn (a : ck_I) (s : ck_S) : Bool := match s with
  | some (.inr (.inl _)) => decide (a.1 < 0) && decide (0 ≤ a.2.1)
  | _ => false
/-- an instruction that does more than load, store and reckon -/
noncomputable def ck_j (O : gm_Or) (lx : Option Nat) (XF : List (Int × Int × ck_I)) (E : List (Nat × List ck_Sum)) (mi d n0 : Nat) (W : List (Nat × Int × Int) × List (Nat × Int)) (outs : List ck_Oc) (bc bs pc : Nat) (AL : ck_AL) (AS : ck_AS) (n : Nat) (F : ck_F) (k : Nat → Nat → Nat → ck_AL → ck_AS → Nat → ck_F → Bool) (i : Instr) : Bool :=
  match i with
  | .ineg => (match AS with
    | (.inl a, _) :: AS' => k bc bs (pc + 1) AL ((.inl (ck_nrm (- a.2.1, - a.1, [])), none) :: AS') n F
    | _ => false)
  | .i2b => (match AS with
    | (.inl a, _) :: AS' => k bc bs (pc + 1) AL ((.inl (if -128 ≤ a.1 ∧ a.2.1 ≤ 127 then a else (-128, 127, [])), none) :: AS') n F
    | _ => false)
  | .i2l => (match AS with
    | (.inl a, _) :: AS' => k bc bs (pc + 1) AL ((.inr (.inl a), none) :: AS') n F
    | _ => false)
  | .l2i => (match AS with
    | (.inr (.inl a), _) :: AS' => k bc bs (pc + 1) AL ((.inl (ck_nrm a), none) :: AS') n F
    | _ => false)
  | .lcmp => (match AS with
    | (.inr (.inl b), _) :: (.inr (.inl a), _) :: AS' => k bc bs (pc + 1) AL ((.inl (if (ck_leI a b && ck_leI b a && (ck_sg a || ck_ex b)) = true then ck_one 0 else if a.2.1 < b.1 then ck_one (-1) else if b.2.1 < a.1 then ck_one 1 else (-1, 1, [])), none) :: AS') n F
    | _ => false)
  | .idiv => (match AS with
    | (.inl b, _) :: (.inl a, s) :: AS' => (decide (0 < b.1) || decide (b.2.1 < 0)) && cond (ck_sgl a b s) (ck_br .lt a s (ck_one 0) none AL F (fun AL F => k bc bs (pc + 1) AL ((.inl (ck_dv (ck_rf .lt a (ck_one 0)) b), none) :: AS') n F) && ck_br .ge a s (ck_one 0) none AL F (fun AL F => k bc bs (pc + 1) AL ((.inl (ck_dv (ck_rf .ge a (ck_one 0)) b), none) :: AS') n F)) (k bc bs (pc + 1) AL ((.inl (ck_dv a b), none) :: AS') n F)
    | _ => false)
  | .irem => (match AS with
    | (.inl b, _) :: (.inl a, _) :: AS' => (decide (0 < b.1) || decide (b.2.1 < 0)) && k bc bs (pc + 1) AL ((.inl (if (ck_sg a && ck_sg b) = true then ck_one (gm_w (Int.tmod a.1 b.1)) else if 0 ≤ a.1 ∧ 0 < b.1 then (0, b.2.1 - 1, []) else ck_top), none) :: AS') n F
    | _ => false)
  | .dup => (match AS with
    | q :: AS' => !(ck_so q.1 == 1) && k bc bs (pc + 1) AL (q :: q :: AS') n F
    | [] => false)
  | .pop => (match AS with
    | q :: AS' => !(ck_so q.1 == 1) && k bc bs (pc + 1) AL AS' n F
    | [] => false)
  | .dup2 => (match AS with
    | q :: p :: AS' => (!(ck_so q.1 == 1) && !(ck_so p.1 == 1)) && k bc bs (pc + 1) AL (q :: p :: q :: p :: AS') n F
    | _ => false)
  | .iinc j z => (match AL[j]? with
    | some (some (.inl a)) => if ck_in (a.1 + z, a.2.1 + z, []) = true then k bc bs (pc + 3) (ck_lst AL j (.inl (a.1 + z, a.2.1 + z, ck_mv a.2.2 z))) (ck_sl AS) n F else k bc bs (pc + 3) (ck_lst AL j (.inl ck_top)) (ck_sl AS) n F
    | _ => false)
  | .goto off => decide (0 ≤ (pc : Int) + off) && k bc bs (gm_tgt pc off) AL AS n F
  | .ifCond c off => (match AS with
    | (.inl a, s) :: AS' => decide (0 ≤ (pc : Int) + off) && (ck_br c a s (ck_one 0) none AL F (fun AL F => k bc bs (gm_tgt pc off) AL AS' n (ck_rE O F)) && ck_br (ck_ng c) a s (ck_one 0) none AL F (fun AL F => k bc bs (pc + 3) AL AS' n (ck_rE O F)))
    | _ => false)
  | .if_icmp c off => (match AS with
    | (.inl b, t) :: (.inl a, s) :: AS' => decide (0 ≤ (pc : Int) + off) && (match ck_lkp O F s t with
      | some w => ck_br c w (some (.inr (.inl (0, 4, 0)))) (ck_one 0) none AL F (fun AL F => k bc bs (gm_tgt pc off) AL AS' n (ck_rE O F)) && ck_br (ck_ng c) w (some (.inr (.inl (0, 4, 0)))) (ck_one 0) none AL F (fun AL F => k bc bs (pc + 3) AL AS' n (ck_rE O F))
      | none => ck_br c a s b t AL F (fun AL F => k bc bs (gm_tgt pc off) AL AS' n (ck_rE O F)) && ck_br (ck_ng c) a s b t AL F (fun AL F => k bc bs (pc + 3) AL AS' n (ck_rE O F)))
    | _ => false)
  | .ifnull off => (match AS with
    | (.inr (.inr (.inl r)), _) :: AS' => (decide (0 ≤ (pc : Int) + off) && decide (r < 100000)) && (if r = 0 then k bc bs (gm_tgt pc off) AL AS' n F else k bc bs (pc + 3) AL AS' n F)
    | _ => false)
  | .ifnonnull off => (match AS with
    | (.inr (.inr (.inl r)), _) :: AS' => (decide (0 ≤ (pc : Int) + off) && decide (r < 100000)) && (if r = 0 then k bc bs (pc + 3) AL AS' n F else k bc bs (gm_tgt pc off) AL AS' n F)
    | _ => false)
  | .tableswitch df lo hi offs => (match AS with
    | (.inl a, s) :: AS' => (decide (((offs.size : Nat) : Int) = hi - lo + 1) && (decide (0 ≤ (pc : Int) + df) && (offs.toList.all (fun o => decide (0 ≤ (pc : Int) + o)) && (decide (-2147483647 ≤ lo) && decide (hi < 2147483647))))) && ((ck_br .lt a s (ck_one lo) none AL F (fun AL F => k bc bs (gm_tgt pc df) AL AS' n F) && ck_br .gt a s (ck_one hi) none AL F (fun AL F => k bc bs (gm_tgt pc df) AL AS' n F)) && ck_swk a s AL F pc (fun q AL F => k bc bs q AL AS' n F) offs.toList lo)
    | _ => false)
  | .getfield ix => (match AS with
    | (.inr (.inr (.inl r)), _) :: AS' => (match ck_kd O F r with
      | some q => (match gm_fld (gm_ow mi) ix (q.1 - 4) with
        | some j => decide (4 ≤ q.1) && (if gm_isr (q.1 - 4) j = true then (match ck_fR O F r j with
            | some v => k bc bs (pc + 3) AL ((.inr (.inr (.inl v)), none) :: AS') n F
            | none => false) else (match ck_fi F r j j with
              | some a => k bc bs (pc + 3) AL ((.inl a, some (.inr (.inl (r, (j : Int), 0)))) :: AS') n F
              | none => (match gm_tyr O r j j with
                | some t => k bc bs (pc + 3) AL ((.inl (t.1, t.2, []), some (.inr (.inl (r, (j : Int), 0)))) :: AS') n (F.1, F.2.1, (r, (j : Int), (j : Int), (t.1, t.2, [])) :: F.2.2)
                | none => k bc bs (pc + 3) AL ((.inl ck_top, none) :: AS') n F)))
        | none => false)
      | none => false)
    | _ => false)
  | .putfield ix => (match AS with
    | (.inl a, s) :: (.inr (.inr (.inl r)), _) :: AS' => (match ck_kd O F r with
      | some q => (match gm_fld (gm_ow mi) ix (q.1 - 4) with
        | some j => (match ck_gp O F r j s a with
          | some g => (decide (4 ≤ q.1) && (gm_may mi (q.1 - 4) j && ((gm_tyv O r j j a.1 a.2.1 && (O.2.2.ty 0).isEmpty) && ((ck_okW W.1 n0 r j j && (ck_okW W.1 n0 0 4 4 && (ck_okW W.1 n0 0 3 3 && ck_okW W.1 n0 0 5 5))) && ((ck_in g.1 && (ck_in g.2.1 && ck_in g.2.2)) && gm_fk (q.1 - 4) j == 0))))) && k bc bs (pc + 3) AL (ck_sh AS') n (ck_gF F r j a g)
          | none => (decide (4 ≤ q.1) && (gm_may mi (q.1 - 4) j && (gm_tyw O r j j a.1 a.2.1 && (ck_okW W.1 n0 r j j && (gm_fk (q.1 - 4) j == 0 || (gm_fk (q.1 - 4) j == 1 && (decide (0 ≤ a.1) && decide (a.2.1 ≤ 1)))))))) && k bc bs (pc + 3) AL (ck_sh AS') n (ck_upT O F r j j a))
        | none => false)
      | none => false)
    | (.inr (.inr (.inl v)), _) :: (.inr (.inr (.inl r)), _) :: AS' => (match ck_kd O F r with
      | some q => (match gm_fld (gm_ow mi) ix (q.1 - 4) with
        | some j => (decide (4 ≤ q.1) && (gm_may mi (q.1 - 4) j && ((O.2.1 r j).isNone && (ck_okR W.2 n0 r j && gm_fk (q.1 - 4) j == 2)))) && k bc bs (pc + 3) AL AS' n (ck_upR F r j v)
        | none => false)
      | none => false)
    | _ => false)
  | .iaload => (match AS with
    | (.inl e, _) :: (.inr (.inr (.inl r)), _) :: AS' => (match ck_kd O F r with
      | some q => (q.1 == 0 && (decide (0 ≤ e.1) && decide (e.2.1 < (q.2 : Int)))) && (match ck_fi F r e.1 e.2.1 with
        | some a => k bc bs (pc + 1) AL ((.inl a, if ck_sg e = true then some (.inr (.inl (r, e.1, 0))) else none) :: AS') n F
        | none => (match gm_tyr O r e.1 e.2.1 with
          | some t => if ck_sg e = true then k bc bs (pc + 1) AL ((.inl (t.1, t.2, []), some (.inr (.inl (r, e.1, 0)))) :: AS') n (F.1, F.2.1, (r, e.1, e.1, (t.1, t.2, [])) :: F.2.2) else k bc bs (pc + 1) AL ((.inl (t.1, t.2, []), none) :: AS') n F
          | none => k bc bs (pc + 1) AL ((.inl ck_top, none) :: AS') n F))
      | none => false)
    | (.inl e, _) :: (.inr (.inr (.inr c)), _) :: AS' => (match lx with
      | some l => (c == 2000 && (decide (0 ≤ e.1) && decide (e.2.1 < (l : Int)))) && (match XF.find? fun q => decide (q.1 ≤ e.1) && decide (e.2.1 ≤ q.2.1) with
        | some q => k bc bs (pc + 1) AL ((.inl q.2.2, none) :: AS') n F
        | none => k bc bs (pc + 1) AL ((.inl ck_top, none) :: AS') n F)
      | none => false)
    | _ => false)
  | .baload => (match AS with
    | (.inl e, _) :: (.inr (.inr (.inl r)), _) :: AS' => (match ck_kd O F r with
      | some q => (q.1 == 1 && (decide (0 ≤ e.1) && decide (e.2.1 < (q.2 : Int)))) && (match ck_fi F r e.1 e.2.1 with
        | some a => k bc bs (pc + 1) AL ((.inl a, if ck_sg e = true then some (.inr (.inl (r, e.1, 0))) else none) :: AS') n F
        | none => (match gm_tyr O r e.1 e.2.1 with
          | some t => if ck_sg e = true then k bc bs (pc + 1) AL ((.inl (t.1, t.2, []), some (.inr (.inl (r, e.1, 0)))) :: AS') n (F.1, F.2.1, (r, e.1, e.1, (t.1, t.2, [])) :: F.2.2) else k bc bs (pc + 1) AL ((.inl (t.1, t.2, []), none) :: AS') n F
          | none => k bc bs (pc + 1) AL ((.inl ck_top, none) :: AS') n F))
      | none => false)
    | _ => false)
  | .laload => (match AS with
    | (.inl e, _) :: (.inr (.inr (.inl r)), _) :: AS' => (match ck_kd O F r with
      | some q => (q.1 == 2 && (decide (0 ≤ e.1) && decide (e.2.1 < (q.2 : Int)))) && (match ck_fi F r e.1 e.2.1 with
        | some a => k bc bs (pc + 1) AL ((.inr (.inl a), none) :: AS') n F
        | none => k bc bs (pc + 1) AL ((.inr (.inl ck_tp6), none) :: AS') n F)
      | none => false)
    | _ => false)
  | .aaload => (match AS with
    | (.inl e, _) :: (.inr (.inr (.inl r)), _) :: AS' => (match ck_kd O F r with
      | some q => (q.1 == 3 && (decide (0 ≤ e.1) && (decide (e.2.1 < (q.2 : Int)) && decide (e.2.1 < e.1 + 20)))) && (List.range (e.2.1 + 1 - e.1).toNat).all fun (i : Nat) => (match ck_fR O F r (e.1 + (i : Int)) with
        | some v => k bc bs (pc + 1) AL ((.inr (.inr (.inl v)), none) :: AS') n F
        | none => false)
      | none => false)
    | _ => false)
  | .iastore => (match AS with
    | (.inl a, _) :: (.inl e, _) :: (.inr (.inr (.inl r)), _) :: AS' => (match ck_kd O F r with
      | some q => (q.1 == 0 && (decide (0 ≤ e.1) && (decide (e.2.1 < (q.2 : Int)) && (ck_okW W.1 n0 r e.1 e.2.1 && gm_tyw O r e.1 e.2.1 a.1 a.2.1)))) && k bc bs (pc + 1) AL (ck_sh AS') n (ck_upT O F r e.1 e.2.1 a)
      | none => false)
    | _ => false)
  | .bastore => (match AS with
    | (.inl a, _) :: (.inl e, _) :: (.inr (.inr (.inl r)), _) :: AS' => (match ck_kd O F r with
      | some q => (q.1 == 1 && (decide (0 ≤ e.1) && (decide (e.2.1 < (q.2 : Int)) && (ck_okW W.1 n0 r e.1 e.2.1 && (if -128 ≤ a.1 ∧ a.2.1 ≤ 127 then gm_tyw O r e.1 e.2.1 a.1 a.2.1 else gm_tyw O r e.1 e.2.1 (-128) 127))))) && k bc bs (pc + 1) AL (ck_sh AS') n (ck_upT O F r e.1 e.2.1 (if -128 ≤ a.1 ∧ a.2.1 ≤ 127 then a else (-128, 127, [])))
      | none => false)
    | _ => false)
  | .lastore => (match AS with
    | (.inr (.inl a), _) :: (.inl e, _) :: (.inr (.inr (.inl r)), _) :: AS' => (match ck_kd O F r with
      | some q => (q.1 == 2 && (decide (0 ≤ e.1) && (decide (e.2.1 < (q.2 : Int)) && (ck_okW W.1 n0 r e.1 e.2.1 && ((O.2.2.ty r).isEmpty && (O.2.2.fp r).isEmpty))))) && (if ck_in a = true then k bc bs (pc + 1) AL (ck_sh AS') n (ck_up F r e.1 e.2.1 a) else k bc bs (pc + 1) AL (ck_sh AS') n (F.1, F.2.1, F.2.2.filter fun p => !(p.1 == r)))
      | none => false)
    | _ => false)
  | .aastore => (match AS with
    | (.inr (.inr (.inl v)), _) :: (.inl e, _) :: (.inr (.inr (.inl r)), _) :: AS' => (match ck_kd O F r, ck_kd O F v with
      | some q, some p => (q.1 == 3 && (p.1 == 5 && (ck_sg e && (decide (0 ≤ e.1) && (decide (e.1 < (q.2 : Int)) && ((O.2.1 r e.1).isNone && ck_okR W.2 n0 r e.1)))))) && k bc bs (pc + 1) AL AS' n (ck_upR F r e.1 v)
      | _, _ => false)
    | _ => false)
  | .arraylength => (match AS with
    | (.inr (.inr (.inl r)), _) :: AS' => (match ck_kd O F r with
      | some q => (decide (q.1 ≤ 3) && ck_cvk (gm_vi (q.2 : Int))) && k bc bs (pc + 1) AL ((.inl (ck_one q.2), none) :: AS') n F
      | none => false)
    | (.inr (.inr (.inr c)), _) :: AS' => (match lx with
      | some l => (c == 2000 && ck_cvk (gm_vi (l : Int))) && k bc bs (pc + 1) AL ((.inl (ck_one l), none) :: AS') n F
      | none => false)
    | _ => false)
  | .new ix => (match gm_new (gm_ow mi) ix with
    | some ci => ((decide (1 ≤ bc) && decide (gm_nf ci ≤ bs)) && decide (n + 1 < 100000)) && k (bc - 1) (bs - gm_nf ci) (pc + 3) AL ((.inr (.inr (.inl (n + 1))), none) :: ck_sh AS) (n + 1) ((n + 1, ci + 4, 0) :: F.1, F.2.1, ((List.range (gm_nf ci)).map fun (j : Nat) => (n + 1, (j : Int), (j : Int), ck_one 0)) ++ F.2.2)
    | none => (match gm_isx mi pc ix with
      | some x => ((gm_hh mi).isEmpty && (decide (6 ≤ d) && (ck_sum8 AS && (decide (1 ≤ bc) && decide (6 ≤ bs))))) && ck_end O outs (.inl x) n F
      | none => false))
  | .newarray at0 => (match AS, (match at0 with | .int => some 0 | .byte => some 1 | .long => some 2 | _ => none : Option Nat) with
    | (.inl e, _) :: AS', some kd => (ck_sg e && (decide (0 ≤ e.1) && (decide (e.1 < 60000000) && (decide (1 ≤ bc) && (decide (e.1.toNat ≤ bs) && decide (n + 1 < 100000)))))) && k (bc - 1) (bs - e.1.toNat) (pc + 2) AL ((.inr (.inr (.inl (n + 1))), none) :: ck_sh AS') (n + 1) ((n + 1, kd, e.1.toNat) :: F.1, F.2.1, (n + 1, 0, e.1 - 1, ck_one 0) :: F.2.2)
    | _, _ => false)
  | .anewarray ix => (match AS with
    | (.inl e, _) :: AS' => (decide (gm_new (gm_ow mi) ix = some 1) && (ck_sg e && (decide (0 ≤ e.1) && (decide (e.1 < 60000000) && (decide (1 ≤ bc) && (decide (e.1.toNat ≤ bs) && decide (n + 1 < 100000))))))) && k (bc - 1) (bs - e.1.toNat) (pc + 3) AL ((.inr (.inr (.inl (n + 1))), none) :: ck_sh AS') (n + 1) ((n + 1, 3, e.1.toNat) :: F.1, F.2.1, F.2.2)
    | _ => false)
  | .ldc ix => (match gm_ild (gm_ow mi) ix with
    | some q => (q.2 == 0 && ck_cvk (gm_vi q.1)) && k bc bs (pc + 2) AL ((.inl (ck_one q.1), none) :: AS) n F
    | none => (match gm_sld (gm_ow mi) ix with
      | some id => k bc bs (pc + 2) AL ((.inr (.inr (.inr id)), none) :: AS) n F
      | none => false))
  | .ldc_w ix => (match gm_ild (gm_ow mi) ix with
    | some q => (q.2 == 0 && ck_cvk (gm_vi q.1)) && k bc bs (pc + 3) AL ((.inl (ck_one q.1), none) :: AS) n F
    | none => (match gm_sld (gm_ow mi) ix with
      | some id => k bc bs (pc + 3) AL ((.inr (.inr (.inr id)), none) :: AS) n F
      | none => false))
  | .ldc2_w ix => (match gm_ild (gm_ow mi) ix with
    | some q => (q.2 == 1 && ck_cvk (gm_vl q.1)) && k bc bs (pc + 3) AL ((.inr (.inl (ck_one q.1)), none) :: AS) n F
    | none => false)
  | .invokestatic ix => (match gm_cal (gm_ow mi) ix with
    | some q => if q.1 = 5 then ((gm_hh mi).isEmpty && (!(gm_hh q.2).isEmpty && (decide (gm_ow q.2 ≠ gm_mxi) && (decide ((AS.take (gm_na q.2)).length = gm_na q.2) && (ck_n1 (AS.take (gm_na q.2)) && (decide (gm_na q.2 ≤ gm_ml q.2) && ck_sum8 (AS.drop (gm_na q.2)))))))) && ck_call O E d n0 W bc bs n q.2 F ((AS.take (gm_na q.2)).reverse.map Prod.fst) (fun bc bs how n F => match how with
          | .inl x => ck_thr O outs mi pc x n F (fun h => k bc bs h AL [(.inr (.inr (.inr 4000)), none)] n F)
          | .inr u => k bc bs (pc + 3) AL (ck_psh u (AS.drop (gm_na q.2))) n F) else (q.1 == 2 && decide (1 ≤ d)) && (if q.2 = gm_jmax then (match AS with
        | (.inl b, _) :: (.inl a, _) :: AS' => ck_sum8 AS' && k bc bs (pc + 3) AL ((.inl (if a.1 ≤ b.1 then b.1 else a.1, if a.2.1 ≤ b.2.1 then b.2.1 else a.2.1, []), none) :: AS') n F
        | _ => false) else if q.2 = gm_jmin then (match AS with
        | (.inl b, _) :: (.inl a, _) :: AS' => ck_sum8 AS' && k bc bs (pc + 3) AL ((.inl (if a.1 ≤ b.1 then a.1 else b.1, if a.2.1 ≤ b.2.1 then a.2.1 else b.2.1, []), none) :: AS') n F
        | _ => false) else ((gm_hh mi).isEmpty && (decide (gm_ow q.2 ≠ gm_mxi) && (decide ((AS.take (gm_na q.2)).length = gm_na q.2) && (ck_n1 (AS.take (gm_na q.2)) && (decide (gm_na q.2 ≤ gm_ml q.2) && ck_sum8 (AS.drop (gm_na q.2))))))) && ck_call O E d n0 W bc bs n q.2 F ((AS.take (gm_na q.2)).reverse.map Prod.fst) (fun bc bs how n F => match how with
          | .inl x => ck_thr O outs mi pc x n F (fun h => k bc bs h AL [(.inr (.inr (.inr 4000)), none)] n F)
          | .inr u => k bc bs (pc + 3) AL (ck_psh u (AS.drop (gm_na q.2))) n F))
    | none => gm_ac (gm_ow mi) ix && (match AS with
      | (.inl m, _) :: (.inl dp, _) :: (.inr (.inr (.inl k2)), _) :: (.inl sp, _) :: (.inr (.inr (.inl k1)), _) :: AS' => (match ck_kd O F k1, ck_kd O F k2 with
        | some q1, some q2 => (q1.1 == 0 && (q2.1 == 0 && (decide (0 ≤ sp.1) && (decide (0 ≤ dp.1) && (decide (0 ≤ m.1) && (decide (sp.2.1 + m.2.1 ≤ (q1.2 : Int)) && (decide (dp.2.1 + m.2.1 ≤ (q2.2 : Int)) && (ck_okW W.1 n0 k2 dp.1 (dp.2.1 + m.2.1 - 1) && (ck_sum8 AS' && (decide (1 ≤ d) && (match ck_rd O F k1 sp.1 (sp.2.1 + m.2.1 - 1) with | some a => gm_tyw O k2 dp.1 (dp.2.1 + m.2.1 - 1) a.1 a.2.1 | none => ((O.2.2.ty k2).isEmpty && (O.2.2.fp k2).isEmpty)))))))))))) && k bc bs (pc + 3) AL (ck_sh AS') n (F.1, F.2.1, ck_cws [(k2, dp.1, dp.2.1 + m.2.1 - 1)] F.2.2)
        | _, _ => false)
      | _ => false))
  | .invokevirtual ix => (match gm_cal (gm_ow mi) ix with
    | some q => if q.2 = 82 then (match AS with
        | (.inr (.inr (.inr id)), _) :: AS' => (q.1 == 0 && ((gm_hh mi).isEmpty && (decide (id < gm_sl.length) && (ck_sum8 AS' && decide (2 ≤ d))))) && k bc bs (pc + 3) AL ((.inl (ck_one (gm_slen id)), none) :: AS') n F
        | _ => false) else if q.2 = 84 then (match AS with
        | (.inl e, _) :: (.inr (.inr (.inr id)), _) :: AS' => (q.1 == 0 && ((gm_hh mi).isEmpty && (decide (id < gm_sl.length) && (ck_sum8 AS' && (decide (4 ≤ d) && (decide (0 ≤ e.1) && decide (e.2.1 < (gm_slen id : Int)))))))) && k bc bs (pc + 3) AL ((.inl (0, 127, []), none) :: AS') n F
        | _ => false) else (q.1 == 0 && (decide (gm_ow q.2 ≠ gm_mxi) && (decide (gm_cio q.2 < 12) && (decide ((AS.take (gm_na q.2)).length = gm_na q.2) && (ck_n1 (AS.take (gm_na q.2)) && decide (gm_na q.2 + 1 ≤ gm_ml q.2)))))) && (match AS.drop (gm_na q.2) with
      | (.inr (.inr (.inl r)), _) :: AS' => (ck_sum8 AS' && (match ck_kd O F r with
          | some p => p.1 == gm_cio q.2 + 4
          | none => false)) && ck_call O E d n0 W bc bs n q.2 F ((.inr (.inr (.inl r))) :: (AS.take (gm_na q.2)).reverse.map Prod.fst) (fun bc bs how n F => match how with
          | .inl x => ck_thr O outs mi pc x n F (fun h => k bc bs h AL [(.inr (.inr (.inr 4000)), none)] n F)
          | .inr u => k bc bs (pc + 3) AL (ck_psh u AS') n F)
      | _ => false)
    | none => (match gm_una (gm_ow mi) ix with
      | some na => (match AS.drop na with
        | (.inr (.inr (.inl r)), _) :: AS' => (match ck_kd O F r with
          | some p => (match gm_up (gm_ow mi) ix (p.1 - 4) with
            | some mj => ((gm_hh mi).isEmpty && (decide (4 ≤ p.1) && (decide ((AS.take na).length = na) && (decide (gm_na mj = na) && (ck_n1 (AS.take na) && (decide (na + 1 ≤ gm_ml mj) && ck_sum8 AS')))))) && ck_call O E d n0 W bc bs n mj F ((.inr (.inr (.inl r))) :: (AS.take na).reverse.map Prod.fst) (fun bc bs how n F => match how with
              | .inl x => ck_thr O outs mi pc x n F (fun h => k bc bs h AL [(.inr (.inr (.inr 4000)), none)] n F)
              | .inr u => k bc bs (pc + 3) AL (ck_psh u AS') n F)
            | none => false)
          | none => false)
        | _ => false)
      | none => false))
  | .invokespecial ix => if gm_oi (gm_ow mi) ix = true then (match AS with
      | (.inr (.inr (.inl r)), _) :: AS' => (ck_sum8 AS' && (decide (1 ≤ d) && (decide (1 ≤ r) && decide (r ≤ n)))) && k bc bs (pc + 3) AL AS' n F
      | _ => false) else (match gm_cal (gm_ow mi) ix with
    | some q => ((gm_hh mi).isEmpty && ((q.1 == 1 || q.1 == 3) && (decide (gm_ow q.2 ≠ gm_mxi) && (decide ((AS.take (gm_na q.2)).length = gm_na q.2) && (ck_n1 (AS.take (gm_na q.2)) && decide (gm_na q.2 + 1 ≤ gm_ml q.2)))))) && (match AS.drop (gm_na q.2) with
      | (.inr (.inr (.inl r)), _) :: AS' => (ck_sum8 AS' && (decide (1 ≤ r) && decide (r ≤ n))) && ck_call O E d n0 W bc bs n q.2 F ((.inr (.inr (.inl r))) :: (AS.take (gm_na q.2)).reverse.map Prod.fst) (fun bc bs how n F => match how with
          | .inl x => ck_thr O outs mi pc x n F (fun h => k bc bs h AL [(.inr (.inr (.inr 4000)), none)] n F)
          | .inr u => k bc bs (pc + 3) AL (ck_psh u AS') n F)
      | _ => false)
    | none => false)
  | .ireturn => (match AS with
    | (.inl a, s) :: [] => (match gm_rt mi with
      | some .int => cond (ck_sgn a s) (ck_br .lt a s (ck_one 0) none AL F (fun _ F => ck_end O outs (.inr (some (.inl (ck_rf .lt a (ck_one 0))))) n F) && ck_br .ge a s (ck_one 0) none AL F (fun _ F => ck_end O outs (.inr (some (.inl (ck_rf .ge a (ck_one 0))))) n F)) (ck_end O outs (.inr (some (.inl a))) n F)
      | some .boolean => (decide (0 ≤ a.1) && decide (a.2.1 ≤ 1)) && ck_end O outs (.inr (some (.inl a))) n F
      | _ => false)
    | _ => false)
  | .return_ => (match AS with
    | [] => (gm_rt mi).isNone && ck_end O outs (.inr none) n F
    | _ => false)
  | .areturn => (match AS with
    | (.inr (.inr (.inl r)), _) :: [] => (match gm_rt mi with
      | some (.object _) => ck_end O outs (.inr (some (.inr (.inr (.inl r))))) n F
      | some (.array _) => ck_end O outs (.inr (some (.inr (.inr (.inl r))))) n F
      | _ => false)
    | _ => false)
  | _ => false
/-- a few numbers times a constant: number by number -/
noncomputable def ck_fk (i : Instr) (a b : ck_I) : Bool := match i with
  | .imul => ck_sg b && (decide (1 < b.1) && (decide (a.1 < a.2.1) && decide (a.2.1 < a.1 + 24)))
  | _ => false
/-- one instruction -/
noncomputable def ck_i (O : gm_Or) (lx : Option Nat) (XF : List (Int × Int × ck_I)) (E : List (Nat × List ck_Sum)) (mi d n0 : Nat) (W : List (Nat × Int × Int) × List (Nat × Int)) (outs : List ck_Oc) (bc bs pc : Nat) (AL : ck_AL) (AS : ck_AS) (n : Nat) (F : ck_F) (k : Nat → Nat → Nat → ck_AL → ck_AS → Nat → ck_F → Bool) (i : Instr) : Bool :=
  match gm_const i with
  | some v => ck_cvk v && k bc bs (pc + gm_len i) AL ((ck_cv v, none) :: AS) n F
  | none => match gm_load i with
  | some (sr, j) => (match AL[j]? with
    | some (some a) => (ck_so a == sr) && k bc bs (pc + gm_len i) AL ((a, some (.inl (j, 0))) :: AS) n F
    | _ => false)
  | none => match gm_stor i with
  | some (sr, j) => (match AS with
    | q :: AS' => ((ck_so q.1 == sr) && decide (j + (if sr = 1 then 1 else 0) < AL.length)) && k bc bs (pc + gm_len i) (ck_lst AL j q.1) (ck_sl AS') n F
    | [] => false)
  | none => match gm_bin i with
  | some f => (match AS with
    | (.inl b, t) :: (.inl a, s) :: AS' => cond (ck_fk i a b) ((List.range (a.2.1 + 1 - a.1).toNat).all fun (q : Nat) => k bc bs (pc + gm_len i) (ck_qL (a.1 + (q : Int), a.1 + (q : Int), []) a AL) ((.inl (ck_one (gm_w (f (a.1 + (q : Int)) b.1))), none) :: AS') n (ck_qF (a.1 + (q : Int), a.1 + (q : Int), []) a F)) (cond (ck_fk i b a) ((List.range (b.2.1 + 1 - b.1).toNat).all fun (q : Nat) => k bc bs (pc + gm_len i) (ck_qL (b.1 + (q : Int), b.1 + (q : Int), []) b AL) ((.inl (ck_one (gm_w (f a.1 (b.1 + (q : Int))))), none) :: AS') n (ck_qF (b.1 + (q : Int), b.1 + (q : Int), []) b F)) (k bc bs (pc + gm_len i) AL ((.inl (ck_bo i f a b), ck_lks O (ck_sb i a s b t)) :: AS') n F))
    | _ => false)
  | none => match gm_lbin i with
  | some _ => (match AS with
    | (.inr (.inl _), _) :: (.inr (.inl _), _) :: AS' => k bc bs (pc + gm_len i) AL ((.inr (.inl ck_tp6), none) :: AS') n F
    | _ => false)
  | none => match gm_lsh i with
  | some _ => (match AS with
    | (.inl _, _) :: (.inr (.inl _), _) :: AS' => k bc bs (pc + gm_len i) AL ((.inr (.inl ck_tp6), none) :: AS') n F
    | _ => false)
  | none => ck_j O lx XF E mi d n0 W outs bc bs pc AL AS n F k i
/-- one instruction by its own row -/
noncomputable abbrev ck_Fn : Type := gm_Or → Option Nat → List (Int × Int × ck_I) → List (Nat × List ck_Sum) → Nat → Nat → Nat → List (Nat × Int × Int) × List (Nat × Int) → List ck_Oc → Nat → Nat → Nat → ck_AL → ck_AS → Nat → ck_F → (Nat → Nat → Nat → ck_AL → ck_AS → Nat → ck_F → Bool) → Bool
noncomputable def ck_hc (len : Nat) (v : gm_V) (O : gm_Or) (lx : Option Nat) (XF : List (Int × Int × ck_I)) (E : List (Nat × List ck_Sum)) (mi d n0 : Nat) (W : List (Nat × Int × Int) × List (Nat × Int)) (outs : List ck_Oc) (bc bs pc : Nat) (AL : ck_AL) (AS : ck_AS) (n : Nat) (F : ck_F) (k : Nat → Nat → Nat → ck_AL → ck_AS → Nat → ck_F → Bool) : Bool := ck_cvk v && k bc bs (pc + len) AL ((ck_cv v, none) :: AS) n F
noncomputable def ck_hl (len sr j : Nat) (O : gm_Or) (lx : Option Nat) (XF : List (Int × Int × ck_I)) (E : List (Nat × List ck_Sum)) (mi d n0 : Nat) (W : List (Nat × Int × Int) × List (Nat × Int)) (outs : List ck_Oc) (bc bs pc : Nat) (AL : ck_AL) (AS : ck_AS) (n : Nat) (F : ck_F) (k : Nat → Nat → Nat → ck_AL → ck_AS → Nat → ck_F → Bool) : Bool := match AL[j]? with
    | some (some a) => (ck_so a == sr) && k bc bs (pc + len) AL ((a, some (.inl (j, 0))) :: AS) n F
    | _ => false
noncomputable def ck_hs (len sr j : Nat) (O : gm_Or) (lx : Option Nat) (XF : List (Int × Int × ck_I)) (E : List (Nat × List ck_Sum)) (mi d n0 : Nat) (W : List (Nat × Int × Int) × List (Nat × Int)) (outs : List ck_Oc) (bc bs pc : Nat) (AL : ck_AL) (AS : ck_AS) (n : Nat) (F : ck_F) (k : Nat → Nat → Nat → ck_AL → ck_AS → Nat → ck_F → Bool) : Bool := match AS with
    | q :: AS' => ((ck_so q.1 == sr) && decide (j + (if sr = 1 then 1 else 0) < AL.length)) && k bc bs (pc + len) (ck_lst AL j q.1) (ck_sl AS') n F
    | [] => false
noncomputable def ck_b2 (g : ck_I → ck_I → ck_I) (f : Int → Int → Int) (a b : ck_I) : ck_I := if (ck_sg a && ck_sg b) = true then ck_one (gm_w (f a.1 b.1)) else ck_nrm (g a b)
noncomputable def ck_hb (sb : ck_I → ck_S → ck_I → ck_S → ck_S) (g : ck_I → ck_I → ck_I) (f : Int → Int → Int) (O : gm_Or) (lx : Option Nat) (XF : List (Int × Int × ck_I)) (E : List (Nat × List ck_Sum)) (mi d n0 : Nat) (W : List (Nat × Int × Int) × List (Nat × Int)) (outs : List ck_Oc) (bc bs pc : Nat) (AL : ck_AL) (AS : ck_AS) (n : Nat) (F : ck_F) (k : Nat → Nat → Nat → ck_AL → ck_AS → Nat → ck_F → Bool) : Bool := match AS with
    | (.inl b, t) :: (.inl a, s) :: AS' => k bc bs (pc + 1) AL ((.inl (ck_b2 g f a b), ck_lks O (sb a s b t)) :: AS') n F
    | _ => false
noncomputable def ck_hlb (O : gm_Or) (lx : Option Nat) (XF : List (Int × Int × ck_I)) (E : List (Nat × List ck_Sum)) (mi d n0 : Nat) (W : List (Nat × Int × Int) × List (Nat × Int)) (outs : List ck_Oc) (bc bs pc : Nat) (AL : ck_AL) (AS : ck_AS) (n : Nat) (F : ck_F) (k : Nat → Nat → Nat → ck_AL → ck_AS → Nat → ck_F → Bool) : Bool := match AS with
    | (.inr (.inl _), _) :: (.inr (.inl _), _) :: AS' => k bc bs (pc + 1) AL ((.inr (.inl ck_tp6), none) :: AS') n F
    | _ => false
noncomputable def ck_hls (O : gm_Or) (lx : Option Nat) (XF : List (Int × Int × ck_I)) (E : List (Nat × List ck_Sum)) (mi d n0 : Nat) (W : List (Nat × Int × Int) × List (Nat × Int)) (outs : List ck_Oc) (bc bs pc : Nat) (AL : ck_AL) (AS : ck_AS) (n : Nat) (F : ck_F) (k : Nat → Nat → Nat → ck_AL → ck_AS → Nat → ck_F → Bool) : Bool := match AS with
    | (.inl _, _) :: (.inr (.inl _), _) :: AS' => k bc bs (pc + 1) AL ((.inr (.inl ck_tp6), none) :: AS') n F
    | _ => false
noncomputable def ck_h_ineg  (O : gm_Or) (lx : Option Nat) (XF : List (Int × Int × ck_I)) (E : List (Nat × List ck_Sum)) (mi d n0 : Nat) (W : List (Nat × Int × Int) × List (Nat × Int)) (outs : List ck_Oc) (bc bs pc : Nat) (AL : ck_AL) (AS : ck_AS) (n : Nat) (F : ck_F) (k : Nat → Nat → Nat → ck_AL → ck_AS → Nat → ck_F → Bool) : Bool := (match AS with
    | (.inl a, _) :: AS' => k bc bs (pc + 1) AL ((.inl (ck_nrm (- a.2.1, - a.1, [])), none) :: AS') n F
    | _ => false)
noncomputable def ck_h_i2b  (O : gm_Or) (lx : Option Nat) (XF : List (Int × Int × ck_I)) (E : List (Nat × List ck_Sum)) (mi d n0 : Nat) (W : List (Nat × Int × Int) × List (Nat × Int)) (outs : List ck_Oc) (bc bs pc : Nat) (AL : ck_AL) (AS : ck_AS) (n : Nat) (F : ck_F) (k : Nat → Nat → Nat → ck_AL → ck_AS → Nat → ck_F → Bool) : Bool := (match AS with
    | (.inl a, _) :: AS' => k bc bs (pc + 1) AL ((.inl (if -128 ≤ a.1 ∧ a.2.1 ≤ 127 then a else (-128, 127, [])), none) :: AS') n F
    | _ => false)
noncomputable def ck_h_i2l  (O : gm_Or) (lx : Option Nat) (XF : List (Int × Int × ck_I)) (E : List (Nat × List ck_Sum)) (mi d n0 : Nat) (W : List (Nat × Int × Int) × List (Nat × Int)) (outs : List ck_Oc) (bc bs pc : Nat) (AL : ck_AL) (AS : ck_AS) (n : Nat) (F : ck_F) (k : Nat → Nat → Nat → ck_AL → ck_AS → Nat → ck_F → Bool) : Bool := (match AS with
    | (.inl a, _) :: AS' => k bc bs (pc + 1) AL ((.inr (.inl a), none) :: AS') n F
    | _ => false)
noncomputable def ck_h_l2i  (O : gm_Or) (lx : Option Nat) (XF : List (Int × Int × ck_I)) (E : List (Nat × List ck_Sum)) (mi d n0 : Nat) (W : List (Nat × Int × Int) × List (Nat × Int)) (outs : List ck_Oc) (bc bs pc : Nat) (AL : ck_AL) (AS : ck_AS) (n : Nat) (F : ck_F) (k : Nat → Nat → Nat → ck_AL → ck_AS → Nat → ck_F → Bool) : Bool := (match AS with
    | (.inr (.inl a), _) :: AS' => k bc bs (pc + 1) AL ((.inl (ck_nrm a), none) :: AS') n F
    | _ => false)
noncomputable def ck_h_lcmp  (O : gm_Or) (lx : Option Nat) (XF : List (Int × Int × ck_I)) (E : List (Nat × List ck_Sum)) (mi d n0 : Nat) (W : List (Nat × Int × Int) × List (Nat × Int)) (outs : List ck_Oc) (bc bs pc : Nat) (AL : ck_AL) (AS : ck_AS) (n : Nat) (F : ck_F) (k : Nat → Nat → Nat → ck_AL → ck_AS → Nat → ck_F → Bool) : Bool := (match AS with
    | (.inr (.inl b), _) :: (.inr (.inl a), _) :: AS' => k bc bs (pc + 1) AL ((.inl (if (ck_leI a b && ck_leI b a && (ck_sg a || ck_ex b)) = true then ck_one 0 else if a.2.1 < b.1 then ck_one (-1) else if b.2.1 < a.1 then ck_one 1 else (-1, 1, [])), none) :: AS') n F
    | _ => false)
noncomputable def ck_h_idiv  (O : gm_Or) (lx : Option Nat) (XF : List (Int × Int × ck_I)) (E : List (Nat × List ck_Sum)) (mi d n0 : Nat) (W : List (Nat × Int × Int) × List (Nat × Int)) (outs : List ck_Oc) (bc bs pc : Nat) (AL : ck_AL) (AS : ck_AS) (n : Nat) (F : ck_F) (k : Nat → Nat → Nat → ck_AL → ck_AS → Nat → ck_F → Bool) : Bool := (match AS with
    | (.inl b, _) :: (.inl a, s) :: AS' => (decide (0 < b.1) || decide (b.2.1 < 0)) && cond (ck_sgl a b s) (ck_br .lt a s (ck_one 0) none AL F (fun AL F => k bc bs (pc + 1) AL ((.inl (ck_dv (ck_rf .lt a (ck_one 0)) b), none) :: AS') n F) && ck_br .ge a s (ck_one 0) none AL F (fun AL F => k bc bs (pc + 1) AL ((.inl (ck_dv (ck_rf .ge a (ck_one 0)) b), none) :: AS') n F)) (k bc bs (pc + 1) AL ((.inl (ck_dv a b), none) :: AS') n F)
    | _ => false)
noncomputable def ck_h_irem  (O : gm_Or) (lx : Option Nat) (XF : List (Int × Int × ck_I)) (E : List (Nat × List ck_Sum)) (mi d n0 : Nat) (W : List (Nat × Int × Int) × List (Nat × Int)) (outs : List ck_Oc) (bc bs pc : Nat) (AL : ck_AL) (AS : ck_AS) (n : Nat) (F : ck_F) (k : Nat → Nat → Nat → ck_AL → ck_AS → Nat → ck_F → Bool) : Bool := (match AS with
    | (.inl b, _) :: (.inl a, _) :: AS' => (decide (0 < b.1) || decide (b.2.1 < 0)) && k bc bs (pc + 1) AL ((.inl (if (ck_sg a && ck_sg b) = true then ck_one (gm_w (Int.tmod a.1 b.1)) else if 0 ≤ a.1 ∧ 0 < b.1 then (0, b.2.1 - 1, []) else ck_top), none) :: AS') n F
    | _ => false)
noncomputable def ck_h_dup  (O : gm_Or) (lx : Option Nat) (XF : List (Int × Int × ck_I)) (E : List (Nat × List ck_Sum)) (mi d n0 : Nat) (W : List (Nat × Int × Int) × List (Nat × Int)) (outs : List ck_Oc) (bc bs pc : Nat) (AL : ck_AL) (AS : ck_AS) (n : Nat) (F : ck_F) (k : Nat → Nat → Nat → ck_AL → ck_AS → Nat → ck_F → Bool) : Bool := (match AS with
    | q :: AS' => !(ck_so q.1 == 1) && k bc bs (pc + 1) AL (q :: q :: AS') n F
    | [] => false)
noncomputable def ck_h_pop  (O : gm_Or) (lx : Option Nat) (XF : List (Int × Int × ck_I)) (E : List (Nat × List ck_Sum)) (mi d n0 : Nat) (W : List (Nat × Int × Int) × List (Nat × Int)) (outs : List ck_Oc) (bc bs pc : Nat) (AL : ck_AL) (AS : ck_AS) (n : Nat) (F : ck_F) (k : Nat → Nat → Nat → ck_AL → ck_AS → Nat → ck_F → Bool) : Bool := (match AS with
    | q :: AS' => !(ck_so q.1 == 1) && k bc bs (pc + 1) AL AS' n F
    | [] => false)
noncomputable def ck_h_dup2  (O : gm_Or) (lx : Option Nat) (XF : List (Int × Int × ck_I)) (E : List (Nat × List ck_Sum)) (mi d n0 : Nat) (W : List (Nat × Int × Int) × List (Nat × Int)) (outs : List ck_Oc) (bc bs pc : Nat) (AL : ck_AL) (AS : ck_AS) (n : Nat) (F : ck_F) (k : Nat → Nat → Nat → ck_AL → ck_AS → Nat → ck_F → Bool) : Bool := (match AS with
    | q :: p :: AS' => (!(ck_so q.1 == 1) && !(ck_so p.1 == 1)) && k bc bs (pc + 1) AL (q :: p :: q :: p :: AS') n F
    | _ => false)
noncomputable def ck_h_iinc (j : Nat) (z : Int) (O : gm_Or) (lx : Option Nat) (XF : List (Int × Int × ck_I)) (E : List (Nat × List ck_Sum)) (mi d n0 : Nat) (W : List (Nat × Int × Int) × List (Nat × Int)) (outs : List ck_Oc) (bc bs pc : Nat) (AL : ck_AL) (AS : ck_AS) (n : Nat) (F : ck_F) (k : Nat → Nat → Nat → ck_AL → ck_AS → Nat → ck_F → Bool) : Bool := (match AL[j]? with
    | some (some (.inl a)) => if ck_in (a.1 + z, a.2.1 + z, []) = true then k bc bs (pc + 3) (ck_lst AL j (.inl (a.1 + z, a.2.1 + z, ck_mv a.2.2 z))) (ck_sl AS) n F else k bc bs (pc + 3) (ck_lst AL j (.inl ck_top)) (ck_sl AS) n F
    | _ => false)
noncomputable def ck_h_goto (off : Int) (O : gm_Or) (lx : Option Nat) (XF : List (Int × Int × ck_I)) (E : List (Nat × List ck_Sum)) (mi d n0 : Nat) (W : List (Nat × Int × Int) × List (Nat × Int)) (outs : List ck_Oc) (bc bs pc : Nat) (AL : ck_AL) (AS : ck_AS) (n : Nat) (F : ck_F) (k : Nat → Nat → Nat → ck_AL → ck_AS → Nat → ck_F → Bool) : Bool := decide (0 ≤ (pc : Int) + off) && k bc bs (gm_tgt pc off) AL AS n F
noncomputable def ck_h_ifCond (c : ClassFile.Cond) (off : Int) (O : gm_Or) (lx : Option Nat) (XF : List (Int × Int × ck_I)) (E : List (Nat × List ck_Sum)) (mi d n0 : Nat) (W : List (Nat × Int × Int) × List (Nat × Int)) (outs : List ck_Oc) (bc bs pc : Nat) (AL : ck_AL) (AS : ck_AS) (n : Nat) (F : ck_F) (k : Nat → Nat → Nat → ck_AL → ck_AS → Nat → ck_F → Bool) : Bool := (match AS with
    | (.inl a, s) :: AS' => decide (0 ≤ (pc : Int) + off) && (ck_br c a s (ck_one 0) none AL F (fun AL F => k bc bs (gm_tgt pc off) AL AS' n (ck_rE O F)) && ck_br (ck_ng c) a s (ck_one 0) none AL F (fun AL F => k bc bs (pc + 3) AL AS' n (ck_rE O F)))
    | _ => false)
noncomputable def ck_h_if_icmp (c : ClassFile.Cond) (off : Int) (O : gm_Or) (lx : Option Nat) (XF : List (Int × Int × ck_I)) (E : List (Nat × List ck_Sum)) (mi d n0 : Nat) (W : List (Nat × Int × Int) × List (Nat × Int)) (outs : List ck_Oc) (bc bs pc : Nat) (AL : ck_AL) (AS : ck_AS) (n : Nat) (F : ck_F) (k : Nat → Nat → Nat → ck_AL → ck_AS → Nat → ck_F → Bool) : Bool := (match AS with
    | (.inl b, t) :: (.inl a, s) :: AS' => decide (0 ≤ (pc : Int) + off) && (match ck_lkp O F s t with
      | some w => ck_br c w (some (.inr (.inl (0, 4, 0)))) (ck_one 0) none AL F (fun AL F => k bc bs (gm_tgt pc off) AL AS' n (ck_rE O F)) && ck_br (ck_ng c) w (some (.inr (.inl (0, 4, 0)))) (ck_one 0) none AL F (fun AL F => k bc bs (pc + 3) AL AS' n (ck_rE O F))
      | none => ck_br c a s b t AL F (fun AL F => k bc bs (gm_tgt pc off) AL AS' n (ck_rE O F)) && ck_br (ck_ng c) a s b t AL F (fun AL F => k bc bs (pc + 3) AL AS' n (ck_rE O F)))
    | _ => false)
noncomputable def ck_h_ifnull (off : Int) (O : gm_Or) (lx : Option Nat) (XF : List (Int × Int × ck_I)) (E : List (Nat × List ck_Sum)) (mi d n0 : Nat) (W : List (Nat × Int × Int) × List (Nat × Int)) (outs : List ck_Oc) (bc bs pc : Nat) (AL : ck_AL) (AS : ck_AS) (n : Nat) (F : ck_F) (k : Nat → Nat → Nat → ck_AL → ck_AS → Nat → ck_F → Bool) : Bool := (match AS with
    | (.inr (.inr (.inl r)), _) :: AS' => (decide (0 ≤ (pc : Int) + off) && decide (r < 100000)) && (if r = 0 then k bc bs (gm_tgt pc off) AL AS' n F else k bc bs (pc + 3) AL AS' n F)
    | _ => false)
noncomputable def ck_h_ifnonnull (off : Int) (O : gm_Or) (lx : Option Nat) (XF : List (Int × Int × ck_I)) (E : List (Nat × List ck_Sum)) (mi d n0 : Nat) (W : List (Nat × Int × Int) × List (Nat × Int)) (outs : List ck_Oc) (bc bs pc : Nat) (AL : ck_AL) (AS : ck_AS) (n : Nat) (F : ck_F) (k : Nat → Nat → Nat → ck_AL → ck_AS → Nat → ck_F → Bool) : Bool := (match AS with
    | (.inr (.inr (.inl r)), _) :: AS' => (decide (0 ≤ (pc : Int) + off) && decide (r < 100000)) && (if r = 0 then k bc bs (pc + 3) AL AS' n F else k bc bs (gm_tgt pc off) AL AS' n F)
    | _ => false)
noncomputable def ck_h_tableswitch (df lo hi : Int) (offs : Array Int) (O : gm_Or) (lx : Option Nat) (XF : List (Int × Int × ck_I)) (E : List (Nat × List ck_Sum)) (mi d n0 : Nat) (W : List (Nat × Int × Int) × List (Nat × Int)) (outs : List ck_Oc) (bc bs pc : Nat) (AL : ck_AL) (AS : ck_AS) (n : Nat) (F : ck_F) (k : Nat → Nat → Nat → ck_AL → ck_AS → Nat → ck_F → Bool) : Bool := (match AS with
    | (.inl a, s) :: AS' => (decide (((offs.size : Nat) : Int) = hi - lo + 1) && (decide (0 ≤ (pc : Int) + df) && (offs.toList.all (fun o => decide (0 ≤ (pc : Int) + o)) && (decide (-2147483647 ≤ lo) && decide (hi < 2147483647))))) && ((ck_br .lt a s (ck_one lo) none AL F (fun AL F => k bc bs (gm_tgt pc df) AL AS' n F) && ck_br .gt a s (ck_one hi) none AL F (fun AL F => k bc bs (gm_tgt pc df) AL AS' n F)) && ck_swk a s AL F pc (fun q AL F => k bc bs q AL AS' n F) offs.toList lo)
    | _ => false)
noncomputable def ck_h_getfield (ix : Nat) (O : gm_Or) (lx : Option Nat) (XF : List (Int × Int × ck_I)) (E : List (Nat × List ck_Sum)) (mi d n0 : Nat) (W : List (Nat × Int × Int) × List (Nat × Int)) (outs : List ck_Oc) (bc bs pc : Nat) (AL : ck_AL) (AS : ck_AS) (n : Nat) (F : ck_F) (k : Nat → Nat → Nat → ck_AL → ck_AS → Nat → ck_F → Bool) : Bool := (match AS with
    | (.inr (.inr (.inl r)), _) :: AS' => (match ck_kd O F r with
      | some q => (match gm_fld (gm_ow mi) ix (q.1 - 4) with
        | some j => decide (4 ≤ q.1) && (if gm_isr (q.1 - 4) j = true then (match ck_fR O F r j with
            | some v => k bc bs (pc + 3) AL ((.inr (.inr (.inl v)), none) :: AS') n F
            | none => false) else (match ck_fi F r j j with
              | some a => k bc bs (pc + 3) AL ((.inl a, some (.inr (.inl (r, (j : Int), 0)))) :: AS') n F
              | none => (match gm_tyr O r j j with
                | some t => k bc bs (pc + 3) AL ((.inl (t.1, t.2, []), some (.inr (.inl (r, (j : Int), 0)))) :: AS') n (F.1, F.2.1, (r, (j : Int), (j : Int), (t.1, t.2, [])) :: F.2.2)
                | none => k bc bs (pc + 3) AL ((.inl ck_top, none) :: AS') n F)))
        | none => false)
      | none => false)
    | _ => false)
noncomputable def ck_h_putfield (ix : Nat) (O : gm_Or) (lx : Option Nat) (XF : List (Int × Int × ck_I)) (E : List (Nat × List ck_Sum)) (mi d n0 : Nat) (W : List (Nat × Int × Int) × List (Nat × Int)) (outs : List ck_Oc) (bc bs pc : Nat) (AL : ck_AL) (AS : ck_AS) (n : Nat) (F : ck_F) (k : Nat → Nat → Nat → ck_AL → ck_AS → Nat → ck_F → Bool) : Bool := (match AS with
    | (.inl a, s) :: (.inr (.inr (.inl r)), _) :: AS' => (match ck_kd O F r with
      | some q => (match gm_fld (gm_ow mi) ix (q.1 - 4) with
        | some j => (match ck_gp O F r j s a with
          | some g => (decide (4 ≤ q.1) && (gm_may mi (q.1 - 4) j && ((gm_tyv O r j j a.1 a.2.1 && (O.2.2.ty 0).isEmpty) && ((ck_okW W.1 n0 r j j && (ck_okW W.1 n0 0 4 4 && (ck_okW W.1 n0 0 3 3 && ck_okW W.1 n0 0 5 5))) && ((ck_in g.1 && (ck_in g.2.1 && ck_in g.2.2)) && gm_fk (q.1 - 4) j == 0))))) && k bc bs (pc + 3) AL (ck_sh AS') n (ck_gF F r j a g)
          | none => (decide (4 ≤ q.1) && (gm_may mi (q.1 - 4) j && (gm_tyw O r j j a.1 a.2.1 && (ck_okW W.1 n0 r j j && (gm_fk (q.1 - 4) j == 0 || (gm_fk (q.1 - 4) j == 1 && (decide (0 ≤ a.1) && decide (a.2.1 ≤ 1)))))))) && k bc bs (pc + 3) AL (ck_sh AS') n (ck_upT O F r j j a))
        | none => false)
      | none => false)
    | (.inr (.inr (.inl v)), _) :: (.inr (.inr (.inl r)), _) :: AS' => (match ck_kd O F r with
      | some q => (match gm_fld (gm_ow mi) ix (q.1 - 4) with
        | some j => (decide (4 ≤ q.1) && (gm_may mi (q.1 - 4) j && ((O.2.1 r j).isNone && (ck_okR W.2 n0 r j && gm_fk (q.1 - 4) j == 2)))) && k bc bs (pc + 3) AL AS' n (ck_upR F r j v)
        | none => false)
      | none => false)
    | _ => false)
noncomputable def ck_h_iaload  (O : gm_Or) (lx : Option Nat) (XF : List (Int × Int × ck_I)) (E : List (Nat × List ck_Sum)) (mi d n0 : Nat) (W : List (Nat × Int × Int) × List (Nat × Int)) (outs : List ck_Oc) (bc bs pc : Nat) (AL : ck_AL) (AS : ck_AS) (n : Nat) (F : ck_F) (k : Nat → Nat → Nat → ck_AL → ck_AS → Nat → ck_F → Bool) : Bool := (match AS with
    | (.inl e, _) :: (.inr (.inr (.inl r)), _) :: AS' => (match ck_kd O F r with
      | some q => (q.1 == 0 && (decide (0 ≤ e.1) && decide (e.2.1 < (q.2 : Int)))) && (match ck_fi F r e.1 e.2.1 with
        | some a => k bc bs (pc + 1) AL ((.inl a, if ck_sg e = true then some (.inr (.inl (r, e.1, 0))) else none) :: AS') n F
        | none => (match gm_tyr O r e.1 e.2.1 with
          | some t => if ck_sg e = true then k bc bs (pc + 1) AL ((.inl (t.1, t.2, []), some (.inr (.inl (r, e.1, 0)))) :: AS') n (F.1, F.2.1, (r, e.1, e.1, (t.1, t.2, [])) :: F.2.2) else k bc bs (pc + 1) AL ((.inl (t.1, t.2, []), none) :: AS') n F
          | none => k bc bs (pc + 1) AL ((.inl ck_top, none) :: AS') n F))
      | none => false)
    | (.inl e, _) :: (.inr (.inr (.inr c)), _) :: AS' => (match lx with
      | some l => (c == 2000 && (decide (0 ≤ e.1) && decide (e.2.1 < (l : Int)))) && (match XF.find? fun q => decide (q.1 ≤ e.1) && decide (e.2.1 ≤ q.2.1) with
        | some q => k bc bs (pc + 1) AL ((.inl q.2.2, none) :: AS') n F
        | none => k bc bs (pc + 1) AL ((.inl ck_top, none) :: AS') n F)
      | none => false)
    | _ => false)
noncomputable def ck_h_baload  (O : gm_Or) (lx : Option Nat) (XF : List (Int × Int × ck_I)) (E : List (Nat × List ck_Sum)) (mi d n0 : Nat) (W : List (Nat × Int × Int) × List (Nat × Int)) (outs : List ck_Oc) (bc bs pc : Nat) (AL : ck_AL) (AS : ck_AS) (n : Nat) (F : ck_F) (k : Nat → Nat → Nat → ck_AL → ck_AS → Nat → ck_F → Bool) : Bool := (match AS with
    | (.inl e, _) :: (.inr (.inr (.inl r)), _) :: AS' => (match ck_kd O F r with
      | some q => (q.1 == 1 && (decide (0 ≤ e.1) && decide (e.2.1 < (q.2 : Int)))) && (match ck_fi F r e.1 e.2.1 with
        | some a => k bc bs (pc + 1) AL ((.inl a, if ck_sg e = true then some (.inr (.inl (r, e.1, 0))) else none) :: AS') n F
        | none => (match gm_tyr O r e.1 e.2.1 with
          | some t => if ck_sg e = true then k bc bs (pc + 1) AL ((.inl (t.1, t.2, []), some (.inr (.inl (r, e.1, 0)))) :: AS') n (F.1, F.2.1, (r, e.1, e.1, (t.1, t.2, [])) :: F.2.2) else k bc bs (pc + 1) AL ((.inl (t.1, t.2, []), none) :: AS') n F
          | none => k bc bs (pc + 1) AL ((.inl ck_top, none) :: AS') n F))
      | none => false)
    | _ => false)
noncomputable def ck_h_laload  (O : gm_Or) (lx : Option Nat) (XF : List (Int × Int × ck_I)) (E : List (Nat × List ck_Sum)) (mi d n0 : Nat) (W : List (Nat × Int × Int) × List (Nat × Int)) (outs : List ck_Oc) (bc bs pc : Nat) (AL : ck_AL) (AS : ck_AS) (n : Nat) (F : ck_F) (k : Nat → Nat → Nat → ck_AL → ck_AS → Nat → ck_F → Bool) : Bool := (match AS with
    | (.inl e, _) :: (.inr (.inr (.inl r)), _) :: AS' => (match ck_kd O F r with
      | some q => (q.1 == 2 && (decide (0 ≤ e.1) && decide (e.2.1 < (q.2 : Int)))) && (match ck_fi F r e.1 e.2.1 with
        | some a => k bc bs (pc + 1) AL ((.inr (.inl a), none) :: AS') n F
        | none => k bc bs (pc + 1) AL ((.inr (.inl ck_tp6), none) :: AS') n F)
      | none => false)
    | _ => false)
noncomputable def ck_h_aaload  (O : gm_Or) (lx : Option Nat) (XF : List (Int × Int × ck_I)) (E : List (Nat × List ck_Sum)) (mi d n0 : Nat) (W : List (Nat × Int × Int) × List (Nat × Int)) (outs : List ck_Oc) (bc bs pc : Nat) (AL : ck_AL) (AS : ck_AS) (n : Nat) (F : ck_F) (k : Nat → Nat → Nat → ck_AL → ck_AS → Nat → ck_F → Bool) : Bool := (match AS with
    | (.inl e, _) :: (.inr (.inr (.inl r)), _) :: AS' => (match ck_kd O F r with
      | some q => (q.1 == 3 && (decide (0 ≤ e.1) && (decide (e.2.1 < (q.2 : Int)) && decide (e.2.1 < e.1 + 20)))) && (List.range (e.2.1 + 1 - e.1).toNat).all fun (i : Nat) => (match ck_fR O F r (e.1 + (i : Int)) with
        | some v => k bc bs (pc + 1) AL ((.inr (.inr (.inl v)), none) :: AS') n F
        | none => false)
      | none => false)
    | _ => false)
noncomputable def ck_h_iastore  (O : gm_Or) (lx : Option Nat) (XF : List (Int × Int × ck_I)) (E : List (Nat × List ck_Sum)) (mi d n0 : Nat) (W : List (Nat × Int × Int) × List (Nat × Int)) (outs : List ck_Oc) (bc bs pc : Nat) (AL : ck_AL) (AS : ck_AS) (n : Nat) (F : ck_F) (k : Nat → Nat → Nat → ck_AL → ck_AS → Nat → ck_F → Bool) : Bool := (match AS with
    | (.inl a, _) :: (.inl e, _) :: (.inr (.inr (.inl r)), _) :: AS' => (match ck_kd O F r with
      | some q => (q.1 == 0 && (decide (0 ≤ e.1) && (decide (e.2.1 < (q.2 : Int)) && (ck_okW W.1 n0 r e.1 e.2.1 && gm_tyw O r e.1 e.2.1 a.1 a.2.1)))) && k bc bs (pc + 1) AL (ck_sh AS') n (ck_upT O F r e.1 e.2.1 a)
      | none => false)
    | _ => false)
noncomputable def ck_h_bastore  (O : gm_Or) (lx : Option Nat) (XF : List (Int × Int × ck_I)) (E : List (Nat × List ck_Sum)) (mi d n0 : Nat) (W : List (Nat × Int × Int) × List (Nat × Int)) (outs : List ck_Oc) (bc bs pc : Nat) (AL : ck_AL) (AS : ck_AS) (n : Nat) (F : ck_F) (k : Nat → Nat → Nat → ck_AL → ck_AS → Nat → ck_F → Bool) : Bool := (match AS with
    | (.inl a, _) :: (.inl e, _) :: (.inr (.inr (.inl r)), _) :: AS' => (match ck_kd O F r with
      | some q => (q.1 == 1 && (decide (0 ≤ e.1) && (decide (e.2.1 < (q.2 : Int)) && (ck_okW W.1 n0 r e.1 e.2.1 && (if -128 ≤ a.1 ∧ a.2.1 ≤ 127 then gm_tyw O r e.1 e.2.1 a.1 a.2.1 else gm_tyw O r e.1 e.2.1 (-128) 127))))) && k bc bs (pc + 1) AL (ck_sh AS') n (ck_upT O F r e.1 e.2.1 (if -128 ≤ a.1 ∧ a.2.1 ≤ 127 then a else (-128, 127, [])))
      | none => false)
    | _ => false)
noncomputable def ck_h_lastore  (O : gm_Or) (lx : Option Nat) (XF : List (Int × Int × ck_I)) (E : List (Nat × List ck_Sum)) (mi d n0 : Nat) (W : List (Nat × Int × Int) × List (Nat × Int)) (outs : List ck_Oc) (bc bs pc : Nat) (AL : ck_AL) (AS : ck_AS) (n : Nat) (F : ck_F) (k : Nat → Nat → Nat → ck_AL → ck_AS → Nat → ck_F → Bool) : Bool := (match AS with
    | (.inr (.inl a), _) :: (.inl e, _) :: (.inr (.inr (.inl r)), _) :: AS' => (match ck_kd O F r with
      | some q => (q.1 == 2 && (decide (0 ≤ e.1) && (decide (e.2.1 < (q.2 : Int)) && (ck_okW W.1 n0 r e.1 e.2.1 && ((O.2.2.ty r).isEmpty && (O.2.2.fp r).isEmpty))))) && (if ck_in a = true then k bc bs (pc + 1) AL (ck_sh AS') n (ck_up F r e.1 e.2.1 a) else k bc bs (pc + 1) AL (ck_sh AS') n (F.1, F.2.1, F.2.2.filter fun p => !(p.1 == r)))
      | none => false)
    | _ => false)
noncomputable def ck_h_aastore  (O : gm_Or) (lx : Option Nat) (XF : List (Int × Int × ck_I)) (E : List (Nat × List ck_Sum)) (mi d n0 : Nat) (W : List (Nat × Int × Int) × List (Nat × Int)) (outs : List ck_Oc) (bc bs pc : Nat) (AL : ck_AL) (AS : ck_AS) (n : Nat) (F : ck_F) (k : Nat → Nat → Nat → ck_AL → ck_AS → Nat → ck_F → Bool) : Bool := (match AS with
    | (.inr (.inr (.inl v)), _) :: (.inl e, _) :: (.inr (.inr (.inl r)), _) :: AS' => (match ck_kd O F r, ck_kd O F v with
      | some q, some p => (q.1 == 3 && (p.1 == 5 && (ck_sg e && (decide (0 ≤ e.1) && (decide (e.1 < (q.2 : Int)) && ((O.2.1 r e.1).isNone && ck_okR W.2 n0 r e.1)))))) && k bc bs (pc + 1) AL AS' n (ck_upR F r e.1 v)
      | _, _ => false)
    | _ => false)
noncomputable def ck_h_arraylength  (O : gm_Or) (lx : Option Nat) (XF : List (Int × Int × ck_I)) (E : List (Nat × List ck_Sum)) (mi d n0 : Nat) (W : List (Nat × Int × Int) × List (Nat × Int)) (outs : List ck_Oc) (bc bs pc : Nat) (AL : ck_AL) (AS : ck_AS) (n : Nat) (F : ck_F) (k : Nat → Nat → Nat → ck_AL → ck_AS → Nat → ck_F → Bool) : Bool := (match AS with
    | (.inr (.inr (.inl r)), _) :: AS' => (match ck_kd O F r with
      | some q => (decide (q.1 ≤ 3) && ck_cvk (gm_vi (q.2 : Int))) && k bc bs (pc + 1) AL ((.inl (ck_one q.2), none) :: AS') n F
      | none => false)
    | (.inr (.inr (.inr c)), _) :: AS' => (match lx with
      | some l => (c == 2000 && ck_cvk (gm_vi (l : Int))) && k bc bs (pc + 1) AL ((.inl (ck_one l), none) :: AS') n F
      | none => false)
    | _ => false)
noncomputable def ck_h_new (ix : Nat) (O : gm_Or) (lx : Option Nat) (XF : List (Int × Int × ck_I)) (E : List (Nat × List ck_Sum)) (mi d n0 : Nat) (W : List (Nat × Int × Int) × List (Nat × Int)) (outs : List ck_Oc) (bc bs pc : Nat) (AL : ck_AL) (AS : ck_AS) (n : Nat) (F : ck_F) (k : Nat → Nat → Nat → ck_AL → ck_AS → Nat → ck_F → Bool) : Bool := (match gm_new (gm_ow mi) ix with
    | some ci => ((decide (1 ≤ bc) && decide (gm_nf ci ≤ bs)) && decide (n + 1 < 100000)) && k (bc - 1) (bs - gm_nf ci) (pc + 3) AL ((.inr (.inr (.inl (n + 1))), none) :: ck_sh AS) (n + 1) ((n + 1, ci + 4, 0) :: F.1, F.2.1, ((List.range (gm_nf ci)).map fun (j : Nat) => (n + 1, (j : Int), (j : Int), ck_one 0)) ++ F.2.2)
    | none => (match gm_isx mi pc ix with
      | some x => ((gm_hh mi).isEmpty && (decide (6 ≤ d) && (ck_sum8 AS && (decide (1 ≤ bc) && decide (6 ≤ bs))))) && ck_end O outs (.inl x) n F
      | none => false))
noncomputable def ck_h_newarray (at0 : ArrayType) (O : gm_Or) (lx : Option Nat) (XF : List (Int × Int × ck_I)) (E : List (Nat × List ck_Sum)) (mi d n0 : Nat) (W : List (Nat × Int × Int) × List (Nat × Int)) (outs : List ck_Oc) (bc bs pc : Nat) (AL : ck_AL) (AS : ck_AS) (n : Nat) (F : ck_F) (k : Nat → Nat → Nat → ck_AL → ck_AS → Nat → ck_F → Bool) : Bool := (match AS, (match at0 with | .int => some 0 | .byte => some 1 | .long => some 2 | _ => none : Option Nat) with
    | (.inl e, _) :: AS', some kd => (ck_sg e && (decide (0 ≤ e.1) && (decide (e.1 < 60000000) && (decide (1 ≤ bc) && (decide (e.1.toNat ≤ bs) && decide (n + 1 < 100000)))))) && k (bc - 1) (bs - e.1.toNat) (pc + 2) AL ((.inr (.inr (.inl (n + 1))), none) :: ck_sh AS') (n + 1) ((n + 1, kd, e.1.toNat) :: F.1, F.2.1, (n + 1, 0, e.1 - 1, ck_one 0) :: F.2.2)
    | _, _ => false)
noncomputable def ck_h_anewarray (ix : Nat) (O : gm_Or) (lx : Option Nat) (XF : List (Int × Int × ck_I)) (E : List (Nat × List ck_Sum)) (mi d n0 : Nat) (W : List (Nat × Int × Int) × List (Nat × Int)) (outs : List ck_Oc) (bc bs pc : Nat) (AL : ck_AL) (AS : ck_AS) (n : Nat) (F : ck_F) (k : Nat → Nat → Nat → ck_AL → ck_AS → Nat → ck_F → Bool) : Bool := (match AS with
    | (.inl e, _) :: AS' => (decide (gm_new (gm_ow mi) ix = some 1) && (ck_sg e && (decide (0 ≤ e.1) && (decide (e.1 < 60000000) && (decide (1 ≤ bc) && (decide (e.1.toNat ≤ bs) && decide (n + 1 < 100000))))))) && k (bc - 1) (bs - e.1.toNat) (pc + 3) AL ((.inr (.inr (.inl (n + 1))), none) :: ck_sh AS') (n + 1) ((n + 1, 3, e.1.toNat) :: F.1, F.2.1, F.2.2)
    | _ => false)
noncomputable def ck_h_ldc (ix : Nat) (O : gm_Or) (lx : Option Nat) (XF : List (Int × Int × ck_I)) (E : List (Nat × List ck_Sum)) (mi d n0 : Nat) (W : List (Nat × Int × Int) × List (Nat × Int)) (outs : List ck_Oc) (bc bs pc : Nat) (AL : ck_AL) (AS : ck_AS) (n : Nat) (F : ck_F) (k : Nat → Nat → Nat → ck_AL → ck_AS → Nat → ck_F → Bool) : Bool := (match gm_ild (gm_ow mi) ix with
    | some q => (q.2 == 0 && ck_cvk (gm_vi q.1)) && k bc bs (pc + 2) AL ((.inl (ck_one q.1), none) :: AS) n F
    | none => (match gm_sld (gm_ow mi) ix with
      | some id => k bc bs (pc + 2) AL ((.inr (.inr (.inr id)), none) :: AS) n F
      | none => false))
noncomputable def ck_h_ldc_w (ix : Nat) (O : gm_Or) (lx : Option Nat) (XF : List (Int × Int × ck_I)) (E : List (Nat × List ck_Sum)) (mi d n0 : Nat) (W : List (Nat × Int × Int) × List (Nat × Int)) (outs : List ck_Oc) (bc bs pc : Nat) (AL : ck_AL) (AS : ck_AS) (n : Nat) (F : ck_F) (k : Nat → Nat → Nat → ck_AL → ck_AS → Nat → ck_F → Bool) : Bool := (match gm_ild (gm_ow mi) ix with
    | some q => (q.2 == 0 && ck_cvk (gm_vi q.1)) && k bc bs (pc + 3) AL ((.inl (ck_one q.1), none) :: AS) n F
    | none => (match gm_sld (gm_ow mi) ix with
      | some id => k bc bs (pc + 3) AL ((.inr (.inr (.inr id)), none) :: AS) n F
      | none => false))
noncomputable def ck_h_ldc2_w (ix : Nat) (O : gm_Or) (lx : Option Nat) (XF : List (Int × Int × ck_I)) (E : List (Nat × List ck_Sum)) (mi d n0 : Nat) (W : List (Nat × Int × Int) × List (Nat × Int)) (outs : List ck_Oc) (bc bs pc : Nat) (AL : ck_AL) (AS : ck_AS) (n : Nat) (F : ck_F) (k : Nat → Nat → Nat → ck_AL → ck_AS → Nat → ck_F → Bool) : Bool := (match gm_ild (gm_ow mi) ix with
    | some q => (q.2 == 1 && ck_cvk (gm_vl q.1)) && k bc bs (pc + 3) AL ((.inr (.inl (ck_one q.1)), none) :: AS) n F
    | none => false)
noncomputable def ck_h_invokestatic (ix : Nat) (O : gm_Or) (lx : Option Nat) (XF : List (Int × Int × ck_I)) (E : List (Nat × List ck_Sum)) (mi d n0 : Nat) (W : List (Nat × Int × Int) × List (Nat × Int)) (outs : List ck_Oc) (bc bs pc : Nat) (AL : ck_AL) (AS : ck_AS) (n : Nat) (F : ck_F) (k : Nat → Nat → Nat → ck_AL → ck_AS → Nat → ck_F → Bool) : Bool := (match gm_cal (gm_ow mi) ix with
    | some q => if q.1 = 5 then ((gm_hh mi).isEmpty && (!(gm_hh q.2).isEmpty && (decide (gm_ow q.2 ≠ gm_mxi) && (decide ((AS.take (gm_na q.2)).length = gm_na q.2) && (ck_n1 (AS.take (gm_na q.2)) && (decide (gm_na q.2 ≤ gm_ml q.2) && ck_sum8 (AS.drop (gm_na q.2)))))))) && ck_call O E d n0 W bc bs n q.2 F ((AS.take (gm_na q.2)).reverse.map Prod.fst) (fun bc bs how n F => match how with
          | .inl x => ck_thr O outs mi pc x n F (fun h => k bc bs h AL [(.inr (.inr (.inr 4000)), none)] n F)
          | .inr u => k bc bs (pc + 3) AL (ck_psh u (AS.drop (gm_na q.2))) n F) else (q.1 == 2 && decide (1 ≤ d)) && (if q.2 = gm_jmax then (match AS with
        | (.inl b, _) :: (.inl a, _) :: AS' => ck_sum8 AS' && k bc bs (pc + 3) AL ((.inl (if a.1 ≤ b.1 then b.1 else a.1, if a.2.1 ≤ b.2.1 then b.2.1 else a.2.1, []), none) :: AS') n F
        | _ => false) else if q.2 = gm_jmin then (match AS with
        | (.inl b, _) :: (.inl a, _) :: AS' => ck_sum8 AS' && k bc bs (pc + 3) AL ((.inl (if a.1 ≤ b.1 then a.1 else b.1, if a.2.1 ≤ b.2.1 then a.2.1 else b.2.1, []), none) :: AS') n F
        | _ => false) else ((gm_hh mi).isEmpty && (decide (gm_ow q.2 ≠ gm_mxi) && (decide ((AS.take (gm_na q.2)).length = gm_na q.2) && (ck_n1 (AS.take (gm_na q.2)) && (decide (gm_na q.2 ≤ gm_ml q.2) && ck_sum8 (AS.drop (gm_na q.2))))))) && ck_call O E d n0 W bc bs n q.2 F ((AS.take (gm_na q.2)).reverse.map Prod.fst) (fun bc bs how n F => match how with
          | .inl x => ck_thr O outs mi pc x n F (fun h => k bc bs h AL [(.inr (.inr (.inr 4000)), none)] n F)
          | .inr u => k bc bs (pc + 3) AL (ck_psh u (AS.drop (gm_na q.2))) n F))
    | none => gm_ac (gm_ow mi) ix && (match AS with
      | (.inl m, _) :: (.inl dp, _) :: (.inr (.inr (.inl k2)), _) :: (.inl sp, _) :: (.inr (.inr (.inl k1)), _) :: AS' => (match ck_kd O F k1, ck_kd O F k2 with
        | some q1, some q2 => (q1.1 == 0 && (q2.1 == 0 && (decide (0 ≤ sp.1) && (decide (0 ≤ dp.1) && (decide (0 ≤ m.1) && (decide (sp.2.1 + m.2.1 ≤ (q1.2 : Int)) && (decide (dp.2.1 + m.2.1 ≤ (q2.2 : Int)) && (ck_okW W.1 n0 k2 dp.1 (dp.2.1 + m.2.1 - 1) && (ck_sum8 AS' && (decide (1 ≤ d) && (match ck_rd O F k1 sp.1 (sp.2.1 + m.2.1 - 1) with | some a => gm_tyw O k2 dp.1 (dp.2.1 + m.2.1 - 1) a.1 a.2.1 | none => ((O.2.2.ty k2).isEmpty && (O.2.2.fp k2).isEmpty)))))))))))) && k bc bs (pc + 3) AL (ck_sh AS') n (F.1, F.2.1, ck_cws [(k2, dp.1, dp.2.1 + m.2.1 - 1)] F.2.2)
        | _, _ => false)
      | _ => false))
noncomputable def ck_h_invokevirtual (ix : Nat) (O : gm_Or) (lx : Option Nat) (XF : List (Int × Int × ck_I)) (E : List (Nat × List ck_Sum)) (mi d n0 : Nat) (W : List (Nat × Int × Int) × List (Nat × Int)) (outs : List ck_Oc) (bc bs pc : Nat) (AL : ck_AL) (AS : ck_AS) (n : Nat) (F : ck_F) (k : Nat → Nat → Nat → ck_AL → ck_AS → Nat → ck_F → Bool) : Bool := (match gm_cal (gm_ow mi) ix with
    | some q => if q.2 = 82 then (match AS with
        | (.inr (.inr (.inr id)), _) :: AS' => (q.1 == 0 && ((gm_hh mi).isEmpty && (decide (id < gm_sl.length) && (ck_sum8 AS' && decide (2 ≤ d))))) && k bc bs (pc + 3) AL ((.inl (ck_one (gm_slen id)), none) :: AS') n F
        | _ => false) else if q.2 = 84 then (match AS with
        | (.inl e, _) :: (.inr (.inr (.inr id)), _) :: AS' => (q.1 == 0 && ((gm_hh mi).isEmpty && (decide (id < gm_sl.length) && (ck_sum8 AS' && (decide (4 ≤ d) && (decide (0 ≤ e.1) && decide (e.2.1 < (gm_slen id : Int)))))))) && k bc bs (pc + 3) AL ((.inl (0, 127, []), none) :: AS') n F
        | _ => false) else (q.1 == 0 && (decide (gm_ow q.2 ≠ gm_mxi) && (decide (gm_cio q.2 < 12) && (decide ((AS.take (gm_na q.2)).length = gm_na q.2) && (ck_n1 (AS.take (gm_na q.2)) && decide (gm_na q.2 + 1 ≤ gm_ml q.2)))))) && (match AS.drop (gm_na q.2) with
      | (.inr (.inr (.inl r)), _) :: AS' => (ck_sum8 AS' && (match ck_kd O F r with
          | some p => p.1 == gm_cio q.2 + 4
          | none => false)) && ck_call O E d n0 W bc bs n q.2 F ((.inr (.inr (.inl r))) :: (AS.take (gm_na q.2)).reverse.map Prod.fst) (fun bc bs how n F => match how with
          | .inl x => ck_thr O outs mi pc x n F (fun h => k bc bs h AL [(.inr (.inr (.inr 4000)), none)] n F)
          | .inr u => k bc bs (pc + 3) AL (ck_psh u AS') n F)
      | _ => false)
    | none => (match gm_una (gm_ow mi) ix with
      | some na => (match AS.drop na with
        | (.inr (.inr (.inl r)), _) :: AS' => (match ck_kd O F r with
          | some p => (match gm_up (gm_ow mi) ix (p.1 - 4) with
            | some mj => ((gm_hh mi).isEmpty && (decide (4 ≤ p.1) && (decide ((AS.take na).length = na) && (decide (gm_na mj = na) && (ck_n1 (AS.take na) && (decide (na + 1 ≤ gm_ml mj) && ck_sum8 AS')))))) && ck_call O E d n0 W bc bs n mj F ((.inr (.inr (.inl r))) :: (AS.take na).reverse.map Prod.fst) (fun bc bs how n F => match how with
              | .inl x => ck_thr O outs mi pc x n F (fun h => k bc bs h AL [(.inr (.inr (.inr 4000)), none)] n F)
              | .inr u => k bc bs (pc + 3) AL (ck_psh u AS') n F)
            | none => false)
          | none => false)
        | _ => false)
      | none => false))
noncomputable def ck_h_invokespecial (ix : Nat) (O : gm_Or) (lx : Option Nat) (XF : List (Int × Int × ck_I)) (E : List (Nat × List ck_Sum)) (mi d n0 : Nat) (W : List (Nat × Int × Int) × List (Nat × Int)) (outs : List ck_Oc) (bc bs pc : Nat) (AL : ck_AL) (AS : ck_AS) (n : Nat) (F : ck_F) (k : Nat → Nat → Nat → ck_AL → ck_AS → Nat → ck_F → Bool) : Bool := if gm_oi (gm_ow mi) ix = true then (match AS with
      | (.inr (.inr (.inl r)), _) :: AS' => (ck_sum8 AS' && (decide (1 ≤ d) && (decide (1 ≤ r) && decide (r ≤ n)))) && k bc bs (pc + 3) AL AS' n F
      | _ => false) else (match gm_cal (gm_ow mi) ix with
    | some q => ((gm_hh mi).isEmpty && ((q.1 == 1 || q.1 == 3) && (decide (gm_ow q.2 ≠ gm_mxi) && (decide ((AS.take (gm_na q.2)).length = gm_na q.2) && (ck_n1 (AS.take (gm_na q.2)) && decide (gm_na q.2 + 1 ≤ gm_ml q.2)))))) && (match AS.drop (gm_na q.2) with
      | (.inr (.inr (.inl r)), _) :: AS' => (ck_sum8 AS' && (decide (1 ≤ r) && decide (r ≤ n))) && ck_call O E d n0 W bc bs n q.2 F ((.inr (.inr (.inl r))) :: (AS.take (gm_na q.2)).reverse.map Prod.fst) (fun bc bs how n F => match how with
          | .inl x => ck_thr O outs mi pc x n F (fun h => k bc bs h AL [(.inr (.inr (.inr 4000)), none)] n F)
          | .inr u => k bc bs (pc + 3) AL (ck_psh u AS') n F)
      | _ => false)
    | none => false)
noncomputable def ck_h_ireturn  (O : gm_Or) (lx : Option Nat) (XF : List (Int × Int × ck_I)) (E : List (Nat × List ck_Sum)) (mi d n0 : Nat) (W : List (Nat × Int × Int) × List (Nat × Int)) (outs : List ck_Oc) (bc bs pc : Nat) (AL : ck_AL) (AS : ck_AS) (n : Nat) (F : ck_F) (k : Nat → Nat → Nat → ck_AL → ck_AS → Nat → ck_F → Bool) : Bool := (match AS with
    | (.inl a, s) :: [] => (match gm_rt mi with
      | some .int => cond (ck_sgn a s) (ck_br .lt a s (ck_one 0) none AL F (fun _ F => ck_end O outs (.inr (some (.inl (ck_rf .lt a (ck_one 0))))) n F) && ck_br .ge a s (ck_one 0) none AL F (fun _ F => ck_end O outs (.inr (some (.inl (ck_rf .ge a (ck_one 0))))) n F)) (ck_end O outs (.inr (some (.inl a))) n F)
      | some .boolean => (decide (0 ≤ a.1) && decide (a.2.1 ≤ 1)) && ck_end O outs (.inr (some (.inl a))) n F
      | _ => false)
    | _ => false)
noncomputable def ck_h_return  (O : gm_Or) (lx : Option Nat) (XF : List (Int × Int × ck_I)) (E : List (Nat × List ck_Sum)) (mi d n0 : Nat) (W : List (Nat × Int × Int) × List (Nat × Int)) (outs : List ck_Oc) (bc bs pc : Nat) (AL : ck_AL) (AS : ck_AS) (n : Nat) (F : ck_F) (k : Nat → Nat → Nat → ck_AL → ck_AS → Nat → ck_F → Bool) : Bool := (match AS with
    | [] => (gm_rt mi).isNone && ck_end O outs (.inr none) n F
    | _ => false)
noncomputable def ck_h_areturn  (O : gm_Or) (lx : Option Nat) (XF : List (Int × Int × ck_I)) (E : List (Nat × List ck_Sum)) (mi d n0 : Nat) (W : List (Nat × Int × Int) × List (Nat × Int)) (outs : List ck_Oc) (bc bs pc : Nat) (AL : ck_AL) (AS : ck_AS) (n : Nat) (F : ck_F) (k : Nat → Nat → Nat → ck_AL → ck_AS → Nat → ck_F → Bool) : Bool := (match AS with
    | (.inr (.inr (.inl r)), _) :: [] => (match gm_rt mi with
      | some (.object _) => ck_end O outs (.inr (some (.inr (.inr (.inl r))))) n F
      | some (.array _) => ck_end O outs (.inr (some (.inr (.inr (.inl r))))) n F
      | _ => false)
    | _ => false)
noncomputable def ck_g_iadd : ck_I → ck_I → ck_I := fun a b => (a.1 + b.1, a.2.1 + b.2.1, if ck_sg b = true then ck_mv a.2.2 b.1 else if ck_sg a = true then ck_mv b.2.2 a.1 else [])
noncomputable def ck_o_iadd : Int → Int → Int := fun x y => x + y
noncomputable def ck_g_isub : ck_I → ck_I → ck_I := fun a b => (a.1 - b.2.1, a.2.1 - b.1, if ck_sg b = true then ck_mv a.2.2 (- b.1) else [])
noncomputable def ck_o_isub : Int → Int → Int := fun x y => x - y
noncomputable def ck_g_imul : ck_I → ck_I → ck_I := fun a b => if 0 ≤ a.1 ∧ 0 ≤ b.1 then (a.1 * b.1, a.2.1 * b.2.1, []) else ck_top
noncomputable def ck_o_imul : Int → Int → Int := fun x y => x * y
noncomputable def ck_g_iand : ck_I → ck_I → ck_I := fun a b => if 0 ≤ b.1 then (0, b.2.1, []) else if 0 ≤ a.1 then (0, a.2.1, []) else ck_top
noncomputable def ck_o_iand : Int → Int → Int := gm_and
noncomputable def ck_g_ior : ck_I → ck_I → ck_I := fun _ _ => ck_top
noncomputable def ck_o_ior : Int → Int → Int := gm_or
noncomputable def ck_g_ixor : ck_I → ck_I → ck_I := fun _ _ => ck_top
noncomputable def ck_o_ixor : Int → Int → Int := gm_xor
noncomputable def ck_g_ishl : ck_I → ck_I → ck_I := fun _ _ => ck_top
noncomputable def ck_o_ishl : Int → Int → Int := gm_shl
noncomputable def ck_g_ishr : ck_I → ck_I → ck_I := fun _ _ => ck_top
noncomputable def ck_o_ishr : Int → Int → Int := gm_shr
noncomputable def ck_g_iushr : ck_I → ck_I → ck_I := fun _ _ => ck_top
noncomputable def ck_o_iushr : Int → Int → Int := gm_ushr
noncomputable def ck_h_imul (O : gm_Or) (lx : Option Nat) (XF : List (Int × Int × ck_I)) (E : List (Nat × List ck_Sum)) (mi d n0 : Nat) (W : List (Nat × Int × Int) × List (Nat × Int)) (outs : List ck_Oc) (bc bs pc : Nat) (AL : ck_AL) (AS : ck_AS) (n : Nat) (F : ck_F) (k : Nat → Nat → Nat → ck_AL → ck_AS → Nat → ck_F → Bool) : Bool := match AS with
    | (.inl b, _) :: (.inl a, _) :: AS' => cond (ck_fk .imul a b) ((List.range (a.2.1 + 1 - a.1).toNat).all fun (q : Nat) => k bc bs (pc + 1) (ck_qL (a.1 + (q : Int), a.1 + (q : Int), []) a AL) ((.inl (ck_one (gm_w (ck_o_imul (a.1 + (q : Int)) b.1))), none) :: AS') n (ck_qF (a.1 + (q : Int), a.1 + (q : Int), []) a F)) (cond (ck_fk .imul b a) ((List.range (b.2.1 + 1 - b.1).toNat).all fun (q : Nat) => k bc bs (pc + 1) (ck_qL (b.1 + (q : Int), b.1 + (q : Int), []) b AL) ((.inl (ck_one (gm_w (ck_o_imul a.1 (b.1 + (q : Int))))), none) :: AS') n (ck_qF (b.1 + (q : Int), b.1 + (q : Int), []) b F)) (k bc bs (pc + 1) AL ((.inl (ck_b2 ck_g_imul ck_o_imul a b), ck_lks O none) :: AS') n F))
    | _ => false
noncomputable def ck_d : Instr → ck_Fn
  | .iconst z => ck_hc 1 (gm_vi z)
  | .bipush z => ck_hc 2 (gm_vi (gm_wb z))
  | .sipush z => ck_hc 3 (gm_vi (gm_ws z))
  | .lconst z => ck_hc 1 (gm_vl (z : Nat))
  | .aconst_null => ck_hc 1 (gm_vr 0)
  | .iload j => ck_hl 2 0 j
  | .iload_n j => ck_hl 1 0 j
  | .istore j => ck_hs 2 0 j
  | .istore_n j => ck_hs 1 0 j
  | .lload j => ck_hl 2 1 j
  | .lload_n j => ck_hl 1 1 j
  | .lstore j => ck_hs 2 1 j
  | .lstore_n j => ck_hs 1 1 j
  | .aload j => ck_hl 2 2 j
  | .aload_n j => ck_hl 1 2 j
  | .astore j => ck_hs 2 2 j
  | .astore_n j => ck_hs 1 2 j
  | .iadd => ck_hb (ck_sb .iadd) ck_g_iadd ck_o_iadd
  | .isub => ck_hb (ck_sb .isub) ck_g_isub ck_o_isub
  | .imul => ck_h_imul
  | .iand => ck_hb (ck_sb .iand) ck_g_iand ck_o_iand
  | .ior => ck_hb (ck_sb .ior) ck_g_ior ck_o_ior
  | .ixor => ck_hb (ck_sb .ixor) ck_g_ixor ck_o_ixor
  | .ishl => ck_hb (ck_sb .ishl) ck_g_ishl ck_o_ishl
  | .ishr => ck_hb (ck_sb .ishr) ck_g_ishr ck_o_ishr
  | .iushr => ck_hb (ck_sb .iushr) ck_g_iushr ck_o_iushr
  | .land => ck_hlb
  | .lor => ck_hlb
  | .lxor => ck_hlb
  | .lshl => ck_hls
  | .lushr => ck_hls
  | .ineg => ck_h_ineg
  | .i2b => ck_h_i2b
  | .i2l => ck_h_i2l
  | .l2i => ck_h_l2i
  | .lcmp => ck_h_lcmp
  | .idiv => ck_h_idiv
  | .irem => ck_h_irem
  | .dup => ck_h_dup
  | .pop => ck_h_pop
  | .dup2 => ck_h_dup2
  | .iinc j z => ck_h_iinc j z
  | .goto off => ck_h_goto off
  | .ifCond c off => ck_h_ifCond c off
  | .if_icmp c off => ck_h_if_icmp c off
  | .ifnull off => ck_h_ifnull off
  | .ifnonnull off => ck_h_ifnonnull off
  | .tableswitch df lo hi offs => ck_h_tableswitch df lo hi offs
  | .getfield ix => ck_h_getfield ix
  | .putfield ix => ck_h_putfield ix
  | .iaload => ck_h_iaload
  | .baload => ck_h_baload
  | .laload => ck_h_laload
  | .aaload => ck_h_aaload
  | .iastore => ck_h_iastore
  | .bastore => ck_h_bastore
  | .lastore => ck_h_lastore
  | .aastore => ck_h_aastore
  | .arraylength => ck_h_arraylength
  | .new ix => ck_h_new ix
  | .newarray at0 => ck_h_newarray at0
  | .anewarray ix => ck_h_anewarray ix
  | .ldc ix => ck_h_ldc ix
  | .ldc_w ix => ck_h_ldc_w ix
  | .ldc2_w ix => ck_h_ldc2_w ix
  | .invokestatic ix => ck_h_invokestatic ix
  | .invokevirtual ix => ck_h_invokevirtual ix
  | .invokespecial ix => ck_h_invokespecial ix
  | .ireturn => ck_h_ireturn
  | .return_ => ck_h_return
  | .areturn => ck_h_areturn
  | _ => fun _ _ _ _ _ _ _ _ _ _ _ _ _ _ _ _ _ => false
theorem ck_d_eq {i : Instr} (O : gm_Or) (lx : Option Nat) (XF : List (Int × Int × ck_I)) (E : List (Nat × List ck_Sum)) (mi d n0 : Nat) (W : List (Nat × Int × Int) × List (Nat × Int)) (outs : List ck_Oc) (bc bs pc : Nat) (AL : ck_AL) (AS : ck_AS) (n : Nat) (F : ck_F) (k : Nat → Nat → Nat → ck_AL → ck_AS → Nat → ck_F → Bool) : ck_d i O lx XF E mi d n0 W outs bc bs pc AL AS n F k = ck_i O lx XF E mi d n0 W outs bc bs pc AL AS n F k i := by
  cases i <;> rfl
/-- the int that a cut counts by: its bounds and name now -/
noncomputable def ck_loc (O : gm_Or) (c : Nat ⊕ (Nat × Int)) (AL : ck_AL) (F : ck_F) : Option ck_I := match c with
  | .inl j => (match AL[j]? with
    | some (some (.inl a)) => some a
    | _ => none)
  | .inr q => ck_rd O F q.1 q.2 q.2
/-- at the cut: what is known, the counter with its name -/
noncomputable def ck_bL (c : Nat ⊕ (Nat × Int)) (s : Nat) (a : ck_I) (AL : ck_AL) : ck_AL := match c with
  | .inl j => AL.set j (some (.inl (a.1, a.2.1, (s, 0) :: a.2.2)))
  | .inr _ => AL
noncomputable def ck_bF (c : Nat ⊕ (Nat × Int)) (s : Nat) (a : ck_I) (F : ck_F) : ck_F := match c with
  | .inl _ => F
  | .inr q => (F.1, F.2.1, (q.1, q.2, q.2, (a.1, a.2.1, (s, 0) :: a.2.2)) :: F.2.2)
/-- a stretch of code -/
noncomputable def ck_go (O : gm_Or) (lx : Option Nat) (XF : List (Int × Int × ck_I)) (E : List (Nat × List ck_Sum)) (mi d n0 : Nat) (W : List (Nat × Int × Int) × List (Nat × Int)) (outs : List ck_Oc) (cuts : List (Nat × ck_C)) : Nat → Bool → List ck_H → Nat → Nat → Nat → ck_AL → ck_AS → Nat → ck_F → Bool
  | 0, _, _, _, _, _, _, _, _, _ => false
  | f + 1, fst, ch, bc, bs, pc, AL, AS, n, F => match (if fst = true then none else cuts.find? fun q => q.1 == pc && (ck_leL AL q.2.1 && ck_leF O F q.2.2.1)) with
    | some (_, c) => AS.isEmpty && (match ck_loc O c.2.2.2.1 AL F, ck_loc O c.2.2.2.1 c.1 c.2.1 with
      | some a, some a0 => (match ch.find? fun h => h.1 == pc && h.2.1.2.2.1 == c.2.2.1 with
        | some h => (h.2.2.2.2 == n && (decide (h.2.2.1 ≤ bc) && decide (h.2.2.2.1 ≤ bs))) && ((c.2.2.1 == 0 || decide (2000000 ≤ c.2.2.1)) || (a.2.2.any fun q => (q.1 == c.2.2.1 && (decide (c.2.2.1 < 1000000) && (if c.2.2.2.2 = true then decide (0 < q.2) else decide (q.2 < 0)))) || (q.1 == c.2.2.1 + 1000000 && (decide (c.2.2.1 < 1000000) && (c.2.2.2.2 && decide (0 < q.2))))))
        | none => (decide (100 ≤ c.2.2.1 ∧ c.2.2.1 < 1000000) && ((ch.all fun h => !(h.2.1.2.2.1 == c.2.2.1) && (ck_nL c.2.2.1 h.2.1.1 && ck_nF c.2.2.1 h.2.1.2.1)) && (ck_nL c.2.2.1 c.1 && ck_nF c.2.2.1 c.2.1))) && ck_go O lx XF E mi d n0 W outs cuts f true ((pc, c, bc, bs, n) :: ch) bc bs pc (ck_bL c.2.2.2.1 c.2.2.1 a0 c.1) [] n (ck_bF c.2.2.2.1 c.2.2.1 a0 c.2.1))
      | _, _ => false)
    | none => match gm_at mi pc with
      | some i => ck_d i O lx XF E mi d n0 W outs bc bs pc AL AS n F (fun bc bs pc AL AS n F => ck_go O lx XF E mi d n0 W outs cuts f false ch bc bs pc AL AS n F)
      | none => false
/-- cuts at one place have names of their own -/
noncomputable def ck_cu (cuts : List (Nat × ck_C)) : Bool := cuts.all fun q => decide ((cuts.filter fun p => p.1 == q.1 && p.2.2.2.1 == q.2.2.2.1).length ≤ 1)
/-- a method -/
noncomputable def ck_ok (O : gm_Or) (lx : Option Nat) (XF : List (Int × Int × ck_I)) (E : List (Nat × List ck_Sum)) (mi : Nat) (cuts : List (Nat × ck_C)) (f : Nat) (S : ck_Sum) : Bool :=
  (decide (S.2.2.1.length ≤ gm_ml mi) && ck_cu cuts) && (ck_go O lx XF E mi S.1.1 S.2.1 S.2.2.2.2.1 S.2.2.2.2.2 cuts f false [] S.1.2.1 S.1.2.2 0 (S.2.2.1.map some ++ List.replicate (gm_ml mi - S.2.2.1.length) none) [] S.2.1 S.2.2.2.1)
end
