/-! STEPS that read and write cells. -/
theorem gm_lookup2 {α : Type} (l : List ((Nat × Nat) × α)) (k : Nat × Nat) (v : α) (h : l.lookup k = some v) : (k, v) ∈ l := by
  induction l with
  | nil => simp at h
  | cons q l ih =>
    obtain ⟨a, b⟩ := q
    rw [List.lookup_cons] at h
    by_cases hk : k = a
    · subst hk; simp at h; subst h; exact List.mem_cons_self
    · have hk2 : (k == a) = false := by simpa using hk
      rw [hk2] at h
      exact List.mem_cons_of_mem _ (ih h)
theorem gm_fld_spec {o ix ci j : Nat} (h : gm_fld o ix ci = some j) : ∃ C T N ref, gm_cs[ci]? = some (C, T, N) ∧ j < N ∧ N = gm_nf ci ∧ T = gm_Tf ci ∧ Jvm.Cond.fieldLink (gm_rn o) ix ref (T j).2.1 (T j).2.2.1 ∈ gm_T ∧ (ref = (T j).1 ∨ Jvm.Cond.sameField ref (T j).1 (T j).2.1 (T j).2.2.1 ∈ gm_T) := by
  have h := gm_fld_le h
  unfold gm_fld0 at h
  cases hr : gm_fo[o]? with
  | none => rw [hr] at h; simp at h
  | some r =>
    rw [hr] at h
    have h2 := gm_lookup2 _ _ _ h
    have hlt := (List.getElem?_eq_some_iff.mp hr).1
    have h3 := List.all_eq_true.mp gm_fo_ok o (List.mem_range.mpr hlt)
    rw [hr] at h3
    have h4 := List.all_eq_true.mp h3 _ h2
    obtain ⟨q, hq, hq2⟩ := List.any_eq_true.mp h4
    have h5 := List.all_eq_true.mp gm_fl_ok q hq
    obtain ⟨a1, a2, a3, a4, a5, a6, a7⟩ := q
    simp only [decide_eq_true_eq, Prod.mk.injEq] at hq2
    obtain ⟨rfl, rfl, rfl, rfl⟩ := hq2
    simp only [gm_fck, Bool.and_eq_true, Bool.or_eq_true, decide_eq_true_eq] at h5
    obtain ⟨⟨b1, b2⟩, b3⟩ := h5
    have hci : a3 < 12 := by
      rcases Nat.lt_or_ge a3 12 with q | q
      · exact q
      · exfalso
        have : gm_nf a3 = 0 := by
          unfold gm_nf
          rw [List.getElem?_eq_none (by simpa using q)]; rfl
        omega
    obtain ⟨⟨C, T, N⟩, hc⟩ : ∃ q, gm_cs[a3]? = some q := ⟨_, List.getElem?_eq_getElem (by simpa [gm_cs] using hci)⟩
    obtain ⟨-, e1, e2, -⟩ := gm_cs_ok a3 C T N hc
    subst e2
    refine ⟨C, _, N, a5, hc, by omega, e1, rfl, gm_T_in b2 rfl, ?_⟩
    rcases b3 with b3 | b3
    · exact Or.inl b3
    · exact Or.inr (gm_T_in b3 rfl)
theorem gm_fs_at {α : Nat → Nat} {R : gm_R} {M : gm_M} {k c j : Nat} (hj : j < gm_nf c) : (gm_fs α R M k c)[j]? = some (if gm_isr c j = true then gm_rf α (R k j) else .int (Int32.ofInt (M k j))) := by
  unfold gm_fs
  rw [List.getElem?_map, List.getElem?_range hj]; rfl
theorem gm_fs_len {α : Nat → Nat} {R : gm_R} {M : gm_M} {k c : Nat} : (gm_fs α R M k c).length = gm_nf c := by simp [gm_fs]
theorem gm_en_obj {ti : Nat → ClassId} {α : Nat → Nat} {K : gm_K} {R : gm_R} {M : gm_M} {k ci : Nat} (h : (K k).1 = ci + 4) : gm_en ti α K R M k = .inr (ci, gm_fs α R M k ci) := by unfold gm_en; rw [h]
theorem gm_hs {s : State} {args : Array Value} {ref d n t : String} (hts : ∀ w ∈ gm_T, w.before args s = true) (h : ref = d ∨ Jvm.Cond.sameField ref d n t ∈ gm_T) : ∀ x, s.fieldFound? d n t = some x → s.fieldFound? ref n t = some x := by
  rcases h with rfl | h
  · exact fun _ q => q
  · exact fun x q => u_same (hts _ h) x q
section GH
variable {X : Int → Int} {LX d bc bs mi pc : Nat} {L : gm_L} {st : List gm_V} {n : Nat} {K : gm_K} {R : gm_R} {M : gm_M} {Q : gm_Q}
theorem gm_p_get {ix k ci j : Nat} (h : gm_at mi pc = some (.getfield ix)) (hk : 1 ≤ k ∧ k ≤ n) (hK : (K k).1 = ci + 4) (hf : gm_fld (gm_ow mi) ix ci = some j) : gm_Sp X LX d mi pc L (gm_vr k :: st) n K R M (pc + 3) L ((if gm_isr ci j = true then gm_vr (R k j) else gm_vi (M k j)) :: st) n K R M 0 0 := by
  intro p l e Rm s m args below meth c D ti adK adV A hcx hev hd hd2 hA α H locs cells slots ls sv Q' hc1 hc2 hR hL hS k2
  obtain ⟨w1, sv, rfl, ⟨rfl, -⟩, hS⟩ := hS
  have hdg := gm_dec hcx h rfl
  obtain ⟨hx, hb, -, hown, -, -, hts, -⟩ := id hcx
  obtain ⟨hKn, hP, hD, hSv, hRv⟩ := id hR
  obtain ⟨C, T, N, ref, q1, q2, q3, q4, q5, q6⟩ := gm_fld_spec hf
  have he := gm_wl_at (ti := ti) (α := α) (K := K) (R := R) (M := M) hk.1 hk.2
  rw [gm_en_obj hK] at he
  have hv := gm_fs_at (α := α) (R := R) (M := M) (k := k) (c := ci) (j := j) (by omega)
  rw [gm_rf_pos hk.1 (Nat.lt_of_le_of_lt hk.2 hRv.1)]
  refine va_get hx hb hts (gm_cs_ok _ _ _ _ q1).1 hown hKn hP (k - 1) he q1 j q2 (hts _ q5) (gm_hs hts q6) hv hdg ?_
  refine k2 α H locs ls _ gm_xt.rf hR hL ⟨_, _, rfl, ?_, hS⟩
  split
  · exact ⟨rfl, hRv.2 _ _⟩
  · rfl
/-- may the field be written here: it isn't final, or this is the constructor of the class that declares it -/
noncomputable def gm_may (mi ci j : Nat) : Bool := !(gm_fin ci j) || (gm_ini mi && gm_dcl ci j == gm_ow mi)
theorem gm_fs_setM {α : Nat → Nat} {R : gm_R} {M : gm_M} {k c j : Nat} {x : Int} (hj : j < gm_nf c) (hr : gm_isr c j = false) : (gm_fs α R M k c).set j (.int (Int32.ofInt x)) = gm_fs α R (gm_uM M k j x) k c := by
  apply List.ext_getElem?
  intro i
  by_cases hi : i < gm_nf c
  · rw [List.getElem?_set, gm_fs_at hi, gm_fs_at hi]
    by_cases hij : j = i
    · subst hij
      simp [gm_fs_len, hi, hr, gm_uM]
    · have : ¬ ((i : Int) = j) := by omega
      simp [hij, gm_uM, this]
  · rw [List.getElem?_eq_none (by rw [List.length_set, gm_fs_len]; omega), List.getElem?_eq_none (by rw [gm_fs_len]; omega)]
theorem gm_fs_setR {α : Nat → Nat} {R : gm_R} {M : gm_M} {k c j r : Nat} (hj : j < gm_nf c) (hr : gm_isr c j = true) : (gm_fs α R M k c).set j (gm_rf α r) = gm_fs α (gm_uR R k j r) M k c := by
  apply List.ext_getElem?
  intro i
  by_cases hi : i < gm_nf c
  · rw [List.getElem?_set, gm_fs_at hi, gm_fs_at hi]
    by_cases hij : j = i
    · subst hij
      simp [gm_fs_len, hi, hr, gm_uR]
    · have : ¬ ((i : Int) = j) := by omega
      simp [hij, gm_uR, this]
  · rw [List.getElem?_eq_none (by rw [List.length_set, gm_fs_len]; omega), List.getElem?_eq_none (by rw [gm_fs_len]; omega)]
theorem gm_en_uM {ti : Nat → ClassId} {α : Nat → Nat} {K : gm_K} {R : gm_R} {M : gm_M} {k k' : Nat} {j x : Int} (h : k' ≠ k) : gm_en ti α K R (gm_uM M k j x) k' = gm_en ti α K R M k' := by
  have e : (fun b => gm_uM M k j x k' b) = M k' := by funext b; simp [gm_uM, h]
  have e2 : gm_uM M k j x k' = M k' := e
  unfold gm_en gm_fs
  rw [e2]
theorem gm_en_uR {ti : Nat → ClassId} {α : Nat → Nat} {K : gm_K} {R : gm_R} {M : gm_M} {k k' : Nat} {j : Int} {r : Nat} (h : k' ≠ k) : gm_en ti α K (gm_uR R k j r) M k' = gm_en ti α K R M k' := by
  have e2 : gm_uR R k j r k' = R k' := by funext b; simp [gm_uR, h]
  unfold gm_en gm_fs
  rw [e2]
theorem gm_Rv_uR {n k : Nat} {R : gm_R} {j : Int} {r : Nat} (h : gm_Rv n R) (hr : gm_kn n r) : gm_Rv n (gm_uR R k j r) := by
  refine ⟨h.1, fun a b => ?_⟩
  unfold gm_uR
  split
  · exact hr
  · exact h.2 a b
theorem gm_kinds {ci j : Nat} (hci : ci < 12) (hj : j < gm_nf ci) : (gm_fk ci j = 0 ∧ gm_fty ci j = .int ∧ gm_isr ci j = false ∨ gm_fk ci j = 1 ∧ gm_fty ci j = .boolean ∧ gm_isr ci j = false ∨ gm_fk ci j = 2 ∧ ((∃ C, gm_fty ci j = .object C) ∨ ∃ t, gm_fty ci j = .array t) ∧ gm_isr ci j = true) ∧ gm_fin ci j = (gm_Tf ci j).2.2.2 ∧ gm_rn (gm_dcl ci j) = (gm_Tf ci j).1 := by
  have h := gm_fk_ok ci hci j hj
  unfold gm_fkc at h
  simp only [Bool.and_eq_true, decide_eq_true_eq] at h
  obtain ⟨h1, h2, h3, h4⟩ := h
  refine ⟨?_, h3, h4⟩
  split at h1 <;> rename_i e1 e2
  · exact Or.inl ⟨e1, e2, by rw [h2, e1]; rfl⟩
  · exact Or.inr (Or.inl ⟨e1, e2, by rw [h2, e1]; rfl⟩)
  · exact Or.inr (Or.inr ⟨e1, Or.inl ⟨_, e2⟩, by rw [h2, e1]; rfl⟩)
  · exact Or.inr (Or.inr ⟨e1, Or.inr ⟨_, e2⟩, by rw [h2, e1]; rfl⟩)
  · cases h1
/-- writing a field: any value that fits -/
theorem gm_put {ix k ci j : Nat} {w : Value} {R' : gm_R} {M' : gm_M} {v : gm_V} (h : gm_at mi pc = some (.putfield ix)) (hk : 1 ≤ k ∧ k ≤ n) (hK : (K k).1 = ci + 4) (hf : gm_fld (gm_ow mi) ix ci = some j) (hm : gm_may mi ci j = true)
    (hfit : ∀ (α adK : Nat → Nat) (w : Value), gm_cv α adK n v w → narrow (gm_fty ci j) w = w ∧ fits (gm_fty ci j) w = true ∧ (gm_fs α R M k ci).set j w = gm_fs α R' M' k ci) (hne : ∀ (ti : Nat → ClassId) (α : Nat → Nat) (k' : Nat), k' ≠ k → gm_en ti α K R' M' k' = gm_en ti α K R M k') (hRv' : gm_Rv n R → ∀ (α adK : Nat → Nat) (w : Value), gm_cv α adK n v w → gm_Rv n R') : gm_Sp X LX d mi pc L (v :: gm_vr k :: st) n K R M (pc + 3) L st n K R' M' 0 0 := by
  intro p l e Rm s m args below meth c D ti adK adV A hcx hev hd hd2 hA α H locs cells slots ls sv Q' hc1 hc2 hR hL hS k2
  obtain ⟨w, sv, rfl, hw, hS⟩ := hS
  obtain ⟨w1, sv, rfl, ⟨rfl, -⟩, hS⟩ := hS
  have hdg := gm_dec hcx h rfl
  obtain ⟨hx, hb, -, hown, -, -, hts, hnm, -, hm3, -⟩ := id hcx
  obtain ⟨hKn, hP, hD, hSv, hRv⟩ := id hR
  obtain ⟨C, T, N, ref, q1, q2, q3, q4, q5, q6⟩ := gm_fld_spec hf
  obtain ⟨c1, -, -, c4, c5, ty, c6, c7⟩ := gm_cs_ok _ _ _ _ q1
  have he := gm_wl_at (ti := ti) (α := α) (K := K) (R := R) (M := M) hk.1 hk.2
  rw [gm_en_obj hK] at he
  obtain ⟨f1, f2, f3⟩ := hfit α adK w hw
  have ety : gm_fty ci = ty := by unfold gm_fty; rw [c6]; rfl
  rw [ety] at f1 f2
  obtain ⟨-, g1, g2⟩ := gm_kinds (ci := ci) (j := j) c4 (by omega)
  rw [gm_rf_pos hk.1 (Nat.lt_of_le_of_lt hk.2 hRv.1)]
  have hset : (gm_wl ti α n K R M).set (k - 1) (α k, .inr (ci, (gm_fs α R M k ci).set j w)) = gm_wl ti α n K R' M' := by
    refine gm_wl_set hk.1 hk.2 ?_ (hne ti α)
    rw [gm_en_obj hK, f3]
  have kk : ∀ (H1 : Heap) (locs1 : List Loc), va_P D gm_cs ((gm_wl ti α n K R M).set (k - 1) (α k, .inr (ci, (gm_fs α R M k ci).set j w))) H1 → va_D A ((gm_wl ti α n K R M).set (k - 1) (α k, .inr (ci, (gm_fs α R M k ci).set j w))) → va_S A s.heap H1 locs1 → W p l e Rm s m args below meth c H1 locs1 (cells + 0) (slots + 0) Q' (F0 m (pc + 3) ls sv) := by
    intro H1 locs1 p1 p2 p3
    rw [hset] at p1 p2
    exact k2 α H1 locs1 ls sv gm_xt.rf ⟨hKn, p1, p2, p3, hRv' hRv α adK w hw⟩ hL hS
  have hlen : j < (gm_fs α R M k ci).length := by rw [gm_fs_len]; omega
  by_cases hfin : (T j).2.2.2 = true
  · have hm2 : gm_ini mi = true ∧ gm_dcl ci j = gm_ow mi := by
      unfold gm_may at hm
      rw [g1, ← q4, hfin] at hm
      simpa using hm
    have hin2 : meth.name = "<init>" := by
      rw [hnm]
      have z := List.all_eq_true.mp gm_ini_ok mi (List.mem_range.mpr hm3)
      rw [hm2.1] at z
      simpa using z
    exact va_putF hx hb hts c1 ty c7 c5 hown hKn hP hD hSv (k - 1) he q1 j q2 (hts _ q5) (gm_hs hts q6) hfin hin2 (by rw [← hm2.2, g2, q4]) (c7 j q2) f1 f2 hlen hdg kk
  · exact va_put hx hb hts c1 ty c7 c5 hown hKn hP hD hSv (k - 1) he q1 j q2 (hts _ q5) (gm_hs hts q6) (by simpa using hfin) (c7 j q2) f1 f2 hlen hdg kk
theorem gm_p_puti {ix k ci j : Nat} {x : Int} (h : gm_at mi pc = some (.putfield ix)) (hk : 1 ≤ k ∧ k ≤ n) (hK : (K k).1 = ci + 4) (hf : gm_fld (gm_ow mi) ix ci = some j) (hm : gm_may mi ci j = true) (hfit : gm_fk ci j = 0 ∨ gm_fk ci j = 1 ∧ (x = 0 ∨ x = 1)) : gm_Sp X LX d mi pc L (gm_vi x :: gm_vr k :: st) n K R M (pc + 3) L st n K R (gm_uM M k j x) 0 0 := by
  obtain ⟨C, T, N, ref, q1, q2, q3, q4, q5, q6⟩ := gm_fld_spec hf
  obtain ⟨-, -, -, c4, -⟩ := gm_cs_ok _ _ _ _ q1
  refine gm_put (w := .null) h hk hK hf hm (fun α adK w hw => ?_) (fun ti α k' hk' => gm_en_uM hk') (fun hr _ _ _ _ => hr)
  cases hw
  rcases (gm_kinds (ci := ci) (j := j) c4 (by omega)).1 with ⟨e1, e2, e3⟩ | ⟨e1, e2, e3⟩ | ⟨e1, -, e3⟩
  · rw [e2]; exact ⟨rfl, rfl, gm_fs_setM (by omega) e3⟩
  · rw [e2]
    rcases hfit with hf | ⟨-, hf⟩
    · rw [e1] at hf; cases hf
    · refine ⟨?_, ?_, gm_fs_setM (by omega) e3⟩
      · rcases hf with rfl | rfl <;> rfl
      · rcases hf with rfl | rfl <;> rfl
  · rcases hfit with hf | ⟨hf, -⟩ <;> (rw [e1] at hf; cases hf)
theorem gm_p_putr {ix k ci j r : Nat} (h : gm_at mi pc = some (.putfield ix)) (hk : 1 ≤ k ∧ k ≤ n) (hK : (K k).1 = ci + 4) (hf : gm_fld (gm_ow mi) ix ci = some j) (hm : gm_may mi ci j = true) (hfit : gm_fk ci j = 2) : gm_Sp X LX d mi pc L (gm_vr r :: gm_vr k :: st) n K R M (pc + 3) L st n K (gm_uR R k j r) M 0 0 := by
  obtain ⟨C, T, N, ref, q1, q2, q3, q4, q5, q6⟩ := gm_fld_spec hf
  obtain ⟨-, -, -, c4, -⟩ := gm_cs_ok _ _ _ _ q1
  refine gm_put (w := .null) h hk hK hf hm (fun α adK w hw => ?_) (fun ti α k' hk' => gm_en_uR hk') (fun hr α adK w hw => gm_Rv_uR hr hw.2)
  obtain ⟨rfl, -⟩ := hw
  rcases (gm_kinds (ci := ci) (j := j) c4 (by omega)).1 with ⟨e1, e2, e3⟩ | ⟨e1, e2, e3⟩ | ⟨e1, e2, e3⟩
  · rw [e1] at hfit; cases hfit
  · rw [e1] at hfit; cases hfit
  · refine ⟨?_, ?_, gm_fs_setR (by omega) e3⟩
    · rcases e2 with ⟨C, e2⟩ | ⟨C, e2⟩ <;> (rw [e2]; rcases gm_rf_or α r with e | ⟨a, e⟩ <;> (rw [e]; rfl))
    · rcases e2 with ⟨C, e2⟩ | ⟨C, e2⟩ <;> (rw [e2]; rcases gm_rf_or α r with e | ⟨a, e⟩ <;> (rw [e]; rfl))
end GH
