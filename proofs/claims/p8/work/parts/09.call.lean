/-! CALLS: a method's judgement from its entry is a contract; a caller goes on behind it. -/
theorem gm_owc : (List.range 370).all (fun i => decide (gm_rn (gm_ow i) = (gm_mn i).cls)) = true := by decide +kernel
/-- the number of java/lang/Math in gm_rnl: its methods are the machine's own -/
noncomputable def gm_mxi : Nat := 6
theorem gm_plm : (List.range 370).all (fun i => decide (gm_ow i = gm_mxi) || plainName (gm_mn i).cls) = true := by decide +kernel
theorem gm_Ev_to {X : Int → Int} {LX : Nat} {adK adV : Nat → Nat} {A B : Nat → Prop} {s U : State} (h : gm_Ev X LX adK adV A s) (hW : s.WarmedH U.vm) (hz : s.heap.size ≤ U.heap.size) (hk : ∀ a : Nat, a < s.heap.size → ¬ A a → U.heap[a]? = s.heap[a]?) (hAB : ∀ q, B q → A q) : gm_Ev X LX adK adV B U := by
  obtain ⟨h1, h2, h3, h4, h5, h6, h7, h8, h9, h10, h11, h12, h13⟩ := h
  have hvm := hW.alike
  have hca : ∀ a b : String, va_Nw (.castable a b) s → va_Nw (.castable a b) U := fun a b h => va_tabs (c := .castable a b) rfl (rfl : (s.setVm U.vm).vm = U.vm) (by rw [Cond.castable_setVm hvm]; exact h)
  refine ⟨fun i hi => (((h1 i hi).moved hvm).kept hk).narrow hAB, fun q hq => vk_R.warm hW (h2 q hq), ((h3.moved hvm).kept hk).narrow hAB, ((h4.moved hvm).kept hk).narrow hAB, ⟨((h5.1.moved hvm).kept hk).narrow hAB, ((h5.2.1.moved hvm).kept hk).narrow hAB, h5.2.2⟩, (h6.moved hvm).kept (hk _ h7 h8), Nat.lt_of_lt_of_le h7 hz, fun q => h8 (hAB _ q), va_AO.moved hvm h9, fun q hq => va_Nw.warmM hW (h10 q hq), hca _ _ h11, fun x y hx hy => ?_, fun y hy => va_tabs (c := .declares y) rfl (rfl : (s.setVm U.vm).vm = U.vm) (by rw [Cond.declares_setVm hvm]; exact h13 y hy)⟩
  have h := h12 x y hx hy
  split
  · rename_i e
    rw [if_pos e] at h
    exact hca _ _ h
  · rename_i e
    rw [if_neg e] at h
    obtain ⟨a, b, c1, c2, c3⟩ := h
    exact ⟨a, b, by rw [hvm.findClass]; exact c1, by rw [hvm.findClass]; exact c2, by rw [hvm.assignable]; exact c3⟩
theorem gm_sr_at {α adK : Nat → Nat} {n : Nat} : ∀ {vs : List gm_V} {ws : List Value}, gm_sr α adK n vs ws → ws.length = vs.length ∧ ∀ (i : Nat) (v : gm_V), vs[i]? = some v → ∃ w, ws[i]? = some w ∧ gm_cv α adK n v w := by
  intro vs
  induction vs with
  | nil => intro ws h; cases h; exact ⟨rfl, fun i v h => by simp at h⟩
  | cons v vs ih =>
    intro ws h
    obtain ⟨w, ws', rfl, hw, h⟩ := h
    obtain ⟨h1, h2⟩ := ih h
    refine ⟨by simp [h1], fun i u hu => ?_⟩
    cases i with
    | zero => simp at hu; subst hu; exact ⟨w, rfl, hw⟩
    | succ i => simpa using h2 i u (by simpa using hu)
theorem gm_sr_app {α adK : Nat → Nat} {n : Nat} : ∀ {vs us : List gm_V} {ws : List Value}, gm_sr α adK n (vs ++ us) ws → ∃ w1 w2, ws = w1 ++ w2 ∧ gm_sr α adK n vs w1 ∧ gm_sr α adK n us w2 := by
  intro vs
  induction vs with
  | nil => intro us ws h; exact ⟨[], ws, rfl, rfl, h⟩
  | cons v vs ih =>
    intro us ws h
    obtain ⟨w, ws', rfl, hw, h⟩ := h
    obtain ⟨w1, w2, rfl, a, b⟩ := ih h
    exact ⟨w :: w1, w2, rfl, ⟨w, w1, rfl, hw, a⟩, b⟩
theorem gm_sr_snoc {α adK : Nat → Nat} {n : Nat} : ∀ {vs : List gm_V} {ws : List Value} {v : gm_V} {w : Value}, gm_sr α adK n vs ws → gm_cv α adK n v w → gm_sr α adK n (vs ++ [v]) (ws ++ [w]) := by
  intro vs
  induction vs with
  | nil => intro ws v w h hv; cases h; exact ⟨w, [], rfl, hv, rfl⟩
  | cons u vs ih =>
    intro ws v w h hv
    obtain ⟨x, ws', rfl, hx, h⟩ := h
    exact ⟨x, ws' ++ [w], rfl, hx, ih h hv⟩
theorem gm_sr_rev {α adK : Nat → Nat} {n : Nat} : ∀ {vs : List gm_V} {ws : List Value}, gm_sr α adK n vs ws → gm_sr α adK n vs.reverse ws.reverse := by
  intro vs
  induction vs with
  | nil => intro ws h; cases h; rfl
  | cons u vs ih =>
    intro ws h
    obtain ⟨x, ws', rfl, hx, h⟩ := h
    rw [List.reverse_cons, List.reverse_cons]
    exact gm_sr_snoc (ih h) hx
/-- the locals at a method's entry -/
noncomputable def gm_ent (mj : Nat) (vs : List gm_V) : gm_L := vs.map some ++ List.replicate (gm_ml mj - vs.length) none
theorem gm_lg_len : ∀ {ws : List Value}, (∀ w ∈ ws, w.category = 1) → (lg_sl ws).length = ws.length := by
  intro ws
  induction ws with
  | nil => intro _; rfl
  | cons w ws ih =>
    intro h
    have h1 := h w List.mem_cons_self
    have h2 := ih fun x hx => h x (List.mem_cons_of_mem _ hx)
    have : lg_sl (w :: ws) = [Slot.val w] ++ lg_sl ws := by simp [lg_sl, h1]
    rw [this, List.length_append, h2]; simp; omega
theorem gm_args_at : ∀ {ws : List Value}, (∀ w ∈ ws, w.category = 1) → ∀ (i0 i : Nat) (w : Value), ws[i]? = some w → (i0 + i, w) ∈ lv_args i0 ws := by
  intro ws
  induction ws with
  | nil => intro _ i0 i w h; simp at h
  | cons x ws ih =>
    intro h i0 i w hi
    have h1 := h x List.mem_cons_self
    have e : lv_args i0 (x :: ws) = (i0, x) :: lv_args (i0 + 1) ws := by simp [lv_args, h1]
    rw [e]
    cases i with
    | zero => simp at hi; subst hi; exact List.mem_cons_self
    | succ i =>
      have := ih (fun y hy => h y (List.mem_cons_of_mem _ hy)) (i0 + 1) i w (by simpa using hi)
      rw [show i0 + (i + 1) = i0 + 1 + i by omega]
      exact List.mem_cons_of_mem _ this
theorem gm_lr_ent {α adK : Nat → Nat} {n mj : Nat} {vs : List gm_V} {ws : List Value} (h : gm_sr α adK n vs ws) (hcat : ∀ v ∈ vs, ¬ gm_sort v = 1) (hlen : vs.length ≤ gm_ml mj) : gm_lr α adK n (gm_ml mj) (gm_ent mj vs) ((lg_sl ws ++ List.replicate (gm_ml mj - (lg_sl ws).length) Slot.unset).toArray) := by
  obtain ⟨hl, hat⟩ := gm_sr_at h
  have hc : ∀ w ∈ ws, w.category = 1 := by
    intro w hw
    obtain ⟨i, hi⟩ := List.getElem?_of_mem hw
    have hlt : i < ws.length := (List.getElem?_eq_some_iff.mp hi).1
    have hv : vs[i]? = some (vs[i]'(by omega)) := List.getElem?_eq_getElem (by omega)
    obtain ⟨w', e, c⟩ := hat i _ hv
    rw [hi] at e; cases e
    exact gm_cat1 c (hcat _ (List.mem_of_getElem? hv))
  refine ⟨by simp [gm_ent]; omega, _, lv_entry ws (by rw [gm_lg_len hc]; omega), fun i v hi => ?_⟩
  unfold gm_ent at hi
  by_cases hlt : i < vs.length
  · rw [List.getElem?_append_left (by simpa using hlt), List.getElem?_map] at hi
    cases hv : vs[i]? with
    | none => rw [hv] at hi; simp at hi
    | some u =>
      rw [hv] at hi
      simp at hi
      subst hi
      obtain ⟨w, e, c⟩ := hat i u hv
      have := gm_args_at hc 0 i w e
      rw [Nat.zero_add] at this
      exact ⟨w, c, this⟩
  · rw [List.getElem?_append_right (by simpa using hlt)] at hi
    have := List.mem_of_getElem? hi
    have := List.eq_of_mem_replicate this
    cases this
theorem gm_mck_spec {mj : Nat} (h : mj < 370) : gm_cwd mj ∈ gm_T ∧ (gm_ow mj ≠ gm_mxi → plainName (gm_mn mj).cls = true) ∧ ((gm_mn mj).cls ≠ "java/lang/invoke/MethodHandle" ∧ (gm_mn mj).cls ≠ "java/lang/invoke/VarHandle") ∧ (parseMethodDescriptor (gm_mn mj).desc).map (fun d => d.parameters.length) = some (gm_na mj) ∧ gm_ml mj ≤ 200 ∧ gm_rn (gm_ow mj) = (gm_mn mj).cls := by
  have h1 := gm_mck_ok h
  have h2 := List.all_eq_true.mp gm_owc mj (List.mem_range.mpr h)
  have h3 := List.all_eq_true.mp gm_plm mj (List.mem_range.mpr h)
  simp only [gm_mck, Bool.and_eq_true, decide_eq_true_eq] at h1 h2
  obtain ⟨b, c, d⟩ := h1
  refine ⟨gm_cp_ok h, fun q => ?_, b, c, d, h2⟩
  simp only [Bool.or_eq_true, decide_eq_true_eq] at h3
  rcases h3 with h3 | h3
  · exact absurd h3 q
  · exact h3
section GC
variable {X : Int → Int} {LX d bc bs mi pc : Nat} {L : gm_L} {st : List gm_V} {n : Nat} {K : gm_K} {R : gm_R} {M : gm_M} {Q : gm_Q}
/-- the contract of a method without handlers, for one state of the cells -/
theorem gm_met {mj : Nat} {vs : List gm_V} {avs : List Value} (hm : mj < 370) (hmx : gm_ow mj ≠ gm_mxi) (hh : gm_hh mj = []) (l : Launch) (hl : l.stackTraces = false) {D : va_G} {ti : Nat → ClassId} {adK adV α : Nat → Nat} {A' : Nat → Prop} {H : Heap}
    (hW : gm_Wp X LX d bc bs mj 0 (gm_ent mj vs) [] n K R M Q) (hvs : gm_sr α adK n vs avs) (hcat : ∀ v ∈ vs, ¬ gm_sort v = 1) (hlen : vs.length ≤ gm_ml mj) (hP : va_P D gm_cs (gm_wl ti α n K R M) H) (hD : va_D A' (gm_wl ti α n K R M)) (hRv : gm_Rv n R) (hA' : ∀ q, H.size ≤ q → A' q) :
    vx_Met l (gm_mn mj) (gm_cwd mj :: gm_T) ({ frames := d, cells := bc, slots := bs, locals := d * 300 }) (va_Pc avs (fun U => U.heap = H ∧ gm_Ev X LX adK adV A' U ∧ va_K D gm_cs (gm_ty ti) U)) (gm_QC D ti adK A' α n Q) (gm_XC D ti A' α n Q) bc bs A' := by
  obtain ⟨-, hpl, -, -, -, hown9⟩ := gm_mck_spec hm
  refine vx_ofW (cc := gm_bc mj) (maxL := gm_ml mj) (ret := gm_rt mj) (ws' := gm_T) (hpl hmx) (by unfold gm_cwd; rw [if_pos hh]) ?_
  intro p e s m args below meth c s₁ B hml hex hv
  obtain ⟨rfl, hsz, hev, hK⟩ := hv
  have hts := atoms_spec (ws := gm_cwd mj :: gm_T) B.pre
  have hown : s.vm.findClass (gm_mn mj).cls = some m.cls := findClass_of_methodNamed B.named
  have hin : meth.name = (gm_mn mj).name := (name_of_methodNamed B.named B.method).1
  have htab : c.exceptionTable.toList = tableOf (gm_hh mj) := by
    rw [hh]
    cases hx : c.exceptionTable.toList with
    | nil => rfl
    | cons x xs => exact absurd (hex x (by rw [hx]; exact List.mem_cons_self)) id
  subst hsz
  rw [lg_entry_eq]
  exact hW p l e _ s m _ below meth c D ti adK adV A' α n bc bs ⟨B.exec, B.bytes, hml, by rw [hown9]; exact hown, B.returns, B.notSynchronized, fun w hw => hts w (List.mem_cons_of_mem _ hw), hin, hl, (by omega), htab⟩ hev (Nat.le_refl _) (Nat.le_refl _) (Nat.le_refl _) (Nat.le_refl _) hA' α s.heap [] 0 0 _ [] gm_xt.rf (by omega) (by omega) ⟨hK, hP, hD, va_S.rf, hRv⟩ (gm_lr_ent hvs hcat hlen) rfl
theorem gm_blind {avs : List Value} {H : Heap} {D : va_G} {ti : Nat → ClassId} {adK adV : Nat → Nat} {A' : Nat → Prop} : FrameBlind (va_Pc avs (fun U => U.heap = H ∧ gm_Ev X LX adK adV A' U ∧ va_K D gm_cs (gm_ty ti) U)) := by
  intro a U g mk h
  obtain ⟨h0, h1, h2, h3⟩ := h
  exact ⟨h0, h1, gm_Ev_to (U := U.calling g mk a) h2 (State.WarmedH.refl U) (Nat.le_refl _) (fun _ _ _ => rfl) (fun _ h => h), va_K.moved (u := U) (U := U.calling g mk a) (Vm.Alike.refl U.vm) h3⟩
/-- behind a call -/
theorem gm_after {p : Program} {l : Launch} {e : Env} {Rm : Room} {s : State} {m : MethodId} {args : Array Value} {below : List Frame} {meth : Method} {c : Code} {H : Heap} {locs : List Loc} {cells slots mc ms : Nat} {D : va_G} {ti : Nat → ClassId} {adK α : Nat → Nat} {A0 A1 : Nat → Prop} {a : Array Value} {ls : Array Slot} {st0 rest : List Value} {Qf : State → Prop} {H0 : Heap} {Q' : gm_Q}
    (hr : vx_Run p l e Rm s m args below meth c H locs cells slots mc ms (F0 m pc ls st0) rest (gm_QC D ti adK A1 α n Q' a) (gm_XC D ti A1 α n Q') A1) (hS : va_S A0 H0 H locs) (hA1 : ∀ q, A1 q → A0 q)
    (kk : ∀ (v : Option Value) (u : Option gm_V) (α' : Nat → Nat) (n' : Nat) (K' : gm_K) (R' : gm_R) (M' : gm_M) (H1 : Heap) (locs1 : List Loc), gm_ov α' adK n' u v → Q' (.inl u) n' K' R' M' → gm_xt α n α' n' → va_K D gm_cs (gm_ty ti) s → va_P D gm_cs (gm_wl ti α' n' K' R' M') H1 → va_D A0 (gm_wl ti α' n' K' R' M') → gm_Rv n' R' → va_S A0 H0 H1 locs1 → W p l e Rm s m args below meth c H1 locs1 (cells + mc) (slots + ms) Qf (F0 m (pc + 3) ls (v.toList ++ rest)))
    (kx : ∀ (x : Nat) (ce : Cell) (q9 : Addr) (α' : Nat → Nat) (n' : Nat) (K' : gm_K) (R' : gm_R) (M' : gm_M) (H1 : Heap) (locs1 : List Loc), x < 5 → Q' (.inr x) n' K' R' M' → gm_xt α n α' n' → va_K D gm_cs (gm_ty ti) s → va_P D gm_cs (gm_wl ti α' n' K' R' M') H1 → va_D A0 (gm_wl ti α' n' K' R' M') → gm_Rv n' R' → va_S A0 H0 H1 locs1 → H1[q9]? = some ce → ce.vm = .none → s.vm.findClass (gm_xn x) = some ce.cls → vx_W p l e Rm s m args below meth c H1 locs1 (cells + mc) (slots + ms) Qf (F0 m pc ls rest) q9) :
    W p l e Rm s m args below meth c H locs cells slots Qf (F0 m pc ls st0) := by
  intro T hT Xs
  rcases hr T hT Xs with ⟨v, st₀, t, T', L9, h0, X', hL9, e1, e2, ⟨⟨v', u, α', n', K', R', M', hv, ho, hq, hxt, hk, hp, hd9, hrv⟩, hF⟩, stp⟩ | ⟨q, st₀, t, T', L9, E, ce, h0, X', hL9, e1, e2, ⟨⟨x, α', n', K', R', M', rfl, hx5, hq, hxt, hk, hp, hd9, hrv⟩, hF⟩, hce, hcv, hcl, stp⟩
  · cases hv
    obtain ⟨k1, k2, k3⟩ := vx_keep h0 e1 hS (fun q _ h => hA1 q h) hA1 hL9 hF
    have hvm : s.vm.Alike t.vm := by rw [← e2]; exact X'.warmed.alike
    obtain ⟨t2, a1, b1⟩ := kk v u α' n' K' R' M' T'.heap (locs ++ L9) ho hq hxt (va_K.moved hvm.symm hk) (by rw [e1]; exact hp) (hd9.weaken fun _ _ _ h => hA1 _ h) hrv k3 T' rfl X'
    exact ⟨t2, stp t2 a1, b1⟩
  · obtain ⟨k1, k2, k3⟩ := vx_keep h0 e1 hS (fun q _ h => hA1 q h) hA1 hL9 hF
    have hvm : s.vm.Alike t.vm := by rw [← e2]; exact X'.warmed.alike
    obtain ⟨t2, a1, b1⟩ := kx x ce q α' n' K' R' M' T'.heap (locs ++ L9) hx5 hq hxt (va_K.moved hvm.symm hk) (by rw [e1]; exact hp) (hd9.weaken fun _ _ _ h => hA1 _ h) hrv k3 (by rw [e1]; exact hce) hcv hcl T' rfl X'
    exact ⟨t2, stp.trans a1, b1⟩
/-- what a callee owes its caller: the caller goes on with the value; a throw goes on to the caller's end -/
noncomputable def gm_cont (X : Int → Int) (LX d bc bs mi pc : Nat) (L : gm_L) (st : List gm_V) (Q : gm_Q) : gm_Q := fun o n K R M => match o with
  | .inl u => gm_Wp X LX d bc bs mi pc L (u.toList ++ st) n K R M Q
  | .inr x => Q (.inr x) n K R M
theorem gm_tail {p : Program} {l : Launch} {e : Env} {Rm : Room} {s : State} {m : MethodId} {args : Array Value} {below : List Frame} {meth : Method} {c : Code} {H : Heap} {locs : List Loc} {cells slots bc' bs' mc ms n0 : Nat} {D : va_G} {ti : Nat → ClassId} {adK adV α α0 : Nat → Nat} {A A1 : Nat → Prop} {a : Array Value} {ls : Array Slot} {sv0 sv : List Value}
    (hh : gm_hh mi = []) (hcx : gm_Cx mi p l s m args meth c) (hev : gm_Ev X LX adK adV A s) (hd : d ≤ Rm.frames) (hd2 : d * 300 ≤ Rm.locals) (hmc : mc ≤ Rm.cells) (hms : ms ≤ Rm.slots) (hA : ∀ q, s.heap.size ≤ q → A q) (hxt : gm_xt α0 n0 α n) (hb1 : bc' ≤ bc) (hb2 : bs' ≤ bs) (hc1 : cells + bc ≤ mc) (hc2 : slots + bs ≤ ms) (hSv : va_S A s.heap H locs) (hL : gm_lr α adK n (gm_ml mi) L ls) (hS : gm_sr α adK n st sv) (hA1 : ∀ q, A1 q → A q)
    (hr : vx_Run p l e Rm s m args below meth c H locs cells slots bc' bs' (F0 m pc ls sv0) sv (gm_QC D ti adK A1 α n (gm_cont X LX d (bc - bc') (bs - bs') mi (pc + 3) L st Q) a) (gm_XC D ti A1 α n (gm_cont X LX d (bc - bc') (bs - bs') mi (pc + 3) L st Q)) A1) :
    W p l e Rm s m args below meth c H locs cells slots (vx_MQ below (gm_QC D ti adK A α0 n0 Q) (gm_XC D ti A α0 n0 Q) args s mc ms A) (F0 m pc ls sv0) := by
  refine gm_after hr hSv hA1 (fun v u α' n' K' R' M' H1 locs1 ho hq hx9 hk hp hdd hrv hs9 => ?_) (fun x ce q9 α' n' K' R' M' H1 locs1 hx5 hq hx9 hk hp hdd hrv hs9 hce hcv hcl => ?_)
  · refine hq p l e Rm s m args below meth c D ti adK adV A α0 n0 mc ms hcx hev hd hd2 hmc hms hA α' H1 locs1 (cells + bc') (slots + bs') ls (v.toList ++ sv) (hxt.trans hx9) (by omega) (by omega) ⟨hk, hp, hdd, hs9, hrv⟩ (gm_lr_ext hx9 hL) ?_
    cases u with
    | none => cases ho; exact gm_sr_ext hx9 hS
    | some u => obtain ⟨w, rfl, hw⟩ := ho; exact ⟨w, sv, rfl, hw, gm_sr_ext hx9 hS⟩
  · refine vx_out (ce := ce) (E := gm_xn x) (fun z hz => ?_) hcx.2.2.2.2.2.1 hce hcv hcl (fun t ht hvm => ⟨⟨x, α', n', K', R', M', rfl, hx5, hq, hxt.trans hx9, va_K.moved hvm hk, by rw [ht]; exact hp, hdd, hrv⟩, hs9.F ht⟩) hs9.2.2 (by omega) (by omega)
    rw [hcx.2.2.2.2.2.2.2.2.2.2, hh] at hz
    cases hz
end GC
