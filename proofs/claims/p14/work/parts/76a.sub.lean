/-! A CALL IN A PART OF THE WORLD: the callee sees some of the cells, under numbers of its own; the others stay. -/
/-- cells 1 to n1 of the one are cells of the other, under the numbers ρ -/
def gm_sbw (ti : Nat → ClassId) (ρ : Nat → Nat) (n1 : Nat) (α1 : Nat → Nat) (K1 : gm_K) (R1 : gm_R) (M1 : gm_M) (n : Nat) (α : Nat → Nat) (K : gm_K) (R : gm_R) (M : gm_M) : Prop :=
  ∀ i, 1 ≤ i → i ≤ n1 → (1 ≤ ρ i ∧ ρ i ≤ n) ∧ α1 i = α (ρ i) ∧ gm_en ti α1 K1 R1 M1 i = gm_en ti α K R M (ρ i)
/-- behind it: the callee's cells, the others, the new ones -/
def gm_bgw (ti : Nat → ClassId) (ρ : Nat → Nat) (n1 n1' : Nat) (α1 : Nat → Nat) (K1 : gm_K) (R1 : gm_R) (M1 : gm_M) (n n' : Nat) (α : Nat → Nat) (K : gm_K) (R : gm_R) (M : gm_M) (α' : Nat → Nat) (K' : gm_K) (R' : gm_R) (M' : gm_M) : Prop :=
  (n1 ≤ n1' ∧ n' = n + (n1' - n1)) ∧ (∀ i, 1 ≤ i → i ≤ n1 → α' (ρ i) = α1 i ∧ gm_en ti α' K' R' M' (ρ i) = gm_en ti α1 K1 R1 M1 i) ∧ (∀ k, 1 ≤ k → k ≤ n → (∀ i, 1 ≤ i → i ≤ n1 → ¬ ρ i = k) → α' k = α k ∧ gm_en ti α' K' R' M' k = gm_en ti α K R M k) ∧ ∀ t, 1 ≤ t → t ≤ n1' - n1 → α' (n + t) = α1 (n1 + t) ∧ gm_en ti α' K' R' M' (n + t) = gm_en ti α1 K1 R1 M1 (n1 + t)
theorem gm_wl_get {ti : Nat → ClassId} {α : Nat → Nat} {n : Nat} {K : gm_K} {R : gm_R} {M : gm_M} {i : Nat} {q : Nat × va_E} (h : (gm_wl ti α n K R M)[i]? = some q) : i < n ∧ q = (α (i + 1), gm_en ti α K R M (i + 1)) := by
  have hl := (List.getElem?_eq_some_iff.mp h).1
  rw [gm_wl_len] at hl
  have := gm_wl_at (ti := ti) (α := α) (n := n) (K := K) (R := R) (M := M) (k := i + 1) (by omega) (by omega)
  rw [Nat.add_sub_cancel, h] at this
  cases this
  exact ⟨hl, rfl⟩
theorem gm_sbw_P {D : va_G} {ti : Nat → ClassId} {ρ : Nat → Nat} {n1 n : Nat} {α1 α : Nat → Nat} {K1 K : gm_K} {R1 R : gm_R} {M1 M : gm_M} {H : Heap} (hs : gm_sbw ti ρ n1 α1 K1 R1 M1 n α K R M) (hP : va_P D gm_cs (gm_wl ti α n K R M) H) : va_P D gm_cs (gm_wl ti α1 n1 K1 R1 M1) H := by
  intro k q hq
  obtain ⟨h1, rfl⟩ := gm_wl_get hq
  obtain ⟨h2, h3, h4⟩ := hs (k + 1) (by omega) (by omega)
  rw [h3, h4]
  exact hP (ρ (k + 1) - 1) _ (gm_wl_at h2.1 h2.2)
theorem gm_sbw_D {A : Nat → Prop} {ti : Nat → ClassId} {ρ : Nat → Nat} {n1 n : Nat} {α1 α : Nat → Nat} {K1 K : gm_K} {R1 R : gm_R} {M1 M : gm_M} (hs : gm_sbw ti ρ n1 α1 K1 R1 M1 n α K R M) (hi : ∀ i j, 1 ≤ i → i ≤ n1 → 1 ≤ j → j ≤ n1 → ρ i = ρ j → i = j) (hD : va_D A (gm_wl ti α n K R M)) : va_D A (gm_wl ti α1 n1 K1 R1 M1) := by
  refine ⟨fun i j p q hp hq e => ?_, fun k q hq => ?_⟩
  · obtain ⟨i1, rfl⟩ := gm_wl_get hp
    obtain ⟨j1, rfl⟩ := gm_wl_get hq
    obtain ⟨a2, a3, -⟩ := hs (i + 1) (by omega) (by omega)
    obtain ⟨b2, b3, -⟩ := hs (j + 1) (by omega) (by omega)
    have e : α1 (i + 1) = α1 (j + 1) := e
    rw [a3, b3] at e
    have := hD.1 (ρ (i + 1) - 1) (ρ (j + 1) - 1) _ _ (gm_wl_at a2.1 a2.2) (gm_wl_at b2.1 b2.2) e
    have := hi (i + 1) (j + 1) (by omega) (by omega) (by omega) (by omega) (by omega)
    omega
  · obtain ⟨h1, rfl⟩ := gm_wl_get hq
    obtain ⟨h2, h3, -⟩ := hs (k + 1) (by omega) (by omega)
    show A (α1 (k + 1))
    rw [h3]
    exact hD.2 (ρ (k + 1) - 1) _ (gm_wl_at h2.1 h2.2)
/-- a big cell is one of the callee's, another, or new -/
theorem gm_bgw_at {ti : Nat → ClassId} {ρ : Nat → Nat} {n1 n1' n n' : Nat} {α1 α α' : Nat → Nat} {K1 K K' : gm_K} {R1 R R' : gm_R} {M1 M M' : gm_M} (hb : gm_bgw ti ρ n1 n1' α1 K1 R1 M1 n n' α K R M α' K' R' M') {k : Nat} (h1 : 1 ≤ k) (h2 : k ≤ n') : (∃ i, (1 ≤ i ∧ i ≤ n1') ∧ (α' k = α1 i ∧ gm_en ti α' K' R' M' k = gm_en ti α1 K1 R1 M1 i) ∧ ((i ≤ n1 ∧ ρ i = k) ∨ (n1 < i ∧ k = n + (i - n1)))) ∨ ((k ≤ n ∧ ∀ i, 1 ≤ i → i ≤ n1 → ¬ ρ i = k) ∧ α' k = α k ∧ gm_en ti α' K' R' M' k = gm_en ti α K R M k) := by
  obtain ⟨⟨e1, e2⟩, b1, b2, b3⟩ := hb
  by_cases hk : k ≤ n
  · by_cases hi : ∃ i, (1 ≤ i ∧ i ≤ n1) ∧ ρ i = k
    · obtain ⟨i, ⟨i1, i2⟩, rfl⟩ := hi
      exact Or.inl ⟨i, ⟨i1, by omega⟩, b1 i i1 i2, Or.inl ⟨i2, rfl⟩⟩
    · have hi2 : ∀ i, 1 ≤ i → i ≤ n1 → ¬ ρ i = k := fun i i1 i2 e => hi ⟨i, ⟨i1, i2⟩, e⟩
      exact Or.inr ⟨⟨hk, hi2⟩, b2 k h1 hk hi2⟩
  · have := b3 (k - n) (by omega) (by omega)
    rw [show n + (k - n) = k by omega] at this
    exact Or.inl ⟨n1 + (k - n), ⟨by omega, by omega⟩, this, Or.inr ⟨by omega, by omega⟩⟩
theorem gm_bgw_PD {D : va_G} {A0 : Nat → Prop} {ti : Nat → ClassId} {ρ : Nat → Nat} {n1 n1' n n' : Nat} {α0 α1 α α' : Nat → Nat} {K0 K1 K K' : gm_K} {R0 R1 R R' : gm_R} {M0 M1 M M' : gm_M} {H H1 : Heap} (hs : gm_sbw ti ρ n1 α0 K0 R0 M0 n α K R M) (hb : gm_bgw ti ρ n1 n1' α1 K1 R1 M1 n n' α K R M α' K' R' M') (hP : va_P D gm_cs (gm_wl ti α n K R M) H) (hD : va_D A0 (gm_wl ti α n K R M))
    (hk : ∀ q : Nat, q < H.size → ¬ va_A (gm_wl ti α0 n1 K0 R0 M0) H.size q → H1[q]? = H[q]?) (hF : ∀ q, va_A (gm_wl ti α0 n1 K0 R0 M0) H.size q → A0 q) (hP1 : va_P D gm_cs (gm_wl ti α1 n1' K1 R1 M1) H1) (hD1 : va_D (va_A (gm_wl ti α0 n1 K0 R0 M0) H.size) (gm_wl ti α1 n1' K1 R1 M1)) : va_P D gm_cs (gm_wl ti α' n' K' R' M') H1 ∧ va_D A0 (gm_wl ti α' n' K' R' M') := by
  have apart : ∀ k, 1 ≤ k → k ≤ n → (∀ i, 1 ≤ i → i ≤ n1 → ¬ ρ i = k) → α k < H.size ∧ ¬ va_A (gm_wl ti α0 n1 K0 R0 M0) H.size (α k) := by
    intro k k1 k2 hi
    have hat := gm_wl_at (ti := ti) (α := α) (n := n) (K := K) (R := R) (M := M) k1 k2
    have hl := (hP (k - 1) _ hat).lt
    refine ⟨hl, fun h => ?_⟩
    rcases h with ⟨j, e, h⟩ | h
    · obtain ⟨j1, j2⟩ := gm_wl_get h
      have j3 : α k = α0 (j + 1) := congrArg Prod.fst j2
      obtain ⟨a1, a2, -⟩ := hs (j + 1) (by omega) (by omega)
      rw [a2] at j3
      have := hD.1 (k - 1) (ρ (j + 1) - 1) _ _ hat (gm_wl_at a1.1 a1.2) j3
      exact hi (j + 1) (by omega) (by omega) (by omega)
    · exact absurd hl (Nat.not_lt.mpr h)
  refine ⟨fun k q hq => ?_, fun x y p q hp hq e => ?_, fun k q hq => ?_⟩
  · obtain ⟨h1, rfl⟩ := gm_wl_get hq
    rcases gm_bgw_at hb (k := k + 1) (by omega) (by omega) with ⟨i, i1, ⟨i2, i3⟩, -⟩ | ⟨⟨k1, k2⟩, k3, k4⟩
    · rw [i2, i3]
      exact hP1 (i - 1) _ (gm_wl_at i1.1 i1.2)
    · rw [k3, k4]
      obtain ⟨g1, g2⟩ := apart (k + 1) (by omega) k1 k2
      have hat := gm_wl_at (ti := ti) (α := α) (n := n) (K := K) (R := R) (M := M) (k := k + 1) (by omega) k1
      exact (hP _ _ hat).kept (hk _ g1 g2)
  · obtain ⟨x1, rfl⟩ := gm_wl_get hp
    obtain ⟨y1, rfl⟩ := gm_wl_get hq
    have e : α' (x + 1) = α' (y + 1) := e
    rcases gm_bgw_at hb (k := x + 1) (by omega) (by omega) with ⟨i, i1, ⟨i2, -⟩, i4⟩ | ⟨⟨k1, k2⟩, k3, -⟩
    · rcases gm_bgw_at hb (k := y + 1) (by omega) (by omega) with ⟨j, j1, ⟨j2, -⟩, j4⟩ | ⟨⟨l1, l2⟩, l3, -⟩
      · rw [i2, j2] at e
        have := hD1.1 (i - 1) (j - 1) _ _ (gm_wl_at i1.1 i1.2) (gm_wl_at j1.1 j1.2) e
        have hij : i = j := by omega
        subst hij
        rcases i4 with ⟨i5, i6⟩ | ⟨i5, i6⟩
        · rcases j4 with ⟨j5, j6⟩ | ⟨j5, j6⟩
          · omega
          · omega
        · rcases j4 with ⟨j5, j6⟩ | ⟨j5, j6⟩
          · omega
          · omega
      · rw [i2, l3] at e
        have h1 := hD1.2 (i - 1) _ (gm_wl_at i1.1 i1.2)
        have h1 : va_A (gm_wl ti α0 n1 K0 R0 M0) H.size (α1 i) := h1
        rw [e] at h1
        exact absurd h1 (apart (y + 1) (by omega) l1 l2).2
    · rcases gm_bgw_at hb (k := y + 1) (by omega) (by omega) with ⟨j, j1, ⟨j2, -⟩, j4⟩ | ⟨⟨l1, l2⟩, l3, -⟩
      · rw [k3, j2] at e
        have h1 := hD1.2 (j - 1) _ (gm_wl_at j1.1 j1.2)
        have h1 : va_A (gm_wl ti α0 n1 K0 R0 M0) H.size (α1 j) := h1
        rw [← e] at h1
        exact absurd h1 (apart (x + 1) (by omega) k1 k2).2
      · rw [k3, l3] at e
        have := hD.1 x y _ _ (gm_wl_at (k := x + 1) (by omega) k1) (gm_wl_at (k := y + 1) (by omega) l1) e
        omega
  · obtain ⟨h1, rfl⟩ := gm_wl_get hq
    show A0 (α' (k + 1))
    rcases gm_bgw_at hb (k := k + 1) (by omega) (by omega) with ⟨i, i1, ⟨i2, -⟩, -⟩ | ⟨⟨k1, k2⟩, k3, -⟩
    · rw [i2]
      exact hF _ (hD1.2 (i - 1) _ (gm_wl_at i1.1 i1.2))
    · rw [k3]
      exact hD.2 _ _ (gm_wl_at (k := k + 1) (by omega) k1)
/-- what a callee in a part of the world owes its caller -/
def gm_owe (X : Int → Int) (LX d bc bs mi pc : Nat) (L : gm_L) (st : List gm_V) (ρ : Nat → Nat) (f : (Nat → Nat) → Nat → Nat) (n1 n : Nat) (K : gm_K) (R : gm_R) (M : gm_M) (Q : gm_Q) : gm_Q := fun o n1' K1' R1' M1' => ∃ u, o = .inl u ∧ (u = none ∨ ∃ x, u = some (gm_vi x)) ∧ ∃ (n' : Nat) (K' : gm_K) (R' : gm_R) (M' : gm_M), (∀ (ti : Nat → ClassId) (α α1' : Nat → Nat), gm_xt (f α) n1 α1' n1' → ∃ α', gm_xt α n α' n' ∧ gm_bgw ti ρ n1 n1' α1' K1' R1' M1' n n' α K R M α' K' R' M') ∧ gm_Rv n' R' ∧ gm_Wp X LX d bc bs mi pc L (u.toList ++ st) n' K' R' M' Q
section SUB
variable {X : Int → Int} {LX d bc bs mi pc : Nat} {L : gm_L} {st : List gm_V} {n : Nat} {K : gm_K} {R : gm_R} {M : gm_M} {Q : gm_Q}
theorem gm_tailS {p : Program} {l : Launch} {e : Env} {Rm : Room} {s : State} {m : MethodId} {args : Array Value} {below : List Frame} {meth : Method} {c : Code} {H : Heap} {locs : List Loc} {cells slots bc' bs' mc ms n0 n1 : Nat} {D : va_G} {ti : Nat → ClassId} {adK adV α α0 : Nat → Nat} {A : Nat → Prop} {a : Array Value} {ls : Array Slot} {sv0 sv : List Value} {ρ : Nat → Nat} {f : (Nat → Nat) → Nat → Nat} {K1 : gm_K} {R1 : gm_R} {M1 : gm_M}
    (hs : gm_sbw ti ρ n1 (f α) K1 R1 M1 n α K R M) (hcx : gm_Cx mi p l s m args meth c) (hev : gm_Ev X LX adK adV A s) (hd : d ≤ Rm.frames) (hd2 : d * 300 ≤ Rm.locals) (hmc : mc ≤ Rm.cells) (hms : ms ≤ Rm.slots) (hA : ∀ q, s.heap.size ≤ q → A q) (hxt : gm_xt α0 n0 α n) (hb1 : bc' ≤ bc) (hb2 : bs' ≤ bs) (hc1 : cells + bc ≤ mc) (hc2 : slots + bs ≤ ms) (hP : va_P D gm_cs (gm_wl ti α n K R M) H) (hD : va_D A (gm_wl ti α n K R M)) (hSv : va_S A s.heap H locs) (hL : gm_lr α adK n (gm_ml mi) L ls) (hS : gm_sr α adK n st sv) (hA1 : ∀ q, va_A (gm_wl ti (f α) n1 K1 R1 M1) H.size q → A q)
    (hr : vx_Run p l e Rm s m args below meth c H locs cells slots bc' bs' (F0 m pc ls sv0) sv (gm_QC D ti adK (va_A (gm_wl ti (f α) n1 K1 R1 M1) H.size) (f α) n1 (gm_owe X LX d (bc - bc') (bs - bs') mi (pc + 3) L st ρ f n1 n K R M Q) a) (gm_XC D ti (va_A (gm_wl ti (f α) n1 K1 R1 M1) H.size) (f α) n1 (gm_owe X LX d (bc - bc') (bs - bs') mi (pc + 3) L st ρ f n1 n K R M Q)) (va_A (gm_wl ti (f α) n1 K1 R1 M1) H.size)) :
    W p l e Rm s m args below meth c H locs cells slots (vx_MQ below (gm_QC D ti adK A α0 n0 Q) (gm_XC D ti A α0 n0 Q) args s mc ms A) (F0 m pc ls sv0) := by
  intro T hT Xs
  rcases hr T hT Xs with ⟨v, st₀, t, T', L9, h0, X', hL9, e1, e2, ⟨⟨v', u, α1', n1', K1', R1', M1', hv, ho, hq, hx9, hk, hp, hd9, hrv⟩, hF⟩, stp⟩ | ⟨q, st₀, t, T', L9, E, ce, h0, X', hL9, e1, e2, ⟨⟨x, α', n', K', R', M', rfl, hx5, hq, -⟩, hF⟩, hce, hcv, hcl, stp⟩
  · cases hv
    obtain ⟨k1, k2, k3⟩ := vx_keep h0 e1 hSv (fun q _ h => hA1 q h) hA1 hL9 hF
    have hvm : s.vm.Alike t.vm := by rw [← e2]; exact X'.warmed.alike
    obtain ⟨u', hu, hui, n', K', R', M', hbig, hrv', hw⟩ := hq
    cases hu
    obtain ⟨α', hxt', hb⟩ := hbig ti α α1' hx9
    obtain ⟨g1, g2⟩ := gm_bgw_PD hs hb hP hD k2 hA1 (by rw [e1]; exact hp) hd9
    obtain ⟨t2, a1, b1⟩ := hw p l e Rm s m args below meth c D ti adK adV A α0 n0 mc ms hcx hev hd hd2 hmc hms hA α' T'.heap (locs ++ L9) (cells + bc') (slots + bs') ls (v.toList ++ sv) (hxt.trans hxt') (by omega) (by omega) ⟨va_K.moved hvm.symm hk, g1, g2, k3, hrv'⟩ (gm_lr_ext hxt' hL) (by
      rcases hui with rfl | ⟨x, rfl⟩
      · cases ho; exact gm_sr_ext hxt' hS
      · obtain ⟨w, rfl, hw⟩ := ho; exact ⟨w, sv, rfl, hw, gm_sr_ext hxt' hS⟩) T' rfl X'
    exact ⟨t2, stp t2 a1, b1⟩
  · obtain ⟨u, hu, -⟩ := hq
    cases hu
theorem gm_sr_i {α1 adK : Nat → Nat} {n1 : Nat} : ∀ {as : List gm_V} {ws : List Value}, gm_sr α1 adK n1 as ws → (∀ v ∈ as, ∃ x, v = gm_vi x) → ∀ {α : Nat → Nat} {n : Nat}, gm_sr α adK n as ws := by
  intro as
  induction as with
  | nil => intro ws h _ α n; exact h
  | cons v as ih =>
    intro ws h hi α n
    obtain ⟨w, ws', rfl, hw, h⟩ := h
    obtain ⟨x, rfl⟩ := hi v List.mem_cons_self
    exact ⟨w, ws', rfl, hw, ih h (fun v hv => hi v (List.mem_cons_of_mem _ hv))⟩
theorem gm_c_virtS {ix mj k1 ci d' bc' bs' n1 : Nat} {as : List gm_V} {ρ : Nat → Nat} {f : (Nat → Nat) → Nat → Nat} {K1 : gm_K} {R1 : gm_R} {M1 : gm_M} (hs : ∀ (ti : Nat → ClassId) (α : Nat → Nat), gm_sbw ti ρ n1 (f α) K1 R1 M1 n α K R M) (hinj : ∀ i j, 1 ≤ i → i ≤ n1 → 1 ≤ j → j ≤ n1 → ρ i = ρ j → i = j) (hrv1 : gm_Rv n1 R1) (hk1 : 1 ≤ k1 ∧ k1 ≤ n1) (hK1 : (K1 k1).1 = ci + 4) (h : gm_at mi pc = some (.invokevirtual ix)) (hc : gm_cal (gm_ow mi) ix = some (0, mj)) (hmx : gm_ow mj ≠ gm_mxi) (hci : ci < 12) (hcn : gm_cn ci = (gm_mn mj).cls) (hna : as.length = gm_na mj) (has : ∀ v ∈ as, ∃ x, v = gm_vi x) (hlen : as.length + 1 ≤ gm_ml mj) (hst : (st.map gm_cat).sum ≤ 8) (hd' : d' + 1 ≤ d) (hb1 : bc' ≤ bc) (hb2 : bs' ≤ bs)
    (hW : gm_Wp X LX d' bc' bs' mj 0 (gm_ent mj (gm_vr k1 :: as)) [] n1 K1 R1 M1 (gm_owe X LX d (bc - bc') (bs - bs') mi (pc + 3) L st ρ f n1 n K R M Q)) : gm_Wp X LX d bc bs mi pc L (as.reverse ++ gm_vr (ρ k1) :: st) n K R M Q := by
  intro p l e Rm s m args below meth c D ti adK adV A α0 n0 mc ms hcx hev hd hd2 hmc hms hA α H locs cells slots ls sv hxt hc1 hc2 hR hL hS
  obtain ⟨w1, w2, rfl, hw1, w, sv2, rfl, ⟨rfl, hkn⟩, hS2⟩ := gm_sr_app hS
  have hdg := gm_dec hcx h rfl
  obtain ⟨hx, hb, hml, hown, -, -, hts, -, hl, -⟩ := id hcx
  obtain ⟨hKn, hP, hD, hSv, hRv⟩ := id hR
  obtain ⟨hj, i1, i2, i3, -, -, i6, -⟩ := gm_cal_spec hc
  obtain ⟨j1, -, j3, j4, j5, -⟩ := gm_mck_spec hj
  have hs := hs ti α
  obtain ⟨s1, s2, s3⟩ := hs k1 hk1.1 hk1.2
  have hP1 := gm_sbw_P hs hP
  have hD1 := gm_sbw_D hs hinj hD
  have hA1 := gm_sub_A hD1 hSv hA
  have hcat : ∀ v ∈ as, ¬ gm_sort v = 1 := fun v hv => by obtain ⟨x, rfl⟩ := has v hv; simp [gm_sort]
  have hvs : gm_sr (f α) adK n1 (gm_vr k1 :: as) (Value.ref (f α k1) :: w1.reverse) := ⟨_, _, rfl, ⟨(gm_rf_pos hk1.1 (Nat.lt_of_le_of_lt hk1.2 hrv1.1)).symm, Or.inl hk1.2⟩, by have := gm_sr_rev (gm_sr_i hw1 (fun v hv => has v (by simpa using hv)) (α := f α) (n := n1)); rwa [List.reverse_reverse] at this⟩
  have hM := gm_met (adV := adV) (ti := ti) (D := D) hj hmx (i6 (by omega)) l hl hW hvs (by intro v hv; rcases List.mem_cons.mp hv with rfl | hv; exact (by simp [gm_sort]); exact hcat v hv) (by simpa using hlen) hP1 (hD1.self (sz := H.size)) hrv1 (fun q h => Or.inr h)
  have he := gm_wl_at (ti := ti) (α := f α) (K := K1) (R := R1) (M := M1) hk1.1 hk1.2
  rw [gm_en_obj hK1] at he
  obtain ⟨T, N, hcs, -⟩ := gm_cs_get hci
  have hcode : gm_cwd mj = .code (gm_mn mj) (gm_bc mj) (gm_ml mj) (gm_rt mj) := by unfold gm_cwd; rw [if_pos (i6 (by omega))]
  have hwl : w1.length = as.length := by have := (gm_sr_at hw1).1; simpa using this
  have hG : GoodIn gm_T (wsV (gm_rn (gm_ow mi)) ix (gm_mn mj).cls (gm_mn mj) (gm_cwd mj :: gm_T)) := by
    intro w hw
    refine ⟨?_, ?_⟩
    · simp only [wsV, List.cons_append, List.nil_append, List.mem_cons] at hw
      rcases hw with rfl | rfl | rfl | rfl | rfl | hw
      · exact i2 (by omega)
      · exact (i3 rfl).1
      · exact (i3 rfl).2
      · exact i1
      · exact j1
      · exact hw
    · simp only [wsV, List.cons_append, List.nil_append, List.mem_cons] at hw
      rcases hw with rfl | rfl | rfl | rfl | rfl | hw
      · exact Or.inl rfl
      · exact Or.inl rfl
      · exact Or.inl rfl
      · exact Or.inl rfl
      · exact (gm_T_good _ j1).2
      · exact (gm_T_good _ hw).2
  rw [gm_rf_pos s1.1 (Nat.lt_of_le_of_lt s1.2 hRv.1), ← s2]
  refine gm_tailS (bc' := bc') (bs' := bs') hs hcx hev hd hd2 hmc hms hA hxt hb1 hb2 hc1 hc2 hP hD hSv hL hS2 hA1 (a := (Value.ref (f α k1) :: w1.reverse).toArray) ?_
  refine vx_runV (As := w1.reverse) (n := gm_na mj) (index := ix) (C := (gm_mn mj).cls) ⟨hx, hb, hml, hown, hts⟩ hM (cwV (rm := { frames := d', cells := bc', slots := bs', locals := d' * 300 }) (gm_na mj) hts hG (by rw [hcode]) rfl rfl ⟨rfl, j3.1, j3.2, j4⟩ ⟨by show d' + 1 ≤ _; omega, by show 8 + (gm_ml mj + 11) + d' * 300 ≤ _; omega⟩) ⟨gm_blind, ?_, fun U hU hWm => ⟨rfl, hU, gm_Ev_to hev hWm (by rw [hU]; exact hSv.1) (fun a h1 h2 => by rw [hU]; exact hSv.2.1 a h1 h2) hA1, va_K.moved hWm.alike hKn⟩⟩ rfl (by rw [List.length_reverse, hwl, hna]) ?_ (by rw [List.reverse_reverse]) (lv_room (by rw [gm_sum_eq hS2]; exact hst)) hdg ⟨by omega, by omega⟩
  · have := va_recv hKn hP1 hcs he
    rw [hcn] at this
    exact this
  · exact hL.2.choose_spec.1.1
/-- arguments: numbers, and cells under their own numbers -/
def gm_ar (ρ : Nat → Nat) (n1 : Nat) : List gm_V → List gm_V → Prop
  | [], bs => bs = []
  | a :: as, bs => ∃ b bs', bs = b :: bs' ∧ ((∃ x, a = gm_vi x ∧ b = gm_vi x) ∨ ∃ k, (1 ≤ k ∧ k ≤ n1) ∧ a = gm_vr k ∧ b = gm_vr (ρ k)) ∧ gm_ar ρ n1 as bs'
theorem gm_ar_s {ti : Nat → ClassId} {ρ : Nat → Nat} {n1 n : Nat} {α1 α adK : Nat → Nat} {K1 K : gm_K} {R1 R : gm_R} {M1 M : gm_M} (hs : gm_sbw ti ρ n1 α1 K1 R1 M1 n α K R M) (hn : n < 100000) (hn1 : n1 < 100000) : ∀ {as bs : List gm_V} {ws : List Value}, gm_ar ρ n1 as bs → gm_sr α adK n bs ws → gm_sr α1 adK n1 as ws ∧ (∀ v ∈ as, ¬ gm_sort v = 1) ∧ as.length = bs.length := by
  intro as
  induction as with
  | nil => intro bs ws h h2; cases h; exact ⟨h2, (fun _ h => nomatch h), rfl⟩
  | cons a as ih =>
    intro bs ws h h2
    obtain ⟨b, bs', rfl, hab, h⟩ := h
    obtain ⟨w, ws', rfl, hw, h2⟩ := h2
    obtain ⟨i1, i2, i3⟩ := ih h h2
    refine ⟨⟨w, ws', rfl, ?_, i1⟩, fun v hv => ?_, by rw [List.length_cons, List.length_cons, i3]⟩
    · rcases hab with ⟨x, rfl, rfl⟩ | ⟨k, hk, rfl, rfl⟩
      · exact hw
      · obtain ⟨s1, s2, -⟩ := hs k hk.1 hk.2
        obtain ⟨rfl, -⟩ := hw
        refine ⟨?_, Or.inl hk.2⟩
        rw [gm_rf_pos s1.1 (Nat.lt_of_le_of_lt s1.2 hn), gm_rf_pos hk.1 (Nat.lt_of_le_of_lt hk.2 hn1), s2]
    · rcases List.mem_cons.mp hv with rfl | hv
      · rcases hab with ⟨x, rfl, -⟩ | ⟨k, -, rfl, -⟩ <;> simp [gm_sort]
      · exact i2 v hv
theorem gm_c_statS {ix mj d' bc' bs' n1 : Nat} {as1 as : List gm_V} {ρ : Nat → Nat} {f : (Nat → Nat) → Nat → Nat} {K1 : gm_K} {R1 : gm_R} {M1 : gm_M} (hs : ∀ (ti : Nat → ClassId) (α : Nat → Nat), gm_sbw ti ρ n1 (f α) K1 R1 M1 n α K R M) (hinj : ∀ i j, 1 ≤ i → i ≤ n1 → 1 ≤ j → j ≤ n1 → ρ i = ρ j → i = j) (hrv1 : gm_Rv n1 R1) (har : gm_ar ρ n1 as1 as) (h : gm_at mi pc = some (.invokestatic ix)) (hc : gm_cal (gm_ow mi) ix = some (5, mj)) (hmx : gm_ow mj ≠ gm_mxi) (hhj : ¬ gm_hh mj = []) (hna : as1.length = gm_na mj) (hlen : as1.length ≤ gm_ml mj) (hst : (st.map gm_cat).sum ≤ 8) (hd' : d' + 1 ≤ d) (hb1 : bc' ≤ bc) (hb2 : bs' ≤ bs)
    (hW : gm_Wp X LX d' bc' bs' mj 0 (gm_ent mj as1) [] n1 K1 R1 M1 (gm_owe X LX d (bc - bc') (bs - bs') mi (pc + 3) L st ρ f n1 n K R M Q)) : gm_Wp X LX d bc bs mi pc L (as.reverse ++ st) n K R M Q := by
  intro p l e Rm s m args below meth c D ti adK adV A α0 n0 mc ms hcx hev hd hd2 hmc hms hA α H locs cells slots ls sv hxt hc1 hc2 hR hL hS
  obtain ⟨w1, sv2, rfl, hw1, hS2⟩ := gm_sr_app hS
  have hdg := gm_dec hcx h rfl
  obtain ⟨hx, hb, hml, hown, -, -, hts, -, hl, -⟩ := id hcx
  obtain ⟨hKn, hP, hD, hSv, hRv⟩ := id hR
  obtain ⟨hj, i1, i2, -, -, i5, i6, -⟩ := gm_cal_spec hc
  obtain ⟨j1, -, j3, j4, j5, -⟩ := gm_mck_spec hj
  have hs := hs ti α
  have hP1 := gm_sbw_P hs hP
  have hD1 := gm_sbw_D hs hinj hD
  have hA1 := gm_sub_A hD1 hSv hA
  have hvb : gm_sr α adK n as w1.reverse := by have := gm_sr_rev hw1; rwa [List.reverse_reverse] at this
  obtain ⟨hvs, hcat, hle⟩ := gm_ar_s hs hRv.1 hrv1.1 har hvb
  have hM := gm_metH (adV := adV) (ti := ti) (D := D) hj hmx hhj l hl hW hvs hcat hlen hP1 (hD1.self (sz := H.size)) hrv1 (fun q h => Or.inr h)
  have hcode : gm_cwd mj = .codeWith (gm_mn mj) (gm_bc mj) (gm_ml mj) (gm_rt mj) (gm_hh mj) := by unfold gm_cwd; rw [if_neg hhj]
  have hwl : w1.length = as1.length := by have := (gm_sr_at hw1).1; rw [hle]; simpa using this
  have hpre : PreS s H (va_Pc w1.reverse (fun U => U.heap = H ∧ gm_Ev X LX adK adV (va_A (gm_wl ti (f α) n1 K1 R1 M1) H.size) U ∧ va_K D gm_cs (gm_ty ti) U)) w1.reverse := ⟨gm_blind, fun U hU hWm => ⟨rfl, hU, gm_Ev_to hev hWm (by rw [hU]; exact hSv.1) (fun a h1 h2 => by rw [hU]; exact hSv.2.1 a h1 h2) hA1, va_K.moved hWm.alike hKn⟩⟩
  refine gm_tailS (bc' := bc') (bs' := bs') hs hcx hev hd hd2 hmc hms hA hxt hb1 hb2 hc1 hc2 hP hD hSv hL hS2 hA1 (a := w1.reverse.toArray) ?_
  have hR1 : d' + 1 ≤ Rm.frames ∧ 8 + (gm_ml mj + 11) + d' * 300 ≤ Rm.locals := ⟨by omega, by omega⟩
  have hroom := lv_room (m := m) (pc := pc) (ls := ls) (rest := w1 ++ sv2) (st := sv2) (by rw [gm_sum_eq hS2]; exact hst)
  have hG9 : GoodIn gm_T (va_wsS (gm_rn (gm_ow mi)) ix (gm_mn mj) (gm_cwd mj :: gm_T)) := by
    intro w hw
    simp only [va_wsS, List.cons_append, List.nil_append, List.mem_cons] at hw
    rcases hw with rfl | rfl | rfl | rfl | hw
    all_goals first | exact gm_T_good _ i1 | exact gm_T_good _ (i2 (by omega)) | exact gm_T_good _ (i5 (Or.inr rfl)) | exact gm_T_good _ j1 | exact gm_T_good _ hw
  exact vx_runSX (hh := gm_hh mj) (As := w1.reverse) (n := gm_na mj) (index := ix) ⟨hx, hb, hml, hown, hts⟩ hM (vx_cwSW (rm := { frames := d', cells := bc', slots := bs', locals := d' * 300 }) (gm_na mj) hts hG9 (by rw [hcode]) rfl rfl ⟨j3.1, j3.2, j4⟩ hR1) hpre rfl (by rw [List.length_reverse, hwl, hna]) hL.2.choose_spec.1.1 (by rw [List.reverse_reverse]) hroom hdg ⟨by omega, by omega⟩
end SUB
