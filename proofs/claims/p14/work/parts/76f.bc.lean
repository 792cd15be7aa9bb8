/-! A CALL, BY ITS ROW: from the world between the calls to the world between the calls. -/
/-- rows by the numbers they are for -/
def bc_bx : List ck_A → List (Int × Int)
  | .inl b :: l => (b.1, b.2.1) :: bc_bx l
  | _ => []
def bc_box (S : ck_Sum) : List (Int × Int) := bc_bx S.2.2.1.tail
def bc_in : List (Int × Int) → List Int → Prop
  | [], [] => True
  | b :: bs, x :: xs => (b.1 ≤ x ∧ x ≤ b.2) ∧ bc_in bs xs
  | _, _ => False
def bc_cov : Nat → List (Int × Int) → List (List (Int × Int)) → Bool
  | 0, _, _ => false
  | _ + 1, [], rows => rows.any fun r => r.isEmpty
  | f + 1, d :: ds, rows => decide (d.2 < d.1) || (let A := rows.filterMap (fun r => match r with
      | b :: t => if b.1 ≤ d.1 ∧ d.1 ≤ b.2 then some (b.2, t) else none
      | [] => none)
    let e := A.foldl (fun m q => min m q.1) d.2
    bc_cov f ds (A.map fun q => q.2) && bc_cov f ((e + 1, d.2) :: ds) rows)
theorem bc_min : ∀ {A : List (Int × List (Int × Int))} {m : Int}, A.foldl (fun m q => min m q.1) m ≤ m ∧ ∀ q ∈ A, A.foldl (fun m q => min m q.1) m ≤ q.1 := by
  intro A
  induction A with
  | nil => intro m; exact ⟨Int.le_refl _, fun _ h => nomatch h⟩
  | cons a A ih =>
    intro m
    rw [List.foldl_cons]
    obtain ⟨h1, h2⟩ := ih (m := min m a.1)
    refine ⟨by omega, fun q hq => ?_⟩
    rcases List.mem_cons.mp hq with rfl | hq
    · omega
    · exact h2 q hq
theorem bc_cov_s : ∀ (f : Nat) (ds : List (Int × Int)) (rows : List (List (Int × Int))) (xs : List Int), bc_cov f ds rows = true → bc_in ds xs → ∃ r ∈ rows, bc_in r xs := by
  intro f
  induction f with
  | zero => intro ds rows xs h _; cases h
  | succ f ih =>
    intro ds rows xs h hx
    match ds, xs, hx with
    | [], [], _ =>
      obtain ⟨r, hr, h2⟩ := List.any_eq_true.mp h
      refine ⟨r, hr, ?_⟩
      rw [List.isEmpty_iff.mp h2]
      trivial
    | d :: ds, x :: xs, ⟨hd, hx⟩ =>
      simp only [bc_cov, Bool.or_eq_true, Bool.and_eq_true, decide_eq_true_eq] at h
      rcases h with h | ⟨h1, h2⟩
      · omega
      · by_cases he : x ≤ (rows.filterMap (fun r => match r with
          | b :: t => if b.1 ≤ d.1 ∧ d.1 ≤ b.2 then some (b.2, t) else none
          | [] => none)).foldl (fun m q => min m q.1) d.2
        · obtain ⟨t, ht, h3⟩ := ih _ _ _ h1 hx
          obtain ⟨q, hq, rfl⟩ := List.mem_map.mp ht
          have hq2 := (bc_min (m := d.2)).2 q hq
          obtain ⟨r, hr, h4⟩ := List.mem_filterMap.mp hq
          match r, h4 with
          | b :: t, h4 =>
            simp only at h4
            split at h4
            · rename_i hb
              cases h4
              exact ⟨_, hr, ⟨by omega, Int.le_trans he hq2⟩, h3⟩
            · cases h4
        · exact ih _ _ _ h2 ⟨by constructor <;> omega, hx⟩
/-- a row's arguments: a cell, numbers, perhaps the cell 245 -/
def bc_aok : List ck_A → Bool → Bool
  | [], t => !t
  | .inl b :: l, t => b.2.2.isEmpty && bc_aok l t
  | .inr (.inr (.inl k)) :: l, t => t && (k == 245 && l.isEmpty)
  | _, _ => false
def bc_ar0 (k1 : Nat) (t : Bool) : List ck_A → Bool
  | .inr (.inr (.inl k)) :: l => k == k1 && bc_aok l t
  | _ => false
def bc_args (S : ck_Sum) (k1 : Nat) (t : Bool) : Bool := bc_ar0 k1 t S.2.2.1
def bc_as (xs : List Int) (t : Bool) : List gm_V := xs.map gm_vi ++ (if t = true then [gm_vr 245] else [])
theorem bc_gas {σ : Nat → Int} : ∀ {l : List ck_A} {xs : List Int} {t : Bool}, bc_aok l t = true → bc_in (bc_bx l) xs → (∀ x ∈ xs, gm_ir x) → ck_gas σ l (bc_as xs t) := by
  intro l
  induction l with
  | nil =>
    intro xs t ha h hx
    match xs, h with
    | [], _ =>
      cases t
      · rfl
      · cases ha
  | cons b l ih =>
    intro xs t ha h hx
    rcases b with b | b | k | k
    · simp only [bc_aok, Bool.and_eq_true] at ha
      match xs, h with
      | x :: xs, ⟨h1, h2⟩ =>
        refine ⟨_, _, rfl, ⟨x, rfl, hx x List.mem_cons_self, h1.1, h1.2, ?_⟩, ih ha.2 h2 (fun y hy => hx y (List.mem_cons_of_mem _ hy))⟩
        rw [List.isEmpty_iff.mp ha.1]
        exact fun _ h => nomatch h
    · cases ha
    · simp only [bc_aok, Bool.and_eq_true, beq_iff_eq] at ha
      obtain ⟨rfl, rfl, h9⟩ := ha
      rw [List.isEmpty_iff.mp h9]
      match xs, h with
      | [], _ => exact ⟨_, _, rfl, rfl, rfl⟩
    · cases ha
theorem bc_gas1 {σ : Nat → Int} {l0 : List ck_A} {k1 : Nat} {t : Bool} {xs : List Int} (ha : bc_ar0 k1 t l0 = true) (h : bc_in (bc_bx l0.tail) xs) (hx : ∀ x ∈ xs, gm_ir x) : ck_gas σ l0 (gm_vr k1 :: bc_as xs t) := by
  rcases l0 with _ | ⟨b, l⟩
  · cases ha
  · rcases b with b | b | k | k
    · cases ha
    · cases ha
    · have ha : (k == k1 && bc_aok l t) = true := ha
      simp only [Bool.and_eq_true, beq_iff_eq] at ha
      obtain ⟨rfl, ha2⟩ := ha
      exact ⟨_, _, rfl, rfl, bc_gas ha2 h hx⟩
    · cases ha
theorem bc_gas2 {σ : Nat → Int} {S : ck_Sum} {k1 : Nat} {t : Bool} {xs : List Int} (ha : bc_args S k1 t = true) (h : bc_in (bc_box S) xs) (hx : ∀ x ∈ xs, gm_ir x) : ck_gas σ S.2.2.1 (gm_vr k1 :: bc_as xs t) := bc_gas1 ha h hx
/-- what a row takes for granted: laws by their codes, numbers by their types and names -/
noncomputable def bc_f (O : gm_Or) (z : Nat) (F : ck_F) : Bool := F.1.isEmpty && (F.2.1.all (fun q => decide (q.1 ∈ bg_ss ∧ q.2.1 = 8 ∧ q.2.2 = if q.1 = 3 then z else 100000 + q.1)) && F.2.2.all (fun q => decide (q.2.1 = q.2.2.1) && ((match gm_tyr O q.1 q.2.1 q.2.1 with
  | some t => decide (q.2.2.2.1 ≤ t.1) && decide (t.2 ≤ q.2.2.2.2.1)
  | none => false) && q.2.2.2.2.2.all (fun s => decide (s.2 = 0 ∧ s.1 < 1000000) && O.2.2.nm.any (fun p => decide (p = (s.1, q.1, q.2.1)))))))
theorem bc_lf {z g1 s : Nat} (h : s ∈ bg_ss) : bs_R z g1 s 8 = if s = 3 then z else 100000 + s := by
  unfold bs_R
  cases h2 : p2_O.2.1 s 8 with
  | some r => exact absurd ⟨h, rfl⟩ (bg_rfo h2).2.2
  | none =>
    show (if s ∈ bg_ss ∧ (8 : Int) = 8 then _ else _) = _
    rw [if_pos ⟨h, rfl⟩]
theorem bc_f_s {O : gm_Or} {z g1 n : Nat} {F : ck_F} {σ : Nat → Int} {K : gm_K} {M : gm_M} (h : bc_f O z F = true) (hF : gm_Fx O n K (bs_R z g1) M) (hn : 245 ≤ n) (hσ : ∀ q ∈ O.2.2.nm, σ q.1 = M q.2.1 q.2.2) : ck_gf σ F n K (bs_R z g1) M := by
  simp only [bc_f, Bool.and_eq_true] at h
  obtain ⟨h1, h2, h3⟩ := h
  refine ⟨(fun q hq => by rw [List.isEmpty_iff.mp h1] at hq; cases hq), fun q hq => ?_, fun q hq => ?_⟩
  · obtain ⟨a1, a2, a3⟩ := of_decide_eq_true (List.all_eq_true.mp h2 q hq)
    have := bg_ssl a1
    exact ⟨by omega, by rw [a2, a3]; exact bc_lf a1⟩
  · have h4 := List.all_eq_true.mp h3 q hq
    simp only [Bool.and_eq_true, decide_eq_true_eq] at h4
    obtain ⟨h5, h6, h7⟩ := h4
    cases ht : gm_tyr O q.1 q.2.1 q.2.1 with
    | none => rw [ht] at h6; cases h6
    | some t =>
      rw [ht] at h6
      simp only [Bool.and_eq_true, decide_eq_true_eq] at h6
      obtain ⟨b1, b2⟩ := gm_tyr_s hF ht
      refine ⟨b1, fun j j1 j2 => ?_⟩
      have e : j = q.2.1 := by omega
      subst e
      obtain ⟨b3, b4⟩ := b2 q.2.1 (Int.le_refl _) (Int.le_refl _)
      refine ⟨b3, by omega, by omega, fun s hs => ?_⟩
      have h8 := List.all_eq_true.mp h7 s hs
      simp only [Bool.and_eq_true, decide_eq_true_eq] at h8
      obtain ⟨⟨c1, c2⟩, c3⟩ := h8
      obtain ⟨p, hp, c4⟩ := List.any_eq_true.mp c3
      have c4 := of_decide_eq_true c4
      have := hσ p hp
      rw [c4] at this
      exact ck_gt1 (s := s.1) (z := s.2) c2 (by rw [this, c1, Int.add_zero]) s List.mem_cons_self
noncomputable def bc_ok (O : gm_Or) (z g1 : Nat) (S : ck_Sum) : Bool := decide (S.2.1 = 245 + 4 * g1) && (bc_f O z S.2.2.2.1 && (S.2.2.2.2.1.1.all (fun w => decide (w.1 ≤ 245)) && (S.2.2.2.2.1.2.all (fun w => decide (w.1 ∈ bg_ss ∧ w.2 = 8)) && S.2.2.2.2.2.all (fun oc => (match oc.1 with
  | .inr none => true
  | .inr (some (.inl _)) => true
  | _ => false) && (decide (oc.2.1 = 245 + 4 * g1) && S.2.2.2.2.1.2.all (fun w => oc.2.2.2.1.any (fun q => decide (q.1 = w.1 ∧ q.2.1 = 8 ∧ (q.2.2 = 0 ∨ (q.2.2 = 246 ∧ g1 = 1) ∨ (100000 ≤ q.2.2 ∧ q.2.2 - 100000 ∈ bg_ss))))))))))
section BCC
variable {X : Int → Int} {LX : Nat} {O : gm_Or} {g z g1 : Nat} {la : Nat → Nat} {K K' K1 : gm_K} {R R' : gm_R} {M M' M1 : gm_M} {S : ck_Sum}
theorem bc_rt {σ : Nat → Int} {o : gm_O} {n' : Nat} (h : bc_ok O z g1 S = true) (hz : bs_ok la z g1) (hO : ∀ n K R M, gm_Fx O n K R M → gm_Fx p2_O n K R M) (hq : ck_Q O σ S.2.2.2.2.1 (245 + 4 * g1) K1 (bs_R z g1) M1 S.2.2.2.2.2 o n' K' R' M') : bs_rt z g1 0 K1 M1 n' K' R' M' ∧ ∃ oc ∈ S.2.2.2.2.2, ∃ u, o = .inl u ∧ (u = none ∨ ∃ x, u = some (gm_vi x)) ∧ ck_ho σ oc.1 (.inl u) ∧ ck_gf σ oc.2.2 n' K' R' M' := by
  obtain ⟨hF, hfr, oc, hoc, ho, hn, hf⟩ := hq
  simp only [bc_ok, Bool.and_eq_true, decide_eq_true_eq] at h
  obtain ⟨-, -, h3, h4, h5⟩ := h
  have h6 := List.all_eq_true.mp h5 oc hoc
  simp only [Bool.and_eq_true, decide_eq_true_eq] at h6
  obtain ⟨h7, h8, h9⟩ := h6
  refine ⟨⟨⟨Or.inl rfl, by omega⟩, hO _ _ _ _ hF, fun k hk => hfr.2.1 k hk, fun k j k1 k2 => ?_, fun k j hk hj => ?_, fun s hs => ?_, fun h => by omega⟩, oc, hoc, ?_⟩
  · refine hfr.2.2.1 k j k2 fun w hw hh => ?_
    have := of_decide_eq_true (List.all_eq_true.mp h3 w hw)
    omega
  · refine hfr.2.2.2 k j hk fun hm => hj ?_
    exact of_decide_eq_true (List.all_eq_true.mp h4 (k, j) hm)
  · have hs2 := bg_ssl hs
    by_cases hm : (s, (8 : Int)) ∈ S.2.2.2.2.1.2
    · obtain ⟨q, hq, h10⟩ := List.any_eq_true.mp (List.all_eq_true.mp h9 _ hm)
      obtain ⟨e1, e2, e3⟩ := of_decide_eq_true h10
      have e4 := (hf.2.1 q hq).2
      have e1 : q.1 = s := e1
      rw [e1, e2] at e4
      rw [e4]
      rcases e3 with e3 | e3 | e3
      · exact Or.inl e3
      · exact Or.inr (Or.inl ⟨e3.1, Or.inl e3.2⟩)
      · exact Or.inr (Or.inr ⟨_, e3.2, by omega⟩)
    · have e : R' s 8 = bs_R z g1 s 8 := hfr.2.2.2 s 8 (by omega) hm
      rw [e, bc_lf hs]
      by_cases e3 : s = 3
      · rw [if_pos e3]
        rcases hz with h | h | h
        · exact Or.inl h.1
        · exact Or.inr (Or.inr ⟨3, by decide, h.1⟩)
        · exact Or.inr (Or.inl ⟨h.1, Or.inl h.2.1⟩)
      · rw [if_neg e3]
        exact Or.inr (Or.inr ⟨s, hs, rfl⟩)
  · rcases hoc1 : oc.1 with x | a
    · rw [hoc1] at h7
      cases h7
    · rcases a with _ | a
      · rw [hoc1] at ho
        rcases o with (_ | v) | x
        · exact ⟨none, rfl, Or.inl rfl, trivial, hf⟩
        · exact absurd ho id
        · exact absurd ho id
      · rcases a with b | a
        · rw [hoc1] at ho
          rcases o with (_ | v) | x
          · exact absurd ho id
          · obtain ⟨y, rfl, h10⟩ := ho
            exact ⟨some (gm_vi y), rfl, Or.inr ⟨y, rfl⟩, ⟨y, rfl, h10⟩, hf⟩
          · exact absurd ho id
        · rw [hoc1] at h7
          cases h7
/-- what the row says, and all that comes behind -/
def bc_K (X : Int → Int) (LX d bc bs mi pc : Nat) (L : gm_L) (st : List gm_V) (Q : gm_Q) (O : gm_Or) (z g1 g : Nat) (la : Nat → Nat) (K : gm_K) (M : gm_M) (S : ck_Sum) : Prop := ∀ oc ∈ S.2.2.2.2.2, ∀ (σ : Nat → Int) (u : Option gm_V) (n' : Nat) (K' : gm_K) (R' : gm_R) (M' : gm_M), (∀ q ∈ O.2.2.nm, σ q.1 = bs_M la M q.2.1 q.2.2) → ck_ho σ oc.1 (.inl u) → ck_gf σ oc.2.2 n' K' R' M' → gm_Fx O n' K' R' M' → ck_fr S.2.2.2.2.1 (245 + 4 * g1) (bs_K la K) (bs_R z g1) (bs_M la M) n' K' R' M' → ∀ g' la' K2 R2 M2, bg g' la' K2 R2 M2 → g' ≤ g + 1 → (∀ k j, k ≤ 245 → M2 k j = M' k j) → gm_Wp X LX d bc bs mi pc L (u.toList ++ st) (245 + 4 * g') K2 R2 M2 Q
theorem bc_own {d bc bs mi pc mj d' bc' bs' : Nat} {L : gm_L} {st : List gm_V} {Q : gm_Q} {vs : List gm_V} (hb : bg g la K R M) (hz : bs_ok la z g1) (hg : g < 10000) (hnm : ck_nmu O) (hO : ∀ n K R M, gm_Fx O n K R M → gm_Fx p2_O n K R M) (hF : gm_Fx O (245 + 4 * g1) (bs_K la K) (bs_R z g1) (bs_M la M)) (hS : ck_Ok O X LX mj S) (hck : bc_ok O z g1 S = true) (h1 : S.1.1 ≤ d') (h2 : S.1.2.1 ≤ bc') (h3 : S.1.2.2 ≤ bs') (hvs : ∀ σ, ck_gas σ S.2.2.1 vs) (k : bc_K X LX d bc bs mi pc L st Q O z g1 g la K M S) : gm_Wp X LX d' bc' bs' mj 0 (gm_ent mj vs) [] (245 + 4 * g1) (bs_K la K) (bs_R z g1) (bs_M la M) (gm_owe X LX d bc bs mi pc L st (bg_rho (la 3)) (bg_f la) (245 + 4 * g1) (245 + 4 * g) K R M Q) := by
  have hck2 := hck
  simp only [bc_ok, Bool.and_eq_true, decide_eq_true_eq] at hck2
  have hσ := ck_sn_s (σ := fun _ => 0) (M := bs_M la M) hnm
  refine gm_Wp_wk (Nat.le_refl _) h2 h3 (gm_Wp_mono (fun o n' K' R' M' hq => ?_) (hS d' (ck_sn O (fun _ => 0) (bs_M la M)) vs _ _ _ _ h1 hck2.1.symm (hvs _) hσ hF (bc_f_s hck2.2.1 hF (by omega) hσ)))
  obtain ⟨hrt, oc, hoc, u, rfl, hu, ho, hf⟩ := bc_rt hck hz hO hq
  exact bg_owe hb hz hg hrt hu (fun g' la' K2 R2 M2 hb2 hg2 hM2 => k oc hoc _ u n' K' R' M' hσ ho hf hq.1 hq.2.1 g' la' K2 R2 M2 hb2 hg2 hM2)
theorem bc_hin (hz : bs_ok la z g1) (i j : Nat) (_ : 1 ≤ i) (h2 : i ≤ 245 + 4 * g1) (_ : 1 ≤ j) (h4 : j ≤ 245 + 4 * g1) (h : bg_rho (la 3) i = bg_rho (la 3) j) : i = j := bg_inj i j h (by rcases hz with h | h | h <;> omega) (by rcases hz with h | h | h <;> omega)
/-- a call on the object k1 itself -/
theorem bc_virt {ix mj k1 ci mi pc d bc bs : Nat} {L : gm_L} {st : List gm_V} {Q : gm_Q} {xs : List Int} (hb : bg g la K R M) (hz : bs_ok la z g1) (hg : g < 10000) (hnm : ck_nmu O) (hO : ∀ n K R M, gm_Fx O n K R M → gm_Fx p2_O n K R M) (hF : gm_Fx O (245 + 4 * g1) (bs_K la K) (bs_R z g1) (bs_M la M)) (hk1 : 1 ≤ k1 ∧ k1 ≤ 245) (hK1 : (K k1).1 = ci + 4) (h : gm_at mi pc = some (.invokevirtual ix)) (hc : gm_cal (gm_ow mi) ix = some (0, mj)) (hmx : gm_ow mj ≠ gm_mxi) (hci : ci < 12) (hcn : gm_cn ci = (gm_mn mj).cls) (hna : xs.length = gm_na mj) (hlen : xs.length + 1 ≤ gm_ml mj) (hst : (st.map gm_cat).sum ≤ 8) (hS : ck_Ok O X LX mj S) (hck : bc_ok O z g1 S = true) (h1 : S.1.1 + 1 ≤ d) (h2 : S.1.2.1 ≤ bc) (h3 : S.1.2.2 ≤ bs) (hvs : ∀ σ, ck_gas σ S.2.2.1 (gm_vr k1 :: xs.map gm_vi)) (k : bc_K X LX d (bc - S.1.2.1) (bs - S.1.2.2) mi (pc + 3) L st Q O z g1 g la K M S) : gm_Wp X LX d bc bs mi pc L ((xs.map gm_vi).reverse ++ gm_vr k1 :: st) (245 + 4 * g) K R M Q := by
  have er : bg_rho (la 3) k1 = k1 := by unfold bg_rho; rw [if_pos (by omega)]
  have := gm_c_virtS (k1 := k1) (as := xs.map gm_vi) (d' := S.1.1) (bc' := S.1.2.1) (bs' := S.1.2.2) (fun ti α => bg_sbw hb hz ti α) (fun i j a b c d e => bc_hin hz i j a b c d e) (bs_Rv hz) ⟨hk1.1, by omega⟩ (show (bs_K la K k1).1 = ci + 4 by unfold bs_K; rw [er]; exact hK1) h hc hmx hci hcn (by rw [List.length_map]; exact hna) (fun v hv => by obtain ⟨x, -, rfl⟩ := List.mem_map.mp hv; exact ⟨x, rfl⟩) (by rw [List.length_map]; exact hlen) hst h1 h2 h3 (bc_own hb hz hg hnm hO hF hS hck (Nat.le_refl _) (Nat.le_refl _) (Nat.le_refl _) hvs k)
  rw [er] at this
  exact this
/-- a call by one of the law's own methods -/
theorem bc_stat {ix mj mi pc d bc bs : Nat} {L : gm_L} {st : List gm_V} {Q : gm_Q} {xs : List Int} (hb : bg g la K R M) (hz : bs_ok la z g1) (hg : g < 10000) (hnm : ck_nmu O) (hO : ∀ n K R M, gm_Fx O n K R M → gm_Fx p2_O n K R M) (hF : gm_Fx O (245 + 4 * g1) (bs_K la K) (bs_R z g1) (bs_M la M)) (h : gm_at mi pc = some (.invokestatic ix)) (hc : gm_cal (gm_ow mi) ix = some (5, mj)) (hmx : gm_ow mj ≠ gm_mxi) (hhj : ¬ gm_hh mj = []) (hna : xs.length + 2 = gm_na mj) (hlen : xs.length + 2 ≤ gm_ml mj) (hst : (st.map gm_cat).sum ≤ 8) (hS : ck_Ok O X LX mj S) (hck : bc_ok O z g1 S = true) (h1 : S.1.1 + 1 ≤ d) (h2 : S.1.2.1 ≤ bc) (h3 : S.1.2.2 ≤ bs) (hvs : ∀ σ, ck_gas σ S.2.2.1 (gm_vr 1 :: bc_as xs true)) (k : bc_K X LX d (bc - S.1.2.1) (bs - S.1.2.2) mi (pc + 3) L st Q O z g1 g la K M S) : gm_Wp X LX d bc bs mi pc L (gm_vr 245 :: ((xs.map gm_vi).reverse ++ gm_vr 1 :: st)) (245 + 4 * g) K R M Q := by
  have ha : ∀ xs : List Int, gm_ar (bg_rho (la 3)) (245 + 4 * g1) (bc_as xs true) (bc_as xs true) := by
    intro xs
    induction xs with
    | nil => exact ⟨_, _, rfl, Or.inr ⟨245, ⟨by decide, by omega⟩, rfl, by rfl⟩, rfl⟩
    | cons x xs ih => exact ⟨_, _, rfl, Or.inl ⟨x, rfl, rfl⟩, ih⟩
  have hl : (gm_vr 1 :: bc_as xs true).length = xs.length + 2 := by simp [bc_as]
  have := gm_c_statS (as1 := gm_vr 1 :: bc_as xs true) (as := gm_vr 1 :: bc_as xs true) (d' := S.1.1) (bc' := S.1.2.1) (bs' := S.1.2.2) (st := st) (fun ti α => bg_sbw hb hz ti α) (fun i j a b c d e => bc_hin hz i j a b c d e) (bs_Rv hz) ⟨_, _, rfl, Or.inr ⟨1, ⟨by decide, by omega⟩, rfl, by rfl⟩, ha xs⟩ h hc hmx hhj (by rw [hl]; exact hna) (by rw [hl]; exact hlen) hst h1 h2 h3 (bc_own hb hz hg hnm hO hF hS hck (Nat.le_refl _) (Nat.le_refl _) (Nat.le_refl _) hvs k)
  rw [show (gm_vr 1 :: bc_as xs true).reverse ++ st = gm_vr 245 :: ((xs.map gm_vi).reverse ++ gm_vr 1 :: st) by simp [bc_as]] at this
  exact this
/-- what a call sees keeps what always holds -/
theorem bs_F0 (hb : bg g la K R M) : gm_Fx p2_O 245 (bs_K la K) (bs_R z 0) (bs_M la M) := by
  obtain ⟨-, hF, -, -⟩ := hb
  have er : ∀ k, k < 246 → bg_rho (la 3) k = k := fun k h => by unfold bg_rho; rw [if_pos h]
  refine ⟨fun k q hq => ?_, fun k j r hq => ?_, fun k r hq => ?_, fun k r hq => ?_, ?_⟩
  · obtain ⟨a1, a2, a3⟩ := hF.1 k q hq
    have := bg_O1 hq
    exact ⟨a1, by omega, by unfold bs_K; rw [er k this]; exact a3⟩
  · obtain ⟨-, a2, -⟩ := bg_rfo hq
    refine ⟨a2, ?_⟩
    unfold bs_R
    rw [hq]
  · obtain ⟨a1, a2⟩ := hF.2.2.1 k r hq
    have := bg_tyk hq
    refine ⟨by omega, fun j j1 j2 => ?_⟩
    unfold bs_M
    rw [er k this]
    exact a2 j j1 j2
  · have := jfp_b hq
    by_cases hk : k ≤ 245
    · exact hk
    · have hq : r ∈ j_fp k := hq
      rw [show j_fp k = [] by unfold j_fp; rw [if_neg (by omega), if_neg (by omega), if_neg (by omega), if_neg (by omega)]] at hq
      cases hq
  · exact hF.2.2.2.2
theorem bs_F1 (hb : bg g la K R M) (h0 : ¬ la 3 = 0) : gm_Fx p2_OL 249 (bs_K la K) (bs_R 246 1) (bs_M la M) := by
  have h1 := bs_F0 (z := 246) hb
  obtain ⟨-, hF, hG, hl⟩ := hb
  have h3 := hl 3 (by decide)
  have er : ∀ t, t < 4 → bg_rho (la 3) (246 + t) = 246 + 4 * (la 3 - 1) + t := fun t h => by unfold bg_rho; rw [if_neg (by omega)]; omega
  have hg := hG (la 3 - 1) (by omega)
  obtain ⟨⟨k6, ⟨N, hN, k7⟩, k8, k9⟩, m0, m1, m3⟩ := hg
  have e6 := er 0 (by decide)
  have e7 := er 1 (by decide)
  have e8 := er 2 (by decide)
  have e9 := er 3 (by decide)
  refine pl_i (N := N) ?_ hN (by unfold bs_K; rw [show 246 = 246 + 0 by rfl, e6]; exact k6) (by unfold bs_K; rw [show 247 = 246 + 1 by rfl, e7]; exact k7) (by unfold bs_K; rw [show 248 = 246 + 2 by rfl, e8]; exact k8) (by unfold bs_K; rw [show 249 = 246 + 3 by rfl, e9]; exact k9) ?_ ?_ ?_ (by unfold bs_M; rw [show 248 = 246 + 2 by rfl, e8]; exact m0) (by unfold bs_M; rw [show 248 = 246 + 2 by rfl, e8]; exact m1) (by unfold bs_M; rw [show 248 = 246 + 2 by rfl, e8]; exact m3)
  · refine ⟨fun k q hq => ?_, fun k j r hq => ?_, fun k r hq => ?_, fun k r hq => ?_, h1.2.2.2.2⟩
    · obtain ⟨a1, a2, a3⟩ := h1.1 k q hq
      exact ⟨a1, by omega, a3⟩
    · obtain ⟨-, a2, -⟩ := bg_rfo hq
      refine ⟨by omega, ?_⟩
      unfold bs_R
      rw [hq]
    · obtain ⟨a1, a2⟩ := h1.2.2.1 k r hq
      exact ⟨by omega, a2⟩
    · have := h1.2.2.2.1 k r hq
      omega
  all_goals
    unfold bs_R
    rw [bg_no (by decide)]
    rfl
end BCC
