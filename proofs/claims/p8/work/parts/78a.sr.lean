/-! THE START: both constructors, the row of one long; then the world between the calls with no law yet. -/
/-- references that agree where they are looked at -/
noncomputable def nR_ok (n : Nat) (K : gm_K) (R R' : gm_R) : Prop := ∀ k, 1 ≤ k → k ≤ n → (∀ c j : Nat, (K k).1 = c + 4 → j < gm_nf c → gm_isr c j = true → R k j = R' k j) ∧ ((K k).1 = 3 → ∀ j : Nat, j < (K k).2 → R k j = R' k j)
theorem nR_at {D : va_G} {ti : Nat → ClassId} {α : Nat → Nat} {n k a : Nat} {K : gm_K} {R R' : gm_R} {M : gm_M} {H : Heap} (h : nR_ok n K R R') (h1 : 1 ≤ k) (h2 : k ≤ n) (hat : va_at D gm_cs (a, gm_en ti α K R M k) H) : va_at D gm_cs (a, gm_en ti α K R' M k) H := by
  obtain ⟨hc, h3⟩ := h k h1 h2
  by_cases e : (K k).1 = 3
  · have e1 : ∀ R : gm_R, gm_en ti α K R M k = .inl (ti 3, (K k).2, .inr (.inr (.inr (.inr fun j => gm_ro α (R k j))))) := fun R => by unfold gm_en; rw [e]
    rw [e1] at hat ⊢
    have hat : H[a]? = some (arrV (ti 3) (K k).2 (fun j => va_rf (gm_ro α (R k j)))) := hat
    show H[a]? = some (arrV (ti 3) (K k).2 (fun j => va_rf (gm_ro α (R' k j))))
    rw [hat]
    unfold arrV
    congr 3
    funext j
    show va_rf (gm_ro α (R k ((j.val : Nat) : Int))) = va_rf (gm_ro α (R' k ((j.val : Nat) : Int)))
    rw [h3 e j.val j.isLt]
  · rw [← bg_en2 (K := K) (K' := K) (R := R) (M := M) (M' := M) (α := α) (i := k) (k := k) rfl (fun _ => rfl) e (fun c j a1 a2 a3 => by rw [hc c j a1 a2 a3])]
    exact hat
theorem gm_Wp_nR {X : Int → Int} {LX d bc bs mi pc n : Nat} {L : gm_L} {st : List gm_V} {K : gm_K} {R R' : gm_R} {M : gm_M} {Q : gm_Q} (h : nR_ok n K R R') (hrv : gm_Rv n R') (hw : gm_Wp X LX d bc bs mi pc L st n K R' M Q) : gm_Wp X LX d bc bs mi pc L st n K R M Q := by
  intro p l e Rm s m args below meth c D ti adK adV A α0 n0 mc ms h1 h2 h3 h4 h5 h6 h7 α H locs cells slots ls sv h8 h9 h10 hR h12 h13
  refine hw p l e Rm s m args below meth c D ti adK adV A α0 n0 mc ms h1 h2 h3 h4 h5 h6 h7 α H locs cells slots ls sv h8 h9 h10 ?_ h12 h13
  obtain ⟨a1, a2, a3, a4, a5⟩ := hR
  refine ⟨a1, fun k q hq => ?_, ⟨fun i j p q hp hq e => ?_, fun k q hq => ?_⟩, a4, hrv⟩
  · obtain ⟨b1, rfl⟩ := gm_wl_get hq
    exact nR_at h (by omega) (by omega) (a2 k _ (gm_wl_at (k := k + 1) (by omega) b1))
  · obtain ⟨b1, rfl⟩ := gm_wl_get hp
    obtain ⟨c1, rfl⟩ := gm_wl_get hq
    exact a3.1 i j _ _ (gm_wl_at (k := i + 1) (by omega) b1) (gm_wl_at (k := j + 1) (by omega) c1) e
  · obtain ⟨b1, rfl⟩ := gm_wl_get hq
    have := a3.2 k _ (gm_wl_at (ti := ti) (α := α) (K := K) (R := R) (M := M) (k := k + 1) (by omega) b1)
    exact this
/-- a stretch whose numbers are known -/
noncomputable def st_cov (F : List (Nat × Int × Int × ck_I)) (a b : Int) : Nat → Int → Int → Bool
  | 0, _, _ => false
  | f + 1, lo, hi => decide (hi < lo) || (match fl_find F fun q => fl_if (fl_le q.2.1 lo) (fl_if (fl_le lo q.2.2.1) (fl_if (fl_le a q.2.2.2.1) (fl_le q.2.2.2.2.1 b) false) false) false with
    | some q => st_cov F a b f (q.2.2.1 + 1) hi
    | none => false)
noncomputable def st_k (F : List (Nat × Int × Int × ck_I)) (k : Nat) : List (Nat × Int × Int × ck_I) := fl_flt F fun q => Nat.beq q.1 k
theorem st_k_def {F : List (Nat × Int × Int × ck_I)} {k : Nat} : st_k F k = F.filter fun q => q.1 == k := by
  unfold st_k
  rw [fl_flt_eq]
  simp only [fl_beq]
theorem st_cov_s {σ : Nat → Int} {F : List (Nat × Int × Int × ck_I)} {n k : Nat} {M : gm_M} {a b : Int} (hF : ∀ q ∈ F, q.1 ≤ n ∧ ∀ j, q.2.1 ≤ j → j ≤ q.2.2.1 → gm_ir (M q.1 j) ∧ ck_gi σ q.2.2.2 (M q.1 j)) : ∀ (f : Nat) (lo hi : Int), st_cov (st_k F k) a b f lo hi = true → ∀ j, lo ≤ j → j ≤ hi → gm_ir (M k j) ∧ a ≤ M k j ∧ M k j ≤ b := by
  intro f
  induction f with
  | zero => intro lo hi h; cases h
  | succ f ih =>
    intro lo hi h j j1 j2
    simp only [st_cov, fl_find_eq, fl_and, fl_le_eq, Bool.or_eq_true, decide_eq_true_eq] at h
    rcases h with h | h
    · omega
    · cases hf : (st_k F k).find? fun q => decide (q.2.1 ≤ lo) && (decide (lo ≤ q.2.2.1) && (decide (a ≤ q.2.2.2.1) && decide (q.2.2.2.2.1 ≤ b))) with
      | none => rw [hf] at h; cases h
      | some q =>
        rw [hf] at h
        have hf2 := List.find?_some hf
        simp only [Bool.and_eq_true, decide_eq_true_eq] at hf2
        obtain ⟨e1, e2, e3, e4⟩ := hf2
        have hm := List.mem_filter.mp (st_k_def ▸ List.mem_of_find?_eq_some hf)
        have hk : q.1 = k := eq_of_beq hm.2
        by_cases hj : j ≤ q.2.2.1
        · have := (hF q hm.1).2 j (by omega) hj
          rw [hk] at this
          exact ⟨this.1, Int.le_trans e3 this.2.1, Int.le_trans this.2.2.1 e4⟩
        · exact ih _ _ h j (by omega) j2
/-- the table, by facts -/
noncomputable def st_T (F : ck_F) : Bool := (List.range 246).all fun k => match ck_tab p2_T k with
  | none => k == 0
  | some e => F.1.any (fun q => decide (q = (k, e.1))) && (e.2.1.all (fun r => F.2.1.any fun q => decide (q = (k, r.1, r.2))) && (let Fk := st_k F.2.2 k
    e.2.2.all fun t => decide (-2147483648 ≤ t.2.2.1) && (decide (t.2.2.2 ≤ 2147483647) && st_cov Fk t.2.2.1 t.2.2.2 400 t.1 t.2.1)))
theorem st_Fx {σ : Nat → Int} {F : ck_F} {K : gm_K} {R : gm_R} {M : gm_M} (hf : ck_gf σ F 245 K R M) (h : st_T F = true) (hJ : j_J p2_ty K M) : gm_Fx p2_O 245 K R M := by
  have key : ∀ k e, ck_tab p2_T k = some e → (1 ≤ k ∧ k ≤ 245) ∧ (F.1.any (fun q => decide (q = (k, e.1))) = true ∧ e.2.1.all (fun r => F.2.1.any fun q => decide (q = (k, r.1, r.2))) = true ∧ e.2.2.all (fun t => decide (-2147483648 ≤ t.2.2.1) && (decide (t.2.2.2 ≤ 2147483647) && st_cov (st_k F.2.2 k) t.2.2.1 t.2.2.2 400 t.1 t.2.1)) = true) := by
    intro k e he
    have hk : k < 246 := by
      by_cases h : k < 246
      · exact h
      · rw [lq_tab h] at he; cases he
    have h2 := List.all_eq_true.mp h k (List.mem_range.mpr hk)
    rw [he] at h2
    simp only [Bool.and_eq_true] at h2
    obtain ⟨q, hq, e1⟩ := List.any_eq_true.mp h2.1
    have := (hf.1 q hq).1
    rw [of_decide_eq_true e1] at this
    exact ⟨this, h2.1, h2.2.1, h2.2.2⟩
  refine ⟨fun k q hq => ?_, fun k j r hr => ?_, fun k r hr => ?_, fun k r hr => ?_, hJ⟩
  · have hq : (match ck_tab p2_T k with | some e => some e.1 | none => none) = some q := hq
    cases he : ck_tab p2_T k with
    | none => rw [he] at hq; cases hq
    | some e =>
      rw [he] at hq
      cases hq
      obtain ⟨h1, h2, -⟩ := key k e he
      obtain ⟨x, hx, e1⟩ := List.any_eq_true.mp h2
      have := (hf.1 x hx).2
      rw [of_decide_eq_true e1] at this
      exact ⟨h1.1, h1.2, this⟩
  · have hr : (match ck_tab p2_T k with | some e => e.2.1.lookup j | none => none) = some r := hr
    cases he : ck_tab p2_T k with
    | none => rw [he] at hr; cases hr
    | some e =>
      rw [he] at hr
      obtain ⟨h1, -, h3, -⟩ := key k e he
      obtain ⟨x, hx, e1⟩ := List.any_eq_true.mp (List.all_eq_true.mp h3 _ (bg_lk hr))
      have := (hf.2.1 x hx).2
      rw [of_decide_eq_true e1] at this
      exact ⟨h1.2, this⟩
  · have hr : r ∈ (match ck_tab p2_T k with | some e => e.2.2 | none => []) := hr
    cases he : ck_tab p2_T k with
    | none => rw [he] at hr; cases hr
    | some e =>
      rw [he] at hr
      obtain ⟨h1, -, -, h4⟩ := key k e he
      have h5 := List.all_eq_true.mp h4 r hr
      simp only [Bool.and_eq_true, decide_eq_true_eq] at h5
      refine ⟨h1.2, fun j j1 j2 => ?_⟩
      have := st_cov_s hf.2.2 _ _ _ h5.2.2 j j1 j2
      exact ⟨this.1, this.2⟩
  · have := jfp_b hr
    by_cases hk : k ≤ 245
    · exact hk
    · have hq : r ∈ j_fp k := hr
      rw [show j_fp k = [] by unfold j_fp; rw [if_neg (by omega), if_neg (by omega), if_neg (by omega), if_neg (by omega)]] at hq
      cases hq
/-- nothing but zeros keeps the standing conditions -/
theorem st_jcn {f : Int → Int} : ∀ m : Nat, (∀ l : Nat, l < m → f (124 + 7 * (l : Int)) = 0) → jcn f m = 0 := by
  intro m
  induction m with
  | zero => intro _; rfl
  | succ m ih =>
    intro h
    show jcn f m + (if f (124 + 7 * (m : Int)) < 0 then 1 else 0) = 0
    rw [ih (fun l hl => h l (by omega)), h m (by omega), if_neg (by omega)]
theorem st_jO {f : Int → Int} (h : ∀ j : Int, (j = 4 ∨ 14 ≤ j) → j ≤ 394 → f j = 0) : jO f := by
  refine ⟨?_, fun l hl h0 => ?_⟩
  · rw [st_jcn 24 (fun l hl => h _ (Or.inr (by omega)) (by omega)), h 14 (Or.inr (by omega)) (by omega), h 4 (Or.inl rfl) (by omega)]
    decide
  · rw [h _ (Or.inr (by omega)) (by omega)]
    exact Int.le_refl _
theorem st_jT {f : Int → Int} (h : f 0 = 0) : jT f := fun n h1 h2 h3 => by omega
theorem st_ty : p2_ty.all (fun r => decide (r.2.2.1 ≤ 0 ∧ 0 ≤ r.2.2.2)) = true := by decide +kernel
theorem st_J {K : gm_K} {M : gm_M} (h7 : ∀ j : Int, (j = 4 ∨ 14 ≤ j) → j ≤ 2092 → M 227 j = 0) (h8 : ∀ j : Int, 0 ≤ j → j ≤ 1243 → M 228 j = 0) (h9 : ∀ j : Int, 0 ≤ j → j ≤ 1243 → M 229 j = 0) (hA : ∀ j : Int, 0 ≤ j → j ≤ 4739 → M 230 j = 0) : j_J p2_ty K M := by
  refine ⟨⟨st_jO fun j h1 h2 => h7 j h1 (by omega), st_jO fun j h1 h2 => h8 j (by omega) (by omega), st_jO fun j h1 h2 => h9 j (by omega) (by omega), fun y y1 y2 => st_jO fun j h1 h2 => hA _ (by omega) (by omega)⟩, fun y y1 y2 r hr j j1 j2 j3 j4 => ?_, st_jT (h7 _ (Or.inr (by omega)) (by omega)), st_jT (h8 _ (by omega) (by omega)), st_jT (h9 _ (by omega) (by omega))⟩
  have := of_decide_eq_true (List.all_eq_true.mp st_ty r hr)
  rw [hA _ (by omega) (by omega)]
  exact ⟨⟨by decide, by decide⟩, this⟩
