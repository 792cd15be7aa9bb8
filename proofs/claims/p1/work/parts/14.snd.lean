/-! SOUNDNESS of the evaluation. -/
section GS
variable {O : gm_Or} {X : Int → Int} {LX d bc bs mi pc : Nat} {L : gm_L} {st : List gm_V} {n : Nat} {K : gm_K} {R : gm_R} {M : gm_M} {Q Q' : gm_Q} {P : List (Nat × gm_Pu)} {E : List (Nat × gm_Sc)}
theorem gm_Wp_mono (hQ : ∀ o n K R M, Q o n K R M → Q' o n K R M) (h : gm_Wp X LX d bc bs mi pc L st n K R M Q) : gm_Wp X LX d bc bs mi pc L st n K R M Q' := by
  intro p l e Rm s m args below meth c D ti adK adV A α0 n0 mc ms hcx hev hd hd2 hmc hms hA α H locs cells slots ls sv hxt hc1 hc2 hR hL hS T hT Xs
  obtain ⟨t, a1, o, b1, b2, b3⟩ := h p l e Rm s m args below meth c D ti adK adV A α0 n0 mc ms hcx hev hd hd2 hmc hms hA α H locs cells slots ls sv hxt hc1 hc2 hR hL hS T hT Xs
  refine ⟨t, a1, o, b1, b2, ?_⟩
  rcases b3 with ⟨⟨⟨v, u, α', n', K', R', M', e1, e2, e3, e4⟩, e5⟩, e6⟩ | ⟨q, rfl, E1, ce, L1, ⟨⟨x, α', n', K', R', M', e1, e2, e3, e4⟩, e5⟩, e6⟩
  · exact Or.inl ⟨⟨⟨v, u, α', n', K', R', M', e1, e2, hQ _ _ _ _ _ e3, e4⟩, e5⟩, e6⟩
  · exact Or.inr ⟨q, rfl, E1, ce, L1, ⟨⟨x, α', n', K', R', M', e1, e2, hQ _ _ _ _ _ e3, e4⟩, e5⟩, e6⟩
theorem gm_Wp_wk {d' bc' bs' : Nat} (hd : d' ≤ d) (h1 : bc' ≤ bc) (h2 : bs' ≤ bs) (h : gm_Wp X LX d' bc' bs' mi pc L st n K R M Q) : gm_Wp X LX d bc bs mi pc L st n K R M Q := by
  intro p l e Rm s m args below meth c D ti adK adV A α0 n0 mc ms hcx hev hd1 hd2 hmc hms hA α H locs cells slots ls sv hxt hc1 hc2 hR hL hS
  exact h p l e Rm s m args below meth c D ti adK adV A α0 n0 mc ms hcx hev (Nat.le_trans hd hd1) (Nat.le_trans (Nat.mul_le_mul_right 300 hd) hd2) hmc hms hA α H locs cells slots ls sv hxt (Nat.le_trans (Nat.add_le_add_left h1 _) hc1) (Nat.le_trans (Nat.add_le_add_left h2 _) hc2) hR hL hS
theorem gm_mask_len : ∀ (b : List Bool) (L : gm_L), (gm_mask b L).length = L.length
  | _, [] => by cases ‹List Bool› <;> rfl
  | [], v :: L => by show (gm_mask [] L).length + 1 = _; rw [gm_mask_len [] L]; rfl
  | c :: b, v :: L => by show (gm_mask b L).length + 1 = _; rw [gm_mask_len b L]; rfl
theorem gm_mask_at : ∀ (b : List Bool) (L : gm_L) (i : Nat) (v : gm_V), (gm_mask b L)[i]? = some (some v) → L[i]? = some (some v)
  | b, [], i, v, h => by cases b <;> simp [gm_mask] at h
  | [], u :: L, 0, v, h => by simp [gm_mask] at h
  | [], u :: L, i + 1, v, h => by
    rw [List.getElem?_cons_succ]
    exact gm_mask_at [] L i v (by simpa [gm_mask] using h)
  | c :: b, u :: L, 0, v, h => by
    cases c <;> simp [gm_mask] at h ⊢
    exact h
  | c :: b, u :: L, i + 1, v, h => by
    rw [List.getElem?_cons_succ]
    exact gm_mask_at b L i v (by simpa [gm_mask] using h)
theorem gm_Wp_mask {b : List Bool} (h : gm_Wp X LX d bc bs mi pc (gm_mask b L) st n K R M Q) : gm_Wp X LX d bc bs mi pc L st n K R M Q := by
  intro p l e Rm s m args below meth c D ti adK adV A α0 n0 mc ms hcx hev hd1 hd2 hmc hms hA α H locs cells slots ls sv hxt hc1 hc2 hR hL hS
  obtain ⟨h1, l1, h2, h3⟩ := hL
  exact h p l e Rm s m args below meth c D ti adK adV A α0 n0 mc ms hcx hev hd1 hd2 hmc hms hA α H locs cells slots ls sv hxt hc1 hc2 hR ⟨by rw [gm_mask_len]; exact h1, l1, h2, fun i v hi => h3 i v (gm_mask_at _ _ _ _ hi)⟩ hS
/-- behind it: the fixed part stands -/
abbrev gm_Q2 (O : gm_Or) (Q : gm_Q) : gm_Q := fun o n K R M => gm_Fx O n K R M ∧ Q o n K R M
theorem gm_ld_of {sr j : Nat} {k : gm_V → Prop} (h : gm_ld L sr j k) : ∃ v, L[j]? = some (some v) ∧ gm_sort v = sr ∧ k v := by
  unfold gm_ld at h
  split at h
  · rename_i v e
    split at h
    · rename_i e2; exact ⟨v, e, e2, h⟩
    · exact h.elim
  · exact h.elim
theorem gm_sto_of {sr j : Nat} {k : gm_L → List gm_V → Prop} (h : gm_sto L sr j st k) : ∃ v st', st = v :: st' ∧ gm_sort v = sr ∧ j + (if sr = 1 then 1 else 0) < L.length ∧ k (gm_lst L j v) st' := by
  cases st with
  | nil => exact h.elim
  | cons v st =>
    unfold gm_sto at h
    dsimp only at h
    by_cases e : gm_sort v = sr ∧ j + (if sr = 1 then 1 else 0) < L.length
    · rw [if_pos e] at h; exact ⟨v, st, rfl, e.1, e.2, h⟩
    · rw [if_neg e] at h; exact h.elim
theorem gm_two2_of {k : Int → Int → List gm_V → Prop} (h : gm_two2 st k) : ∃ x y st', st = gm_vi y :: gm_vi x :: st' ∧ k x y st' := by
  unfold gm_two2 at h
  split at h
  · exact ⟨_, _, _, rfl, h⟩
  · exact h.elim
theorem gm_twl_of {k : Int → Int → List gm_V → Prop} (h : gm_twl st k) : ∃ x y st', st = gm_vl y :: gm_vl x :: st' ∧ k x y st' := by
  unfold gm_twl at h
  split at h
  · exact ⟨_, _, _, rfl, h⟩
  · exact h.elim
theorem gm_lin_of {k : Int → Int → List gm_V → Prop} (h : gm_lin st k) : ∃ x y st', st = gm_vi y :: gm_vl x :: st' ∧ k x y st' := by
  unfold gm_lin at h
  split at h
  · exact ⟨_, _, _, rfl, h⟩
  · exact h.elim
theorem gm_one_of {k : Int → List gm_V → Prop} (h : gm_one st k) : ∃ x st', st = gm_vi x :: st' ∧ k x st' := by
  unfold gm_one at h
  split at h
  · exact ⟨_, _, rfl, h⟩
  · exact h.elim
theorem gm_alls_of {vs : List gm_V} (h : gm_alls vs = true) : ∀ v ∈ vs.reverse, ¬ gm_sort v = 1 := fun v hv => of_decide_eq_true (List.all_eq_true.mp h v (List.mem_reverse.mp hv))
theorem gm_cio_spec {i : Nat} (hi : i < 370) (h : gm_cio i < 12) : gm_cn (gm_cio i) = (gm_mn i).cls := by
  have := List.all_eq_true.mp gm_cio_ok i (List.mem_range.mpr (by omega))
  simp only [Bool.or_eq_true, Bool.and_eq_true, decide_eq_true_eq] at this
  rcases this with h1 | h1
  · omega
  · exact h1.2
/-- a call -/
theorem gm_wc_s {mj pc' : Nat} {vs rest : List gm_V} {k : Nat → Nat → List gm_V → Nat → gm_K → gm_R → gm_M → Prop} (hE : gm_OkE O X LX E) (hP : gm_OkP O X LX P) (hF : gm_Fx O n K R M)
    (hcall : ∀ d' bc' bs', d' + 1 ≤ d → bc' ≤ bc → bs' ≤ bs → gm_Wp X LX d' bc' bs' mj 0 (gm_ent mj vs) [] n K R M (gm_cont X LX d (bc - bc') (bs - bs') mi pc' L rest (gm_Q2 O Q)) → gm_Wp X LX d bc bs mi pc L st n K R M (gm_Q2 O Q))
    (hk : ∀ bc bs st n K R M, gm_Fx O n K R M → k bc bs st n K R M → gm_Wp X LX d bc bs mi pc' L st n K R M (gm_Q2 O Q)) (h : gm_wc P E Q d bc bs mj vs rest n K R M k) : gm_Wp X LX d bc bs mi pc L st n K R M (gm_Q2 O Q) := by
  unfold gm_wc at h
  cases hp : P.lookup mj with
  | some pu =>
    rw [hp] at h
    obtain ⟨f, pre, val⟩ := pu
    dsimp only at h
    split at h
    · rename_i hd
      obtain ⟨h1, h2⟩ := h
      refine hcall f 0 0 hd (Nat.zero_le _) (Nat.zero_le _) ?_
      refine gm_Wp_mono (fun o n' K' R' M' hq => ?_) (hP mj f pre val hp f vs n K R M (Nat.le_refl _) h1 hF)
      obtain ⟨hf, rfl, rfl, rfl, rfl, rfl⟩ := hq
      exact hk _ _ _ _ _ _ _ hf h2
    · exact h.elim
  | none =>
    rw [hp] at h
    dsimp only at h
    cases he : E.lookup mj with
    | none => rw [he] at h; exact h.elim
    | some sc =>
      rw [he] at h
      obtain ⟨f, mc, ms, pre, post⟩ := sc
      dsimp only at h
      split at h
      · rename_i hd
        obtain ⟨⟨h1, h2, h3⟩, h4⟩ := h
        refine hcall f mc ms hd h1 h2 ?_
        refine gm_Wp_mono (fun o n' K' R' M' hq => ?_) (hE mj f mc ms pre post he f vs n K R M (Nat.le_refl _) h3 hF)
        obtain ⟨hf, hq⟩ := hq
        have h5 := h4 o n' K' R' M' hq
        cases o with
        | inl u => exact hk _ _ _ _ _ _ _ hf h5
        | inr x => exact ⟨hf, h5⟩
      · exact h.elim
end GS
