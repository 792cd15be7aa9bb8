/-! A STRETCH to one place: many facts compared in one go through both lists. -/
def ck_mg {α β : Type} (m : α → β → Bool) (all : List β) : Nat → List α → List β → Bool
  | _, [], _ => true
  | 0, _ :: _, _ => false
  | f + 1, g :: gs, [] => ck_mg m all f (g :: gs) all
  | f + 1, g :: gs, q :: qs => if m g q = true then ck_mg m all f gs qs else ck_mg m all f (g :: gs) qs
theorem ck_mg_s {α β : Type} {m : α → β → Bool} {all : List β} : ∀ (f : Nat) (gs : List α) (rest : List β), (∀ q ∈ rest, q ∈ all) → ck_mg m all f gs rest = true → ∀ g ∈ gs, ∃ q ∈ all, m g q = true := by
  intro f
  induction f with
  | zero =>
    intro gs rest _ h g hg
    cases gs with
    | nil => cases hg
    | cons a b => unfold ck_mg at h; cases h
  | succ f ih =>
    intro gs rest hr h g hg
    cases gs with
    | nil => cases hg
    | cons a b =>
      cases rest with
      | nil =>
        unfold ck_mg at h
        exact ih (a :: b) all (fun _ h => h) h g hg
      | cons q qs =>
        unfold ck_mg at h
        split at h
        · rename_i e
          rcases List.mem_cons.mp hg with rfl | hg
          · exact ⟨q, hr q List.mem_cons_self, e⟩
          · exact ih b qs (fun z hz => hr z (List.mem_cons_of_mem _ hz)) h g hg
        · exact ih (a :: b) qs (fun z hz => hr z (List.mem_cons_of_mem _ hz)) h g hg
def ck_leG (F G : ck_F) : Bool := ck_mg (fun g q => decide (g = q)) F.1 9000 G.1 F.1 && (ck_mg (fun g q => decide (g = q)) F.2.1 9000 G.2.1 F.2.1 && ck_mg (fun g q => q.1 == g.1 && (decide (q.2.1 = g.2.1) && (decide (q.2.2.1 = g.2.2.1) && ck_leI q.2.2.2 g.2.2.2))) F.2.2 20000 G.2.2 F.2.2)
def ck_to (O : gm_Or) (E : List (Nat × List ck_Sum)) (mi d n0 : Nat) (W : List (Nat × Int × Int) × List (Nat × Int)) (outs : List ck_Oc) (tgt : Nat) (ALt : ck_AL) (nt : Nat) (G : ck_F) (bct bst : Nat) : Nat → Nat → Nat → Nat → ck_AL → ck_AS → Nat → ck_F → Bool
  | 0, _, _, _, _, _, _, _ => false
  | f + 1, bc, bs, pc, AL, AS, n, F => if pc = tgt then (AS.isEmpty && ck_leL AL ALt) && ((n == nt && (decide (bct ≤ bc) && decide (bst ≤ bs))) && ck_leG F G) else match gm_at mi pc with
    | some i => ck_d i O none [] E mi d n0 W outs bc bs pc AL AS n F (fun bc bs pc AL AS n F => ck_to O E mi d n0 W outs tgt ALt nt G bct bst f bc bs pc AL AS n F)
    | none => false
section TO
variable {O : gm_Or} {X : Int → Int} {LX : Nat} {E : List (Nat × List ck_Sum)} {mi d n0 : Nat} {W : List (Nat × Int × Int) × List (Nat × Int)} {outs : List ck_Oc} {σ : Nat → Int} {K0 : gm_K} {R0 : gm_R} {M0 : gm_M}
theorem ck_leG_s {F G : ck_F} {n : Nat} {K : gm_K} {R : gm_R} {M : gm_M} (h : ck_gf σ F n K R M) (hl : ck_leG F G = true) : ck_gf σ G n K R M := by
  simp only [ck_leG, Bool.and_eq_true] at hl
  refine ⟨fun g hg => ?_, fun g hg => ?_, fun g hg => ?_⟩
  · obtain ⟨q, hq, e⟩ := ck_mg_s _ _ _ (fun _ h => h) hl.1 g hg
    rw [of_decide_eq_true e]
    exact h.1 q hq
  · obtain ⟨q, hq, e⟩ := ck_mg_s _ _ _ (fun _ h => h) hl.2.1 g hg
    rw [of_decide_eq_true e]
    exact h.2.1 q hq
  · obtain ⟨q, hq, e⟩ := ck_mg_s _ _ _ (fun _ h => h) hl.2.2 g hg
    simp only [Bool.and_eq_true, beq_iff_eq, decide_eq_true_eq] at e
    obtain ⟨e1, e2, e3, e4⟩ := e
    obtain ⟨h1, h2⟩ := h.2.2 q hq
    rw [← e1]
    refine ⟨h1, fun j h3 h4 => ?_⟩
    rw [← e2] at h3
    rw [← e3] at h4
    obtain ⟨h5, h6⟩ := h2 j h3 h4
    exact ⟨h5, ck_leI_s e4 h6⟩
theorem ck_to_s {tgt nt bct bst : Nat} {ALt : ck_AL} {G : ck_F} (hE : ck_OkE O X LX E) (hH : ∀ (L : gm_L) (K : gm_K) (R : gm_R) (M : gm_M), ck_St O σ W n0 K0 R0 M0 ALt [] G L [] nt K R M → gm_Wp X LX d bct bst mi tgt L [] nt K R M (ck_Q O σ W n0 K0 R0 M0 outs)) : ∀ (f : Nat) (bc bs pc : Nat) (AL : ck_AL) (AS : ck_AS) (n : Nat) (F : ck_F) (L : gm_L) (st : List gm_V) (K : gm_K) (R : gm_R) (M : gm_M), ck_St O σ W n0 K0 R0 M0 AL AS F L st n K R M → ck_to O E mi d n0 W outs tgt ALt nt G bct bst f bc bs pc AL AS n F = true → gm_Wp X LX d bc bs mi pc L st n K R M (ck_Q O σ W n0 K0 R0 M0 outs) := by
  intro f
  induction f with
  | zero => intro bc bs pc AL AS n F L st K R M _ h; cases h
  | succ f ih =>
    intro bc bs pc AL AS n F L st K R M hS h
    unfold ck_to at h
    split at h
    · rename_i e
      simp only [Bool.and_eq_true, decide_eq_true_eq, beq_iff_eq] at h
      obtain ⟨⟨h1, h2⟩, ⟨h3, h4, h5⟩, h6⟩ := h
      obtain ⟨f1, f2, f3, f4, f5⟩ := hS
      have h7 : AS = [] := List.isEmpty_iff.mp h1
      subst h7
      have h8 : st = [] := f3
      subst h8
      subst h3
      rw [e]
      exact gm_Wp_wk (Nat.le_refl _) h4 h5 (hH L K R M ⟨f1, ck_leL_s h2 f2, rfl, ck_leG_s f4 h6, f5⟩)
    · cases hat : gm_at mi pc with
      | none => rw [hat] at h; cases h
      | some i =>
        rw [hat] at h
        dsimp only at h
        rw [ck_d_eq] at h
        exact ck_i_s (σ0 := σ) hE (ck_X0 σ) ck_l0 (fun _ _ => rfl) hat hS (fun bc bs pc AL AS n F L st K R M hk hS => ih bc bs pc AL AS n F L st K R M hS hk) h
end TO
