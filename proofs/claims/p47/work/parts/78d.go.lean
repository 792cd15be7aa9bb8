/-! FROM THE ENTRY to the loop's head. -/
def st_A : ck_F := match pc_s130.2.2.2.2.2 with
  | oc :: _ => oc.2.2
  | [] => ([], [], [])
def st_B : ck_F := match pc_s132.2.2.2.2.2 with
  | oc :: _ => oc.2.2
  | [] => ([], [], [])
def st_F : ck_F := (st_A.1 ++ (st_B.1 ++ [(1, 4, 0), (226, 15, 0), (245, 2, 1)]), st_A.2.1 ++ st_B.2.1, st_A.2.2 ++ (st_B.2.2 ++ [(226, 0, 12, ck_one 0), (226, 14, 25, ck_one 0), (226, 27, 60, ck_one 0), (245, 0, 0, ck_one 0)]))
set_option maxRecDepth 100000 in
theorem st_c1 : st_T st_F = true := by decide +kernel
set_option maxRecDepth 100000 in
theorem st_c2 : ((st_cov (st_k st_F.2.2 227) 0 0 50 4 4 = true ∧ st_cov (st_k st_F.2.2 227) 0 0 50 14 2092 = true) ∧ (st_cov (st_k st_F.2.2 228) 0 0 50 0 1243 = true ∧ st_cov (st_k st_F.2.2 229) 0 0 50 0 1243 = true)) ∧ st_cov (st_k st_F.2.2 230) 0 0 50 0 4739 = true ∧ (st_cov (st_k st_F.2.2 1) 0 0 50 6 6 = true ∧ st_cov (st_k st_F.2.2 226) 0 0 50 5 5 = true) := by decide +kernel
set_option maxRecDepth 100000 in
theorem st_c3 : bg_ss.all (fun s => st_F.2.1.any fun q => decide (q = (s, 8, 0))) = true := by decide +kernel
set_option maxRecDepth 100000 in
theorem st_c4 : (List.range 246).all (fun k => match ck_tab p2_T k with
  | none => k == 0
  | some e => if e.1.1 = 3 then (List.range e.1.2).all (fun j => (e.2.1.lookup (j : Int)).isSome) else if 4 ≤ e.1.1 then (List.range (gm_nf (e.1.1 - 4))).all (fun j => !gm_isr (e.1.1 - 4) j || ((e.2.1.lookup (j : Int)).isSome || decide (k ∈ bg_ss ∧ j = 8))) else true) = true := by decide +kernel
set_option maxRecDepth 100000 in
theorem st_o1 : pc_s130.2.2.2.2.2 = [(.inr none, 225, st_A)] ∧ pc_s132.2.2.2.2.2 = [(.inr none, 244, st_B)] := ⟨rfl, rfl⟩
set_option maxRecDepth 100000 in
theorem st_w1 : (pc_s132.2.2.2.2.1.1.all (fun w => decide (w.1 = 226 ∧ ((w.2.1 = 13 ∧ w.2.2 = 13) ∨ (w.2.1 = 26 ∧ w.2.2 = 26)))) && pc_s132.2.2.2.2.1.2.all (fun w => decide (w.1 = 226))) = true ∧ (st_A.1.all (fun q => decide (q.1 ≤ 225)) && (st_A.2.1.all (fun q => decide (q.1 ≤ 225)) && st_A.2.2.all (fun q => decide (q.1 ≤ 225)))) = true := by decide +kernel
section GO
variable {X : Int → Int} {LX : Nat}
theorem st_nR {K : gm_K} {R : gm_R} {M : gm_M} (hF : gm_Fx p2_O 245 K R M) (h0 : ∀ s ∈ bg_ss, R s 8 = 0) : nR_ok 245 K R (bg_R 0 fun _ => 0) := by
  intro k h1 h2
  have hk := List.all_eq_true.mp st_c4 k (List.mem_range.mpr (by omega))
  cases he : ck_tab p2_T k with
  | none => rw [he] at hk; have : k = 0 := eq_of_beq hk; omega
  | some e =>
    rw [he] at hk
    have hK : K k = e.1 := (hF.1 k e.1 (show (match ck_tab p2_T k with | some e => some e.1 | none => none) = some e.1 by rw [he])).2.2
    have hr : ∀ (j : Int) (r : Nat), e.2.1.lookup j = some r → R k j = bg_R 0 (fun _ => 0) k j := fun j r hj => by
      have ho : p2_O.2.1 k j = some r := by
        show (match ck_tab p2_T k with | some e => e.2.1.lookup j | none => none) = some r
        rw [he]; exact hj
      rw [(hF.2.1 k j r ho).2]
      unfold bg_R
      rw [ho]
    refine ⟨fun c j hc hj hi => ?_, fun h3 j hj => ?_⟩
    · rw [hK] at hc
      have hk : (if e.1.1 = 3 then (List.range e.1.2).all (fun j => (e.2.1.lookup (j : Int)).isSome) else if 4 ≤ e.1.1 then (List.range (gm_nf (e.1.1 - 4))).all (fun j => !gm_isr (e.1.1 - 4) j || ((e.2.1.lookup (j : Int)).isSome || decide (k ∈ bg_ss ∧ j = 8))) else true) = true := hk
      rw [if_neg (by omega), if_pos (by omega), show e.1.1 - 4 = c by omega] at hk
      have h5 := List.all_eq_true.mp hk j (List.mem_range.mpr hj)
      rw [hi] at h5
      simp only [Bool.not_true, Bool.false_or, Bool.or_eq_true, decide_eq_true_eq] at h5
      rcases h5 with h5 | ⟨h5, rfl⟩
      · obtain ⟨r, hr2⟩ := Option.isSome_iff_exists.mp h5
        exact hr _ r hr2
      · rw [show R k ((8 : Nat) : Int) = 0 from h0 k h5]
        unfold bg_R
        cases ho : p2_O.2.1 k ((8 : Nat) : Int) with
        | some r => exact absurd ⟨h5, rfl⟩ (bg_rfo ho).2.2
        | none =>
          show _ = if k ∈ bg_ss ∧ ((8 : Nat) : Int) = 8 then bg_lr (fun _ => 0) k else _
          rw [if_pos ⟨h5, rfl⟩]
          rfl
    · rw [hK] at h3 hj
      have hk : (if e.1.1 = 3 then (List.range e.1.2).all (fun j => (e.2.1.lookup (j : Int)).isSome) else if 4 ≤ e.1.1 then (List.range (gm_nf (e.1.1 - 4))).all (fun j => !gm_isr (e.1.1 - 4) j || ((e.2.1.lookup (j : Int)).isSome || decide (k ∈ bg_ss ∧ j = 8))) else true) = true := hk
      rw [if_pos h3] at hk
      obtain ⟨r, hr2⟩ := Option.isSome_iff_exists.mp (List.all_eq_true.mp hk j (List.mem_range.mpr hj))
      exact hr _ r hr2
theorem st_mv {σ : Nat → Int} {F : ck_F} {n n' : Nat} {K K' : gm_K} {R R' : gm_R} {M M' : gm_M} (h : ck_gf σ F n K R M) (hl : (F.1.all (fun q => decide (q.1 ≤ 225)) && (F.2.1.all (fun q => decide (q.1 ≤ 225)) && F.2.2.all (fun q => decide (q.1 ≤ 225)))) = true) (hn : n ≤ n') (hK : ∀ k, k ≤ 225 → K' k = K k) (hR : ∀ k j, k ≤ 225 → R' k j = R k j) (hM : ∀ k j, k ≤ 225 → M' k j = M k j) : ck_gf σ F n' K' R' M' := by
  simp only [Bool.and_eq_true] at hl
  obtain ⟨l1, l2, l3⟩ := hl
  refine ⟨fun q hq => ?_, fun q hq => ?_, fun q hq => ?_⟩
  · have := of_decide_eq_true (List.all_eq_true.mp l1 q hq)
    obtain ⟨a, b⟩ := h.1 q hq
    exact ⟨⟨a.1, by omega⟩, (hK _ this).trans b⟩
  · have := of_decide_eq_true (List.all_eq_true.mp l2 q hq)
    obtain ⟨a, b⟩ := h.2.1 q hq
    exact ⟨by omega, (hR _ _ this).trans b⟩
  · have := of_decide_eq_true (List.all_eq_true.mp l3 q hq)
    obtain ⟨a, b⟩ := h.2.2 q hq
    refine ⟨by omega, fun j j1 j2 => ?_⟩
    rw [hM _ _ this]
    exact b j j1 j2
/-- the world at the loop's head, out of the facts -/
theorem st_bg {σ : Nat → Int} {K : gm_K} {R : gm_R} {M : gm_M} (hf : ck_gf σ st_F 245 K R M) : bg 0 (fun _ => 0) K (bg_R 0 fun _ => 0) M ∧ nR_ok 245 K R (bg_R 0 fun _ => 0) ∧ M 1 6 = M 226 5 := by
  have z : ∀ k lo hi, st_cov (st_k st_F.2.2 k) 0 0 50 lo hi = true → ∀ j, lo ≤ j → j ≤ hi → M k j = 0 := fun k lo hi h j j1 j2 => by
    have := st_cov_s hf.2.2 50 lo hi h j j1 j2
    omega
  obtain ⟨⟨⟨a1, a2⟩, a3, a4⟩, a5, a6, a7⟩ := st_c2
  have hF := st_Fx hf st_c1 (st_J (K := K) (fun j h1 h2 => by
    rcases h1 with rfl | h1
    · exact z _ _ _ a1 4 (Int.le_refl _) (Int.le_refl _)
    · exact z _ _ _ a2 j h1 h2) (fun j h1 h2 => z _ _ _ a3 j h1 h2) (fun j h1 h2 => z _ _ _ a4 j h1 h2) (fun j h1 h2 => z _ _ _ a5 j h1 h2))
  have h0 : ∀ s ∈ bg_ss, R s 8 = 0 := fun s hs => by
    obtain ⟨q, hq, e⟩ := List.any_eq_true.mp (List.all_eq_true.mp st_c3 s hs)
    have := (hf.2.1 q hq).2
    rw [of_decide_eq_true e] at this
    exact this
  refine ⟨⟨⟨rfl, by decide⟩, ⟨hF.1, fun k j r hr => ⟨(hF.2.1 k j r hr).1, by unfold bg_R; rw [hr]⟩, hF.2.2⟩, fun i hi => by omega, fun s _ => Nat.le_refl _⟩, st_nR hF h0, ?_⟩
  rw [z _ _ _ a6 6 (Int.le_refl _) (Int.le_refl _), z _ _ _ a7 5 (Int.le_refl _) (Int.le_refl _)]
end GO
