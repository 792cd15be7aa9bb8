/-! BETWEEN THE CALLS: 245 cells, and four for each law that was read; a call sees the 245, and the law that is told. -/
def bg_ss : List Nat := [3, 16, 29, 44, 57, 70, 83, 96, 109, 122, 135, 148, 161, 174, 187]
/-- told: the number of a law, or 0 -/
def bg_lr (la : Nat → Nat) (s : Nat) : Nat := if la s = 0 then 0 else 242 + 4 * la s
def bg_gR (g k : Nat) (j : Int) : Nat := if 246 ≤ k ∧ k < 246 + 4 * g then (if (k - 246) % 4 = 0 then (if j = 0 then k + 2 else if j = 1 then k + 1 else 0) else if (k - 246) % 4 = 2 ∧ j = 2 then k + 1 else 0) else 0
def bg_R (g : Nat) (la : Nat → Nat) : gm_R := fun k j => match p2_O.2.1 k j with
  | some r => r
  | none => if k ∈ bg_ss ∧ j = 8 then bg_lr la k else bg_gR g k j
/-- a call's references: z stands for what is told -/
def bs_R (z g1 : Nat) : gm_R := fun k j => match p2_O.2.1 k j with
  | some r => r
  | none => if k ∈ bg_ss ∧ j = 8 then (if k = 3 then z else 100000 + k) else bg_gR g1 k j
def bg_rho (t k : Nat) : Nat := if k < 246 then k else k + 4 * (t - 1)
def bg_f (la : Nat → Nat) (α : Nat → Nat) : Nat → Nat := fun k => if k < 100000 then α (bg_rho (la 3) k) else if la (k - 100000) = 0 then 0 else α (242 + 4 * la (k - 100000)) + 1
def bs_ok (la : Nat → Nat) (z g1 : Nat) : Prop := (z = 0 ∧ g1 = 0 ∧ la 3 = 0) ∨ (z = 100003 ∧ g1 = 0) ∨ (z = 246 ∧ g1 = 1 ∧ ¬ la 3 = 0)
/-- a law's four cells -/
def bg_g (b : Nat) (K : gm_K) (M : gm_M) : Prop := (K b = (14, 0) ∧ (∃ N : Nat, N ≤ 400 ∧ K (b + 1) = (0, N)) ∧ K (b + 2) = (6, 0) ∧ K (b + 3) = (0, 48)) ∧ M (b + 2) 0 = 12 ∧ M (b + 2) 1 = 4 ∧ 0 ≤ M (b + 2) 3 ∧ M (b + 2) 3 ≤ 12
def bg (g : Nat) (la : Nat → Nat) (K : gm_K) (R : gm_R) (M : gm_M) : Prop := (R = bg_R g la ∧ g ≤ 10000) ∧ gm_Fx p2_O (245 + 4 * g) K R M ∧ (∀ i, i < g → bg_g (246 + 4 * i) K M) ∧ ∀ s ∈ bg_ss, la s ≤ g
theorem bg_lk {β : Type} : ∀ {l : List (Int × β)} {k : Int} {v : β}, l.lookup k = some v → (k, v) ∈ l := by
  intro l
  induction l with
  | nil => intro k v h; cases h
  | cons a l ih =>
    intro k v h
    rw [List.lookup_cons] at h
    by_cases e : k == a.1
    · rw [e] at h
      cases h
      rw [eq_of_beq e]
      exact List.mem_cons_self
    · rw [show (k == a.1) = false by simpa using e] at h
      exact List.mem_cons_of_mem _ (ih h)
theorem bg_rfe : (List.range 246).all (fun k => match ck_tab p2_T k with | some e => e.2.1.all (fun q => decide (1 ≤ q.2 ∧ q.2 ≤ 245 ∧ ¬ (k ∈ bg_ss ∧ q.1 = 8))) | none => true) = true := by decide +kernel
theorem bg_rfo {k r : Nat} {j : Int} (h : p2_O.2.1 k j = some r) : (1 ≤ r ∧ r ≤ 245) ∧ k ≤ 245 ∧ ¬ (k ∈ bg_ss ∧ j = 8) := by
  have h : (match ck_tab p2_T k with | some e => e.2.1.lookup j | none => none) = some r := h
  by_cases hk : k < 246
  · have h2 := List.all_eq_true.mp bg_rfe k (List.mem_range.mpr hk)
    cases he : ck_tab p2_T k with
    | none => rw [he] at h; cases h
    | some e =>
      rw [he] at h h2
      have := of_decide_eq_true (List.all_eq_true.mp h2 _ (bg_lk h))
      exact ⟨⟨this.1, this.2.1⟩, by omega, this.2.2⟩
  · rw [lq_tab hk] at h
    cases h
theorem bg_sse : bg_ss.all (fun s => decide (1 ≤ s ∧ s ≤ 245)) = true := by decide
theorem bg_ssl {s : Nat} (h : s ∈ bg_ss) : 1 ≤ s ∧ s ≤ 245 := of_decide_eq_true (List.all_eq_true.mp bg_sse s h)
theorem bg_no {k : Nat} {j : Int} (h : 246 ≤ k) : p2_O.2.1 k j = none := by
  show (match ck_tab p2_T k with | some e => e.2.1.lookup j | none => none) = none
  rw [lq_tab (by omega)]
theorem bg_nss {k : Nat} {j : Int} (h : 246 ≤ k) : ¬ (k ∈ bg_ss ∧ j = 8) := fun hh => by have := bg_ssl hh.1; omega
theorem bg_gR_le {g k : Nat} {j : Int} : bg_gR g k j ≤ 245 + 4 * g ∧ (bg_gR g k j = 0 ∨ 246 ≤ bg_gR g k j) := by
  unfold bg_gR
  split
  · split
    · split
      · omega
      · split <;> omega
    · split <;> omega
  · omega
theorem bg_R_le {g : Nat} {la : Nat → Nat} (h : ∀ s ∈ bg_ss, la s ≤ g) (k : Nat) (j : Int) : bg_R g la k j ≤ 245 + 4 * g := by
  unfold bg_R
  cases ho : p2_O.2.1 k j with
  | some r => have := (bg_rfo ho).1; show r ≤ _; omega
  | none =>
    show (if k ∈ bg_ss ∧ j = 8 then bg_lr la k else bg_gR g k j) ≤ _
    split
    · rename_i hh
      have := h k hh.1
      unfold bg_lr
      split <;> omega
    · exact bg_gR_le.1
theorem bg_Rv {g : Nat} {la : Nat → Nat} (hg : g ≤ 10000) (h : ∀ s ∈ bg_ss, la s ≤ g) : gm_Rv (245 + 4 * g) (bg_R g la) := ⟨by omega, fun k j => Or.inl (bg_R_le h k j)⟩
theorem bs_Rv {z g1 : Nat} {la : Nat → Nat} (h : bs_ok la z g1) : gm_Rv (245 + 4 * g1) (bs_R z g1) := by
  have hg : g1 ≤ 1 := by rcases h with h | h | h <;> omega
  refine ⟨by omega, fun k j => ?_⟩
  unfold bs_R
  cases ho : p2_O.2.1 k j with
  | some r => have := (bg_rfo ho).1; exact Or.inl (show r ≤ _ by omega)
  | none =>
    show gm_kn _ (if k ∈ bg_ss ∧ j = 8 then (if k = 3 then z else 100000 + k) else bg_gR g1 k j)
    split
    · split
      · rcases h with h | h | h
        · exact Or.inl (by omega)
        · exact Or.inr ⟨by omega, by omega⟩
        · exact Or.inl (by omega)
      · exact Or.inr ⟨by omega, by omega⟩
    · exact Or.inl bg_gR_le.1
/-- an opaque law -/
theorem bg_ro {la α : Nat → Nat} {s : Nat} (hs : 242 + 4 * la s < 100000) : gm_ro (bg_f la α) (100000 + s) = gm_ro α (bg_lr la s) := by
  have e : bg_f la α (100000 + s) = if la s = 0 then 0 else α (242 + 4 * la s) + 1 := by
    unfold bg_f
    rw [if_neg (by omega), show 100000 + s - 100000 = s by omega]
  rw [show gm_ro (bg_f la α) (100000 + s) = (if 99999 + s + 1 < 100000 then some (bg_f la α (99999 + s + 1)) else match bg_f la α (99999 + s + 1) with | 0 => none | a + 1 => some a) by rw [show 100000 + s = (99999 + s) + 1 by omega]; rfl, if_neg (by omega), show 99999 + s + 1 = 100000 + s by omega, e]
  unfold bg_lr
  by_cases h : la s = 0
  · rw [if_pos h, if_pos h]
    rfl
  · rw [if_neg h, if_neg h, gm_ro_pos (by omega) hs]
/-- what a call sees by a reference -/
theorem bg_ros {g z g1 : Nat} {la α : Nat → Nat} (hg : g ≤ 10000) (hz : bs_ok la z g1) (hl : ∀ s ∈ bg_ss, la s ≤ g) (i : Nat) (h2 : i ≤ 245 + 4 * g1) (j : Int) : gm_ro (bg_f la α) (bs_R z g1 i j) = gm_ro α (bg_R g la (bg_rho (la 3) i) j) := by
  have h3 := hl 3 (by decide)
  by_cases hi : i < 246
  · rw [show bg_rho (la 3) i = i by unfold bg_rho; rw [if_pos hi]]
    unfold bs_R bg_R
    cases ho : p2_O.2.1 i j with
    | some r =>
      obtain ⟨⟨r1, r2⟩, -⟩ := bg_rfo ho
      show gm_ro (bg_f la α) r = gm_ro α r
      refine gm_ro_cg (fun _ => ?_)
      unfold bg_f
      rw [if_pos (by omega)]
      unfold bg_rho
      rw [if_pos (by omega)]
    | none =>
      show gm_ro (bg_f la α) (if i ∈ bg_ss ∧ j = 8 then (if i = 3 then z else 100000 + i) else bg_gR g1 i j) = gm_ro α (if i ∈ bg_ss ∧ j = 8 then bg_lr la i else bg_gR g i j)
      by_cases hs : i ∈ bg_ss ∧ j = 8
      · rw [if_pos hs, if_pos hs]
        have := hl i hs.1
        by_cases e : i = 3
        · rw [if_pos e]
          subst e
          rcases hz with ⟨rfl, -, h0⟩ | ⟨rfl, -⟩ | ⟨rfl, -, h0⟩
          · unfold bg_lr
            rw [if_pos h0]
            rfl
          · exact bg_ro (s := 3) (by omega)
          · unfold bg_lr
            rw [if_neg h0, gm_ro_pos (by decide) (by decide), gm_ro_pos (by omega) (by omega)]
            unfold bg_f bg_rho
            rw [if_pos (by decide), if_neg (by decide), show 246 + 4 * (la 3 - 1) = 242 + 4 * la 3 by omega]
        · rw [if_neg e]
          exact bg_ro (by omega)
      · rw [if_neg hs, if_neg hs]
        unfold bg_gR
        rw [if_neg (by omega), if_neg (by omega)]
        rfl
  · rcases hz with ⟨-, rfl, -⟩ | ⟨-, rfl⟩ | ⟨rfl, rfl, h0⟩
    · omega
    · omega
    have hr : bg_rho (la 3) i = i + 4 * (la 3 - 1) := by unfold bg_rho; rw [if_neg hi]
    rw [hr]
    unfold bs_R bg_R
    rw [bg_no (by omega), bg_no (by omega)]
    show gm_ro (bg_f la α) (if i ∈ bg_ss ∧ j = 8 then _ else bg_gR 1 i j) = gm_ro α (if i + 4 * (la 3 - 1) ∈ bg_ss ∧ j = 8 then _ else bg_gR g (i + 4 * (la 3 - 1)) j)
    rw [if_neg (bg_nss (by omega)), if_neg (bg_nss (by omega))]
    have fa : ∀ r, 246 ≤ r → r ≤ 249 → gm_ro (bg_f la α) r = gm_ro α (r + 4 * (la 3 - 1)) := fun r h1 h2 => by
      rw [gm_ro_pos (by omega) (by omega), gm_ro_pos (by omega) (by omega)]
      unfold bg_f bg_rho
      rw [if_pos (by omega), if_neg (by omega)]
    unfold bg_gR
    rw [if_pos (show 246 ≤ i ∧ i < 246 + 4 * 1 by omega), if_pos (show 246 ≤ i + 4 * (la 3 - 1) ∧ i + 4 * (la 3 - 1) < 246 + 4 * g by omega), show (i + 4 * (la 3 - 1) - 246) % 4 = (i - 246) % 4 by omega]
    by_cases e : (i - 246) % 4 = 0
    · rw [if_pos e, if_pos e]
      by_cases e0 : j = 0
      · rw [if_pos e0, if_pos e0, fa _ (by omega) (by omega), show i + 2 + 4 * (la 3 - 1) = i + 4 * (la 3 - 1) + 2 by omega]
      rw [if_neg e0, if_neg e0]
      by_cases e1 : j = 1
      · rw [if_pos e1, if_pos e1, fa _ (by omega) (by omega), show i + 1 + 4 * (la 3 - 1) = i + 4 * (la 3 - 1) + 1 by omega]
      rw [if_neg e1, if_neg e1]
      rfl
    · rw [if_neg e, if_neg e]
      by_cases e2 : (i - 246) % 4 = 2 ∧ j = 2
      · rw [if_pos e2, if_pos e2, fa _ (by omega) (by omega), show i + 1 + 4 * (la 3 - 1) = i + 4 * (la 3 - 1) + 1 by omega]
      rw [if_neg e2, if_neg e2]
      rfl
theorem bg_en {ti : Nat → ClassId} {α α' : Nat → Nat} {K K' : gm_K} {R R' : gm_R} {M M' : gm_M} {i k : Nat} (hK : K i = K' k) (hM : ∀ j, M i j = M' k j) (hR : ∀ j, gm_ro α (R i j) = gm_ro α' (R' k j)) : gm_en ti α K R M i = gm_en ti α' K' R' M' k := by
  have eM : M i = M' k := funext hM
  have e1 : ∀ j, gm_rf α (R i j) = gm_rf α' (R' k j) := fun j => by rw [← gm_rf_ro, ← gm_rf_ro, hR]
  unfold gm_en gm_fs
  rw [hK, eM]
  simp only [hR, e1]
def bs_K (la : Nat → Nat) (K : gm_K) : gm_K := fun k => K (bg_rho (la 3) k)
def bs_M (la : Nat → Nat) (M : gm_M) : gm_M := fun k j => M (bg_rho (la 3) k) j
theorem bg_rhl {g z g1 : Nat} {la : Nat → Nat} (hz : bs_ok la z g1) (h3 : la 3 ≤ g) {i : Nat} (h1 : 1 ≤ i) (h2 : i ≤ 245 + 4 * g1) : 1 ≤ bg_rho (la 3) i ∧ bg_rho (la 3) i ≤ 245 + 4 * g := by
  unfold bg_rho
  split
  · omega
  · rcases hz with h | h | h <;> omega
/-- a call sees a part -/
theorem bg_sbw {g z g1 : Nat} {la : Nat → Nat} {K : gm_K} {R : gm_R} {M : gm_M} (h : bg g la K R M) (hz : bs_ok la z g1) (ti : Nat → ClassId) (α : Nat → Nat) : gm_sbw ti (bg_rho (la 3)) (245 + 4 * g1) (bg_f la α) (bs_K la K) (bs_R z g1) (bs_M la M) (245 + 4 * g) α K R M := by
  obtain ⟨⟨rfl, hg⟩, -, -, hl⟩ := h
  have hg1 : g1 ≤ 1 := by rcases hz with h | h | h <;> omega
  intro i h1 h2
  refine ⟨bg_rhl hz (hl 3 (by decide)) h1 h2, ?_, bg_en rfl (fun _ => rfl) (fun j => bg_ros hg hz hl i h2 j)⟩
  unfold bg_f
  rw [if_pos (by omega)]
theorem bg_inj {t : Nat} (i j : Nat) (h : bg_rho t i = bg_rho t j) (hi : i < 246 ∨ 1 ≤ t) (hj : j < 246 ∨ 1 ≤ t) : i = j := by
  unfold bg_rho at h
  split at h
  · split at h <;> omega
  · split at h <;> omega
