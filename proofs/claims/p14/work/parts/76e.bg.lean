/-! BEHIND A CALL: the world between the calls again, with one law more at most. -/
/-- what a call hands back: c new laws -/
def bs_rt (z g1 c : Nat) (K1 : gm_K) (M1 : gm_M) (n' : Nat) (K' : gm_K) (R' : gm_R) (M' : gm_M) : Prop :=
  ((c = 0 ∨ c = 1 ∧ g1 = 0) ∧ n' = 245 + 4 * g1 + 4 * c) ∧ gm_Fx p2_O n' K' R' M' ∧ (∀ k, k ≤ 245 + 4 * g1 → K' k = K1 k) ∧ (∀ k j, 246 ≤ k → k ≤ 245 + 4 * g1 → M' k j = M1 k j) ∧ (∀ k j, k ≤ 245 + 4 * g1 → ¬ (k ∈ bg_ss ∧ j = 8) → R' k j = bs_R z g1 k j) ∧ (∀ s ∈ bg_ss, R' s 8 = 0 ∨ (R' s 8 = 246 ∧ (g1 = 1 ∨ c = 1)) ∨ ∃ s' ∈ bg_ss, R' s 8 = 100000 + s') ∧ (c = 1 → bg_g 246 K' M' ∧ R' 246 0 = 248 ∧ R' 246 1 = 247 ∧ R' 248 2 = 249)
def bg_dc (la : Nat → Nat) (g c v : Nat) : Nat := if v = 0 then 0 else if v = 246 then (if c = 1 then g + 1 else la 3) else la (v - 100000)
def bg_la (la : Nat → Nat) (g c : Nat) (R' : gm_R) : Nat → Nat := fun s => bg_dc la g c (R' s 8)
def bg_K (g : Nat) (K K' : gm_K) : gm_K := fun k => if k ≤ 245 + 4 * g then K k else K' (k - 4 * g)
def bg_M (g : Nat) (M M' : gm_M) : gm_M := fun k j => if k ≤ 245 then M' k j else if k ≤ 245 + 4 * g then M k j else M' (k - 4 * g) j
def bg_al (g c : Nat) (α α1 : Nat → Nat) : Nat → Nat := fun k => if 245 + 4 * g < k ∧ k ≤ 245 + 4 * g + 4 * c then α1 (k - 4 * g) else α k
theorem bg_en2 {ti : Nat → ClassId} {α α' : Nat → Nat} {K K' : gm_K} {R R' : gm_R} {M M' : gm_M} {i k : Nat} (hK : K i = K' k) (hM : ∀ j, M i j = M' k j) (h3 : ¬ (K i).1 = 3) (hR : ∀ c j : Nat, (K i).1 = c + 4 → j < gm_nf c → gm_isr c j = true → gm_ro α (R i j) = gm_ro α' (R' k j)) : gm_en ti α K R M i = gm_en ti α' K' R' M' k := by
  have eM : M i = M' k := funext hM
  have e1 : ∀ c j : Nat, (K i).1 = c + 4 → j < gm_nf c → gm_isr c j = true → gm_rf α (R i j) = gm_rf α' (R' k j) := fun c j h1 h2 h4 => by rw [← gm_rf_ro, ← gm_rf_ro, hR c j h1 h2 h4]
  unfold gm_en
  rw [← hK, ← eM]
  split
  · rfl
  · rfl
  · rfl
  · rename_i h; exact absurd h h3
  · rename_i c h
    have : gm_fs α R M i c = gm_fs α' R' M' k c := by
      unfold gm_fs
      refine List.map_congr_left fun j hj => ?_
      rw [← eM]
      by_cases hr : gm_isr c j = true
      · rw [if_pos hr, if_pos hr, e1 c j h (List.mem_range.mp hj) hr]
      · rw [if_neg hr, if_neg hr]
    rw [this]
theorem bg_gR_g {g c k : Nat} {j : Int} (h : k < 246 + 4 * g) : bg_gR (g + c) k j = bg_gR g k j := by
  unfold bg_gR
  by_cases h1 : 246 ≤ k
  · rw [if_pos (show 246 ≤ k ∧ k < 246 + 4 * (g + c) by omega), if_pos (show 246 ≤ k ∧ k < 246 + 4 * g by omega)]
  · rw [if_neg (fun e => h1 e.1), if_neg (fun e => h1 e.1)]
/-- by references to cells that were there -/
theorem bg_roA {g c : Nat} {α α1 : Nat → Nat} {r : Nat} (h : r ≤ 245 + 4 * g) : gm_ro (bg_al g c α α1) r = gm_ro α r := gm_ro_cg fun _ => by unfold bg_al; rw [if_neg (by omega)]
section BGC
variable {g z g1 c n' : Nat} {la : Nat → Nat} {K K' : gm_K} {R R' : gm_R} {M M' : gm_M}
theorem bg_dl (hb : bg g la K R M) (hr : bs_rt z g1 c (bs_K la K) (bs_M la M) n' K' R' M') : ∀ s ∈ bg_ss, bg_la la g c R' s ≤ g + c := by
  obtain ⟨-, -, -, hl⟩ := hb
  obtain ⟨⟨hc, -⟩, -, -, -, -, hv, -⟩ := hr
  intro s hs
  have h3 := hl 3 (by decide)
  unfold bg_la bg_dc
  rcases hv s hs with h | ⟨h, h2⟩ | ⟨s', h1, h2⟩
  · rw [if_pos h]; omega
  · rw [if_neg (by omega), if_pos h]
    split <;> omega
  · have := hl s' h1
    rw [if_neg (by omega), if_neg (by omega), h2, show 100000 + s' - 100000 = s' by omega]
    omega
/-- references of a cell that the call saw -/
theorem bg_roR (hb : bg g la K R M) (hz : bs_ok la z g1) (hr : bs_rt z g1 c (bs_K la K) (bs_M la M) n' K' R' M') (hg : g < 10000) {α α1 : Nat → Nat} (hx : gm_xt (bg_f la α) (245 + 4 * g1) α1 n') (i : Nat) (h2 : i ≤ 245 + 4 * g1) (j : Int) : gm_ro (bg_al g c α α1) (bg_R (g + c) (bg_la la g c R') (bg_rho (la 3) i) j) = gm_ro α1 (R' i j) := by
  obtain ⟨⟨hR, -⟩, -, -, hl⟩ := hb
  obtain ⟨⟨hc, hn⟩, -, -, -, hk, hv, h4⟩ := hr
  have h3 := hl 3 (by decide)
  have hg1 : g1 ≤ 1 := by rcases hz with h | h | h <;> omega
  have hgg : g1 ≤ g := by rcases hz with h | h | h <;> omega
  have x8 : ∀ s, α1 (100000 + s) = bg_f la α (100000 + s) := fun s => by
    rcases hx.2.2 with h | h
    · omega
    · exact h _ (by omega)
  by_cases hs : i ∈ bg_ss ∧ j = 8
  · have hi := bg_ssl hs.1
    obtain ⟨hs1, rfl⟩ := hs
    have no : p2_O.2.1 i 8 = none := by
      cases h : p2_O.2.1 i 8 with
      | none => rfl
      | some r => exact absurd ⟨hs1, rfl⟩ (bg_rfo h).2.2
    rw [show bg_rho (la 3) i = i by unfold bg_rho; rw [if_pos (by omega)]]
    have e : bg_R (g + c) (bg_la la g c R') i 8 = bg_lr (bg_la la g c R') i := by
      unfold bg_R
      rw [no]
      show (if i ∈ bg_ss ∧ (8 : Int) = 8 then _ else _) = _
      rw [if_pos ⟨hs1, rfl⟩]
    rw [e]
    show gm_ro _ (if bg_dc la g c (R' i 8) = 0 then 0 else 242 + 4 * bg_dc la g c (R' i 8)) = _
    rcases hv i hs1 with h | ⟨h, h5⟩ | ⟨s', h1, h5⟩
    · have e9 : bg_dc la g c (R' i 8) = 0 := by unfold bg_dc; rw [if_pos h]
      rw [e9, if_pos rfl, h]
      rfl
    · have e9 : bg_dc la g c (R' i 8) = if c = 1 then g + 1 else la 3 := by unfold bg_dc; rw [h, if_neg (show ¬ (246 : Nat) = 0 by decide), if_pos rfl]
      rw [e9, h]
      by_cases hc1 : c = 1
      · have : g1 = 0 := by omega
        subst this
        rw [if_pos hc1, if_neg (by omega), gm_ro_pos (by omega) (by omega), gm_ro_pos (by decide) (by decide)]
        unfold bg_al
        rw [if_pos (by omega), show 242 + 4 * (g + 1) - 4 * g = 246 by omega]
      · rw [if_neg hc1]
        have g11 : g1 = 1 := by omega
        have l3 : ¬ la 3 = 0 := by rcases hz with h | h | h <;> omega
        rw [if_neg l3, gm_ro_pos (by omega) (by omega), gm_ro_pos (by decide) (by decide), hx.2.1 246 (by decide) (by omega)]
        unfold bg_al bg_f bg_rho
        rw [if_neg (by omega), if_pos (by decide), if_neg (by decide), show 246 + 4 * (la 3 - 1) = 242 + 4 * la 3 by omega]
    · have hl' := hl s' h1
      have e9 : bg_dc la g c (R' i 8) = la s' := by unfold bg_dc; rw [h5, if_neg (show ¬ 100000 + s' = 0 by omega), if_neg (show ¬ 100000 + s' = 246 by omega), show 100000 + s' - 100000 = s' by omega]
      rw [e9, h5]
      have := bg_ro (la := la) (α := α) (s := s') (by omega)
      rw [gm_ro_cg (α := bg_f la α) (α' := α1) (fun _ => x8 s'), this]
      unfold bg_lr
      exact bg_roA (by split <;> omega)
  · have e1 : R' i j = bs_R z g1 i j := hk i j h2 hs
    have e2 : gm_ro α1 (R' i j) = gm_ro (bg_f la α) (bs_R z g1 i j) := by
      rw [e1]
      exact gm_ro_ext hx ((bs_Rv hz).2 i j)
    rw [e2, bg_ros (by omega) hz hl i h2 j]
    have e3 : bg_R (g + c) (bg_la la g c R') (bg_rho (la 3) i) j = bg_R g la (bg_rho (la 3) i) j := by
      have hs2 : ¬ (bg_rho (la 3) i ∈ bg_ss ∧ j = 8) := by
        unfold bg_rho
        split
        · exact hs
        · exact bg_nss (by omega)
      have hl2 : bg_rho (la 3) i < 246 + 4 * g := by
        unfold bg_rho
        split
        · omega
        · rcases hz with h | h | h <;> omega
      unfold bg_R
      cases p2_O.2.1 (bg_rho (la 3) i) j with
      | some r => rfl
      | none =>
        show (if _ then _ else _) = (if _ then _ else _)
        rw [if_neg hs2, if_neg hs2, bg_gR_g hl2]
    rw [e3]
    exact bg_roA (bg_R_le hl _ _)
theorem bg_Oe : (List.range 16).all (fun i => decide ((p2_O.1 (240 + i)).isNone) || decide (i < 6)) = true := by decide +kernel
theorem bg_O1 {k : Nat} {q : Nat × Nat} (h : p2_O.1 k = some q) : k < 246 := by
  by_cases hk : k < 246
  · exact hk
  · have h : (match ck_tab p2_T k with | some e => some e.1 | none => none) = some q := h
    rw [lq_tab hk] at h
    cases h
theorem bg_tyk {k : Nat} {r : Int × Int × Int × Int} (h : r ∈ p2_O.2.2.ty k) : k < 246 := by
  by_cases hk : k < 246
  · exact hk
  · have h : r ∈ (match ck_tab p2_T k with | some e => e.2.2 | none => []) := h
    rw [lq_tab hk] at h
    cases h
theorem bg_Ms {k : Nat} (h : k ≤ 245) (j : Int) : bg_M g M M' k j = M' k j := by unfold bg_M; rw [if_pos h]
theorem bg_Ks {k : Nat} (h : k ≤ 245 + 4 * g) : bg_K g K K' k = K k := by unfold bg_K; rw [if_pos h]
/-- the world behind it -/
theorem bg_new (hb : bg g la K R M) (hz : bs_ok la z g1) (hr : bs_rt z g1 c (bs_K la K) (bs_M la M) n' K' R' M') (hg : g < 10000) : bg (g + c) (bg_la la g c R') (bg_K g K K') (bg_R (g + c) (bg_la la g c R')) (bg_M g M M') := by
  have hd := bg_dl hb hr
  obtain ⟨⟨hR, -⟩, hF, hG, hl⟩ := hb
  obtain ⟨⟨hc, hn⟩, hF2, hk, hm, -, -, h4⟩ := hr
  have h3 := hl 3 (by decide)
  have hgg : g1 ≤ g := by rcases hz with h | h | h <;> omega
  refine ⟨⟨rfl, by omega⟩, ⟨fun k q hq => ?_, fun k j r hq => ?_, fun k r hq => ?_, fun k r hq => ?_, ?_⟩, fun i hi => ?_, hd⟩
  · obtain ⟨a1, a2, a3⟩ := hF.1 k q hq
    have := bg_O1 hq
    exact ⟨a1, by omega, (bg_Ks (by omega)).trans a3⟩
  · obtain ⟨-, a2, -⟩ := bg_rfo hq
    refine ⟨by omega, ?_⟩
    unfold bg_R
    rw [hq]
  · obtain ⟨a1, a2⟩ := hF2.2.2.1 k r hq
    have := bg_tyk hq
    refine ⟨by omega, fun j j1 j2 => ?_⟩
    rw [bg_Ms (by omega)]
    exact a2 j j1 j2
  · have := hF.2.2.2.1 k r hq
    omega
  · have e : ∀ k, k ≤ 245 → bg_M g M M' k = M' k := fun k h => funext fun j => bg_Ms h j
    have hJ : jP p2_ty (M' 227) (M' 228) (M' 229) (M' 230) := hF2.2.2.2.2
    show jP p2_ty (bg_M g M M' 227) (bg_M g M M' 228) (bg_M g M M' 229) (bg_M g M M' 230)
    rw [e 227 (by decide), e 228 (by decide), e 229 (by decide), e 230 (by decide)]
    exact hJ
  · by_cases hi2 : i < g
    · have h := hG i hi2
      have eM : ∀ j, bg_M g M M' (246 + 4 * i + 2) j = M (246 + 4 * i + 2) j := fun j => by unfold bg_M; rw [if_neg (by omega), if_pos (by omega)]
      unfold bg_g at h ⊢
      rw [bg_Ks (by omega), bg_Ks (by omega), bg_Ks (by omega), bg_Ks (by omega), eM, eM, eM]
      exact h
    · have hc1 : c = 1 := by omega
      have h := (h4 hc1).1
      have hi3 : i = g := by omega
      subst hi3
      have eK : ∀ t, bg_K i K K' (246 + 4 * i + t) = K' (246 + t) := fun t => by unfold bg_K; rw [if_neg (by omega), show 246 + 4 * i + t - 4 * i = 246 + t by omega]
      have eM : ∀ t j, bg_M i M M' (246 + 4 * i + t) j = M' (246 + t) j := fun t j => by unfold bg_M; rw [if_neg (by omega), if_neg (by omega), show 246 + 4 * i + t - 4 * i = 246 + t by omega]
      have e0 : bg_K i K K' (246 + 4 * i) = K' 246 := eK 0
      unfold bg_g at h ⊢
      rw [e0, eK, eK, eK, eM, eM, eM]
      exact h
theorem bg_xt (hn : n' = 245 + 4 * g1 + 4 * c) (hc : c ≤ 1) (hg : g < 10000) {α α1 : Nat → Nat} : gm_xt α (245 + 4 * g) (bg_al g c α α1) (245 + 4 * (g + c)) := by
  refine ⟨by omega, fun k h1 h2 => ?_, Or.inr fun k h => ?_⟩
  · unfold bg_al
    rw [if_neg (by omega)]
  · unfold bg_al
    rw [if_neg (by omega)]
theorem bg_isr : (List.range (gm_nf 2)).all (fun j => !gm_isr 2 j || decide (j = 2)) = true ∧ gm_nf 10 = 2 := by decide +kernel
/-- its cells are the call's, the others, the new ones -/
theorem bg_bgw (hb : bg g la K R M) (hz : bs_ok la z g1) (hr : bs_rt z g1 c (bs_K la K) (bs_M la M) n' K' R' M') (hg : g < 10000) {ti : Nat → ClassId} {α α1 : Nat → Nat} (hx : gm_xt (bg_f la α) (245 + 4 * g1) α1 n') : gm_bgw ti (bg_rho (la 3)) (245 + 4 * g1) n' α1 K' R' M' (245 + 4 * g) (245 + 4 * (g + c)) α K R M (bg_al g c α α1) (bg_K g K K') (bg_R (g + c) (bg_la la g c R')) (bg_M g M M') := by
  have hroR := fun i h2 j => bg_roR hb hz hr hg hx i h2 j
  obtain ⟨⟨hR, -⟩, -, -, hl⟩ := hb
  obtain ⟨⟨hc, hn⟩, -, hk, hm, -, -, h4⟩ := hr
  have h3 := hl 3 (by decide)
  have hg1 : g1 ≤ 1 := by rcases hz with h | h | h <;> omega
  subst hR
  refine ⟨⟨by omega, by omega⟩, fun i h1 h2 => ?_, fun k h1 h2 hi => ?_, fun t h1 h2 => ?_⟩
  · have hrl := bg_rhl hz h3 h1 h2
    refine ⟨?_, bg_en ?_ (fun j => ?_) (fun j => hroR i h2 j)⟩
    · rw [hx.2.1 i h1 h2]
      unfold bg_al bg_f
      rw [if_neg (by omega), if_pos (by omega)]
    · rw [bg_Ks hrl.2, hk i h2]
      rfl
    · by_cases hi : i < 246
      · rw [show bg_rho (la 3) i = i by unfold bg_rho; rw [if_pos hi], bg_Ms (by omega)]
      · have hr2 : 246 ≤ bg_rho (la 3) i := by unfold bg_rho; rw [if_neg hi]; omega
        rw [hm i j (by omega) h2]
        unfold bg_M
        rw [if_neg (by omega), if_pos hrl.2]
        rfl
  · have hk2 : 246 ≤ k := by
      by_cases h : k < 246
      · exact absurd (show bg_rho (la 3) k = k by unfold bg_rho; rw [if_pos h]) (hi k h1 (by omega))
      · omega
    refine ⟨by unfold bg_al; rw [if_neg (by omega)], bg_en (bg_Ks h2) (fun j => ?_) (fun j => ?_)⟩
    · unfold bg_M
      rw [if_neg (by omega), if_pos h2]
    · have e3 : bg_R (g + c) (bg_la la g c R') k j = bg_R g la k j := by
        unfold bg_R
        rw [bg_no hk2]
        show (if _ then _ else _) = (if _ then _ else _)
        rw [if_neg (bg_nss hk2), if_neg (bg_nss hk2), bg_gR_g (by omega)]
      rw [e3]
      exact bg_roA (bg_R_le hl _ _)
  · have hc1 : c = 1 := by omega
    have hg0 : g1 = 0 := by omega
    subst hc1 hg0
    obtain ⟨⟨⟨k6, ⟨N, -, k7⟩, k8, k9⟩, -⟩, r0, r1, r2⟩ := h4 rfl
    have eK : bg_K g K K' (245 + 4 * g + t) = K' (245 + 4 * 0 + t) := by unfold bg_K; rw [if_neg (by omega), show 245 + 4 * g + t - 4 * g = 245 + 4 * 0 + t by omega]
    have eM : ∀ j, bg_M g M M' (245 + 4 * g + t) j = M' (245 + 4 * 0 + t) j := fun j => by unfold bg_M; rw [if_neg (by omega), if_neg (by omega), show 245 + 4 * g + t - 4 * g = 245 + 4 * 0 + t by omega]
    have ea : ∀ t, 1 ≤ t → t ≤ 4 → bg_al g 1 α α1 (245 + 4 * g + t) = α1 (245 + t) := fun t h1 h2 => by unfold bg_al; rw [if_pos (by omega), show 245 + 4 * g + t - 4 * g = 245 + t by omega]
    have er : ∀ t, 1 ≤ t → t ≤ 4 → gm_ro (bg_al g 1 α α1) (245 + 4 * g + t) = gm_ro α1 (245 + t) := fun t h1 h2 => by rw [gm_ro_pos (by omega) (by omega), gm_ro_pos (by omega) (by omega), ea t h1 h2]
    have eR : ∀ t j, bg_R (g + 1) (bg_la la g 1 R') (245 + 4 * g + (t + 1)) j = bg_gR (g + 1) (246 + 4 * g + t) j := fun t j => by
      unfold bg_R
      rw [bg_no (by omega)]
      show (if _ then _ else _) = _
      rw [if_neg (bg_nss (by omega)), show 245 + 4 * g + (t + 1) = 246 + 4 * g + t by omega]
    refine ⟨(ea t h1 (by omega)).trans (by rw [show 245 + 4 * 0 + t = 245 + t by omega]), ?_⟩
    have ht : t = 1 ∨ t = 2 ∨ t = 3 ∨ t = 4 := by omega
    rcases ht with rfl | rfl | rfl | rfl
    · refine bg_en2 eK eM (by rw [eK]; show ¬ (K' 246).1 = 3; rw [k6]; decide) (fun c j hc hj hi => ?_)
      rw [eK] at hc
      have hc : (K' 246).1 = c + 4 := hc
      rw [k6] at hc
      have hc : 14 = c + 4 := hc
      have : c = 10 := by omega
      subst this
      rw [bg_isr.2] at hj
      rw [eR 0]
      have hj2 : j = 0 ∨ j = 1 := by omega
      rcases hj2 with rfl | rfl
      · rw [show bg_gR (g + 1) (246 + 4 * g + 0) ((0 : Nat) : Int) = 245 + 4 * g + 3 by
          unfold bg_gR
          rw [if_pos (by omega), if_pos (by omega), if_pos (by decide)]; omega, er 3 (by decide) (by decide)]
        show _ = gm_ro α1 (R' 246 0)
        rw [r0]
      · rw [show bg_gR (g + 1) (246 + 4 * g + 0) ((1 : Nat) : Int) = 245 + 4 * g + 2 by
          unfold bg_gR
          rw [if_pos (by omega), if_pos (by omega), if_neg (show ¬ ((1 : Nat) : Int) = 0 by decide), if_pos (show ((1 : Nat) : Int) = 1 by decide)]; omega, er 2 (by decide) (by decide)]
        show _ = gm_ro α1 (R' 246 1)
        rw [r1]
    · refine bg_en2 eK eM (by rw [eK]; show ¬ (K' 247).1 = 3; rw [k7]; exact (by decide : ¬ (0 : Nat) = 3)) (fun c j hc hj hi => ?_)
      rw [eK] at hc
      have hc : (K' 247).1 = c + 4 := hc
      rw [k7] at hc
      have hc : 0 = c + 4 := hc
      omega
    · refine bg_en2 eK eM (by rw [eK]; show ¬ (K' 248).1 = 3; rw [k8]; decide) (fun c j hc hj hi => ?_)
      rw [eK] at hc
      have hc : (K' 248).1 = c + 4 := hc
      rw [k8] at hc
      have hc : 6 = c + 4 := hc
      have : c = 2 := by omega
      subst this
      have h5 := List.all_eq_true.mp bg_isr.1 j (List.mem_range.mpr hj)
      rw [hi] at h5
      have : j = 2 := by simpa using h5
      subst this
      rw [eR 2, show bg_gR (g + 1) (246 + 4 * g + 2) ((2 : Nat) : Int) = 245 + 4 * g + 4 by
          unfold bg_gR
          rw [if_pos (by omega), if_neg (by omega), if_pos ⟨by omega, by decide⟩]; omega, er 4 (by decide) (by decide)]
      show _ = gm_ro α1 (R' 248 2)
      rw [r2]
    · refine bg_en2 eK eM (by rw [eK]; show ¬ (K' 249).1 = 3; rw [k9]; decide) (fun c j hc hj hi => ?_)
      rw [eK] at hc
      have hc : (K' 249).1 = c + 4 := hc
      rw [k9] at hc
      have hc : 0 = c + 4 := hc
      omega
/-- what a callee owes: its own end, and all that comes behind -/
theorem bg_owe {X : Int → Int} {LX d bc bs mi pc : Nat} {L : gm_L} {st : List gm_V} {Q : gm_Q} {u : Option gm_V} (hb : bg g la K R M) (hz : bs_ok la z g1) (hg : g < 10000) (hr : bs_rt z g1 c (bs_K la K) (bs_M la M) n' K' R' M') (hu : u = none ∨ ∃ x, u = some (gm_vi x)) (hW : ∀ g' la' K2 R2 M2, bg g' la' K2 R2 M2 → g' ≤ g + 1 → (∀ k j, k ≤ 245 → M2 k j = M' k j) → gm_Wp X LX d bc bs mi pc L (u.toList ++ st) (245 + 4 * g') K2 R2 M2 Q) : gm_owe X LX d bc bs mi pc L st (bg_rho (la 3)) (bg_f la) (245 + 4 * g1) (245 + 4 * g) K R M Q (.inl u) n' K' R' M' := by
  have hc : c ≤ 1 := by have := hr.1.1; omega
  refine ⟨u, rfl, hu, 245 + 4 * (g + c), _, _, _, fun ti α α1 hx => ⟨bg_al g c α α1, bg_xt hr.1.2 hc hg, bg_bgw hb hz hr hg hx⟩, bg_Rv (by omega) (bg_dl hb hr), hW (g + c) _ _ _ _ (bg_new hb hz hr hg) (by omega) (fun k j hk => bg_Ms hk j)⟩
end BGC
