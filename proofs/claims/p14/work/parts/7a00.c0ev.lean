/-! THE CORE: what never changes, what a stretch leaves alone (laid by wip/core/c0.py). -/
def E0 (n : Nat) (K : gm_K) (R : gm_R) : Prop := (∀ k q, p2_O.1 k = some q → (1 ≤ k ∧ k ≤ n) ∧ K k = q) ∧ ∀ k j r, p2_O.2.1 k j = some r → R k j = r
def cstL : List (Nat × Int × Int) := [(4, 0, 8), (4, 1, 7), (6, 0, 8), (6, 1, 3), (8, 0, 8), (8, 1, 3), (10, 0, 24), (10, 1, 7), (12, 0, 6), (12, 1, 6), (14, 0, 24), (14, 1, 3), (17, 0, 8), (17, 1, 7), (19, 0, 8), (19, 1, 3), (21, 0, 8), (21, 1, 3), (23, 0, 24), (23, 1, 7), (25, 0, 6), (25, 1, 6), (27, 0, 24), (27, 1, 3), (30, 0, 8), (30, 1, 7), (32, 0, 8), (32, 1, 3), (34, 0, 8), (34, 1, 3), (36, 0, 24), (36, 1, 7), (38, 0, 6), (38, 1, 6), (40, 0, 24), (40, 1, 3), (45, 0, 8), (45, 1, 7), (47, 0, 8), (47, 1, 3), (49, 0, 8), (49, 1, 3), (51, 0, 24), (51, 1, 7), (53, 0, 6), (53, 1, 6), (55, 0, 24), (55, 1, 3), (58, 0, 8), (58, 1, 7), (60, 0, 8), (60, 1, 3), (62, 0, 8), (62, 1, 3), (64, 0, 24), (64, 1, 7), (66, 0, 6), (66, 1, 6), (68, 0, 24), (68, 1, 3), (71, 0, 8), (71, 1, 7), (73, 0, 8), (73, 1, 3), (75, 0, 8), (75, 1, 3), (77, 0, 24), (77, 1, 7), (79, 0, 6), (79, 1, 6), (81, 0, 24), (81, 1, 3), (84, 0, 8), (84, 1, 7), (86, 0, 8), (86, 1, 3), (88, 0, 8), (88, 1, 3), (90, 0, 24), (90, 1, 7), (92, 0, 6), (92, 1, 6), (94, 0, 24), (94, 1, 3), (97, 0, 8), (97, 1, 7), (99, 0, 8), (99, 1, 3), (101, 0, 8), (101, 1, 3), (103, 0, 24), (103, 1, 7), (105, 0, 6), (105, 1, 6), (107, 0, 24), (107, 1, 3), (110, 0, 8), (110, 1, 7), (112, 0, 8), (112, 1, 3), (114, 0, 8), (114, 1, 3), (116, 0, 24), (116, 1, 7), (118, 0, 6), (118, 1, 6), (120, 0, 24), (120, 1, 3), (123, 0, 8), (123, 1, 7), (125, 0, 8), (125, 1, 3), (127, 0, 8), (127, 1, 3), (129, 0, 24), (129, 1, 7), (131, 0, 6), (131, 1, 6), (133, 0, 24), (133, 1, 3), (136, 0, 8), (136, 1, 7), (138, 0, 8), (138, 1, 3), (140, 0, 8), (140, 1, 3), (142, 0, 24), (142, 1, 7), (144, 0, 6), (144, 1, 6), (146, 0, 24), (146, 1, 3), (149, 0, 8), (149, 1, 7), (151, 0, 8), (151, 1, 3), (153, 0, 8), (153, 1, 3), (155, 0, 24), (155, 1, 7), (157, 0, 6), (157, 1, 6), (159, 0, 24), (159, 1, 3), (162, 0, 8), (162, 1, 7), (164, 0, 8), (164, 1, 3), (166, 0, 8), (166, 1, 3), (168, 0, 24), (168, 1, 7), (170, 0, 6), (170, 1, 6), (172, 0, 24), (172, 1, 3), (175, 0, 8), (175, 1, 7), (177, 0, 8), (177, 1, 3), (179, 0, 8), (179, 1, 3), (181, 0, 24), (181, 1, 7), (183, 0, 6), (183, 1, 6), (185, 0, 24), (185, 1, 3), (188, 0, 8), (188, 1, 7), (190, 0, 8), (190, 1, 3), (192, 0, 8), (192, 1, 3), (194, 0, 24), (194, 1, 7), (196, 0, 6), (196, 1, 6), (198, 0, 24), (198, 1, 3), (209, 0, 8), (209, 1, 300), (211, 0, 8), (211, 1, 300), (217, 0, 12), (217, 1, 4), (220, 0, 24), (220, 1, 2), (222, 0, 30), (222, 1, 6), (224, 0, 31), (224, 1, 6)]
def CST (M : gm_M) : Prop := ∀ q ∈ cstL, M q.1 q.2.1 = q.2.2
theorem cst_e : cstL.all (fun q => decide (gm_tyr p2_O q.1 q.2.1 q.2.1 = some (q.2.2, q.2.2))) = true := by decide +kernel
/-- what may be written: whole cells, single places -/
def fr (W : List (Nat × Option Int)) (M M2 : gm_M) : Prop := ∀ c j, ¬ (c, none) ∈ W → ¬ (c, some j) ∈ W → M2 c j = M c j
section EV
variable {n : Nat} {K : gm_K} {R : gm_R} {M M1 M2 : gm_M} {W W2 : List (Nat × Option Int)}
theorem e0F (hF : gm_Fx p2_O n K R M) : E0 n K R := ⟨fun k q h => ⟨⟨(hF.1 k q h).1, (hF.1 k q h).2.1⟩, (hF.1 k q h).2.2⟩, fun k j r h => (hF.2.1 k j r h).2⟩
theorem e0k (h : E0 n K R) {k c : Nat} (hq : p2_O.1 k = some (c + 4, 0)) : (1 ≤ k ∧ k ≤ n) ∧ (K k).1 = c + 4 := ⟨(h.1 k _ hq).1, by rw [(h.1 k _ hq).2]⟩
theorem e0a (h : E0 n K R) {k : Nat} {q : Nat × Nat} (hq : p2_O.1 k = some q) : (1 ≤ k ∧ k ≤ n) ∧ K k = q := h.1 k q hq
theorem e0r (h : E0 n K R) {k j r : Nat} (hq : p2_O.2.1 k (j : Int) = some r) : R k (j : Int) = r := h.2 k _ r hq
theorem e0u (h : E0 n K R) {k r : Nat} {j : Int} (hn : p2_O.2.1 k j = none) : E0 n K (gm_uR R k j r) := by
  refine ⟨h.1, fun a b s hs => ?_⟩
  unfold gm_uR
  rw [if_neg]
  · exact h.2 a b s hs
  · rintro ⟨rfl, rfl⟩
    rw [hn] at hs
    cases hs
theorem cstF (hF : gm_Fx p2_O n K R M) : CST M := by
  intro q hq
  have h := of_decide_eq_true (List.all_eq_true.mp cst_e q hq)
  have := ((gm_tyr_s hF h).2 q.2.1 (Int.le_refl _) (Int.le_refl _)).2
  omega
theorem fr_0 : fr W M M := fun _ _ _ _ => rfl
theorem fr_c (h : fr W M M2) {c : Nat} {j : Int} (hc : W.all (fun w => !(w.1 == c)) = true) : M2 c j = M c j := by
  refine h c j (fun hm => ?_) (fun hm => ?_)
  · have := List.all_eq_true.mp hc _ hm
    simp at this
  · have := List.all_eq_true.mp hc _ hm
    simp at this
theorem fr_j (h : fr W M M2) {c : Nat} {j : Int} (hc : W.all (fun w => !(w.1 == c) || !(w.2 == none || w.2 == some j)) = true) : M2 c j = M c j := by
  refine h c j (fun hm => ?_) (fun hm => ?_)
  · have := List.all_eq_true.mp hc _ hm
    simp at this
  · have := List.all_eq_true.mp hc _ hm
    simp at this
theorem fr_p (h : fr W M M1) {k : Nat} {j v : Int} (hm : (k, none) ∈ W ∨ (k, some j) ∈ W) : fr W M (gm_uM M1 k j v) := by
  intro c i h1 h2
  rw [uM_ne]
  · exact h c i h1 h2
  · rintro ⟨rfl, rfl⟩
    rcases hm with hm | hm
    · exact h1 hm
    · exact h2 hm
theorem fr_t (h : fr W M M1) (h2 : fr W2 M1 M2) (hs : W2.all (fun w => W.any (fun v => v.1 == w.1 && (v.2 == none || v.2 == w.2))) = true) : fr W M M2 := by
  have key : ∀ w, w ∈ W2 → (w.1, none) ∈ W ∨ w ∈ W := fun w hw => by
    obtain ⟨v, hv, he⟩ := List.any_eq_true.mp (List.all_eq_true.mp hs w hw)
    obtain ⟨v1, v2⟩ := v
    obtain ⟨w1, w2⟩ := w
    simp only [Bool.and_eq_true, Bool.or_eq_true, beq_iff_eq] at he
    obtain ⟨rfl, rfl | rfl⟩ := he
    · exact Or.inl hv
    · exact Or.inr hv
  intro c j h3 h4
  rw [h2 c j (fun hm => (key _ hm).elim (fun h => h3 h) (fun h => h3 h)) (fun hm => (key _ hm).elim (fun h => h3 h) (fun h => h4 h))]
  exact h c j h3 h4
theorem cst_fr (hC : CST M) (h : fr W M M2) (hw : W.all (fun w => cstL.all (fun q => !(q.1 == w.1 && (w.2 == none || w.2 == some q.2.1)))) = true) : CST M2 := by
  intro q hq
  rw [h q.1 q.2.1 (fun hm => ?_) (fun hm => ?_)]
  · exact hC q hq
  · have := List.all_eq_true.mp (List.all_eq_true.mp hw _ hm) q hq
    simp at this
  · have := List.all_eq_true.mp (List.all_eq_true.mp hw _ hm) q hq
    simp at this
theorem fw_pz {X : Int → Int} {LX d mi pc : Nat} {L : gm_L} {st : List gm_V} {ix k ci j : Nat} {x : Int} {M' : gm_M} (h : gm_at mi pc = some (.putfield ix)) (hk : (1 ≤ k ∧ k ≤ n) ∧ (K k).1 = ci + 4) (hf : gm_fld (gm_ow mi) ix ci = some j) (hm : gm_may mi ci j = true) (hfit : gm_fk ci j = 1) (hz : x = 0 ∨ x = 1) (hM : gm_uM M k (j : Int) x = M') : gm_Sp X LX d mi pc L (gm_vi x :: gm_vr k :: st) n K R M (pc + 3) L st n K R M' 0 0 := by
  rw [← hM]
  exact gm_p_puti h hk.1 hk.2 hf hm (Or.inr ⟨hfit, hz⟩)
theorem fw_c4 {a b c e : gm_V} (h1 : ¬ gm_sort a = 1) (h2 : ¬ gm_sort b = 1) (h3 : ¬ gm_sort c = 1) (h4 : ¬ gm_sort e = 1) : ∀ v ∈ [a, b, c, e], ¬ gm_sort v = 1 := fun v hv => by
  rcases List.mem_cons.mp hv with rfl | hv
  · exact h1
  · exact fw_c3 h2 h3 h4 v hv
theorem fw_c5 {a b c e f : gm_V} (h1 : ¬ gm_sort a = 1) (h2 : ¬ gm_sort b = 1) (h3 : ¬ gm_sort c = 1) (h4 : ¬ gm_sort e = 1) (h5 : ¬ gm_sort f = 1) : ∀ v ∈ [a, b, c, e, f], ¬ gm_sort v = 1 := fun v hv => by
  rcases List.mem_cons.mp hv with rfl | hv
  · exact h1
  · exact fw_c4 h2 h3 h4 h5 v hv
end EV
section RWS
variable {X : Int → Int} {LX d bc bs n : Nat} {K : gm_K} {R : gm_R} {M : gm_M} {Q : gm_Q} {c a len : Nat} {s w row col x v m : Int}
theorem rw_get (hk : (1 ≤ c ∧ c ≤ n) ∧ (K c).1 = 2 + 4) (ha : (1 ≤ a ∧ a ≤ n) ∧ K a = (0, len)) (hr : R c ((2 : Nat) : Int) = a) (hl : len < 2147483648) (hs : M c 3 = s) (hw : M c 1 = w) (h1 : 0 ≤ row ∧ row < s) (h2 : 0 ≤ col ∧ col < w) (hi : 0 ≤ row * w + col ∧ row * w + col < len) (hb : s ≤ 100000 ∧ w ≤ 100000) (hx : M a (row * w + col) = x) (hq : Q (.inl (some (gm_vi x))) n K R M) : gm_Wp X LX d bc bs 10 0 (gm_ent 10 [gm_vr c, gm_vi row, gm_vi col]) [] n K R M Q := by
  refine gm_sz (gm_p_load (pc := 0) (i := .iload_n 1) (sr := 0) (j := 1) (by decide +kernel) rfl rfl rfl) ?_
  refine fw_iff (cc := .lt) (pc := 1) (off := 23) (by decide +kernel) (by decide) ⟨by omega, by omega⟩ (show ¬ row < 0 by omega) ?_
  refine gm_sz (gm_p_load (pc := 4) (i := .iload_n 1) (sr := 0) (j := 1) (by decide +kernel) rfl rfl rfl) ?_
  refine gm_sz (gm_p_load (pc := 5) (i := .aload_n 0) (sr := 2) (j := 0) (by decide +kernel) rfl rfl rfl) ?_
  refine gm_sz (fw_gi (pc := 6) (ix := 9) (ci := 2) (j := 3) (x := s) (by decide +kernel) hk (by decide +kernel) (by decide +kernel) hs) ?_
  refine fw_icf (cc := .ge) (pc := 9) (off := 15) (by decide +kernel) (by decide) ⟨by omega, by omega⟩ ⟨by omega, by omega⟩ (show ¬ s ≤ row by omega) ?_
  refine gm_sz (gm_p_load (pc := 12) (i := .iload_n 2) (sr := 0) (j := 2) (by decide +kernel) rfl rfl rfl) ?_
  refine fw_iff (cc := .lt) (pc := 13) (off := 11) (by decide +kernel) (by decide) ⟨by omega, by omega⟩ (show ¬ col < 0 by omega) ?_
  refine gm_sz (gm_p_load (pc := 16) (i := .iload_n 2) (sr := 0) (j := 2) (by decide +kernel) rfl rfl rfl) ?_
  refine gm_sz (gm_p_load (pc := 17) (i := .aload_n 0) (sr := 2) (j := 0) (by decide +kernel) rfl rfl rfl) ?_
  refine gm_sz (fw_gi (pc := 18) (ix := 18) (ci := 2) (j := 1) (x := w) (by decide +kernel) hk (by decide +kernel) (by decide +kernel) hw) ?_
  refine fw_ict (cc := .lt) (pc := 21) (off := 5) (by decide +kernel) (by decide) ⟨by omega, by omega⟩ ⟨by omega, by omega⟩ (show col < w by omega) ?_
  refine gm_sz (gm_p_load (pc := 26) (i := .aload_n 0) (sr := 2) (j := 0) (by decide +kernel) rfl rfl rfl) ?_
  refine gm_sz (fw_gr (pc := 27) (ix := 21) (ci := 2) (j := 2) (r := a) (by decide +kernel) hk (by decide +kernel) (by decide +kernel) hr) ?_
  refine gm_sz (gm_p_load (pc := 30) (i := .iload_n 1) (sr := 0) (j := 1) (by decide +kernel) rfl rfl rfl) ?_
  refine gm_sz (gm_p_load (pc := 31) (i := .aload_n 0) (sr := 2) (j := 0) (by decide +kernel) rfl rfl rfl) ?_
  refine gm_sz (fw_gi (pc := 32) (ix := 18) (ci := 2) (j := 1) (x := w) (by decide +kernel) hk (by decide +kernel) (by decide +kernel) hw) ?_
  refine gm_sz (gm_p_bin (pc := 35) (i := .imul) (f := fun x y => x * y) (by decide +kernel) rfl) ?_
  refine gm_sz (gm_p_load (pc := 36) (i := .iload_n 2) (sr := 0) (j := 2) (by decide +kernel) rfl rfl rfl) ?_
  refine gm_sz (gm_p_bin (pc := 37) (i := .iadd) (f := fun x y => x + y) (by decide +kernel) rfl) ?_
  refine gm_sz (fw_ia (pc := 38) (k := a) (len := len) (e0 := (row * w) + col) (x := x) (by decide +kernel) ha.1 ha.2 (by omega) ⟨by omega, by omega⟩ hx) ?_
  exact gm_r_int (pc := 39) (by decide +kernel) (Or.inl (by decide +kernel)) hq
theorem rw_none (hk : (1 ≤ c ∧ c ≤ n) ∧ (K c).1 = 2 + 4) (hs : M c 3 = s) (h1 : row < 0 ∨ s ≤ row) (hb : gm_ir row ∧ gm_ir s) (hq : Q (.inl (some (gm_vi (-1)))) n K R M) : gm_Wp X LX d bc bs 10 0 (gm_ent 10 [gm_vr c, gm_vi row, gm_vi col]) [] n K R M Q := by
  obtain ⟨⟨r1, r2⟩, s1, s2⟩ := hb
  refine gm_sz (gm_p_load (pc := 0) (i := .iload_n 1) (sr := 0) (j := 1) (by decide +kernel) rfl rfl rfl) ?_
  refine fw_if (cc := .lt) (pc := 1) (off := 23) (by decide +kernel) (by decide) ⟨by omega, by omega⟩ (fun h1 => ?_) (fun h1 => ?_)
  · have h1 : row < 0 := h1
    refine gm_sz (gm_p_const (pc := 24) (i := .iconst (-1)) (v := gm_vi (-1)) (by decide +kernel) (by decide +kernel)) ?_
    exact gm_r_int (pc := 25) (by decide +kernel) (Or.inl (by decide +kernel)) hq
  · have h1 : ¬ row < 0 := h1
    refine gm_sz (gm_p_load (pc := 4) (i := .iload_n 1) (sr := 0) (j := 1) (by decide +kernel) rfl rfl rfl) ?_
    refine gm_sz (gm_p_load (pc := 5) (i := .aload_n 0) (sr := 2) (j := 0) (by decide +kernel) rfl rfl rfl) ?_
    refine gm_sz (fw_gi (pc := 6) (ix := 9) (ci := 2) (j := 3) (x := s) (by decide +kernel) hk (by decide +kernel) (by decide +kernel) hs) ?_
    refine fw_ict (cc := .ge) (pc := 9) (off := 15) (by decide +kernel) (by decide) ⟨by omega, by omega⟩ ⟨by omega, by omega⟩ (show s ≤ row by omega) ?_
    refine gm_sz (gm_p_const (pc := 24) (i := .iconst (-1)) (v := gm_vi (-1)) (by decide +kernel) (by decide +kernel)) ?_
    exact gm_r_int (pc := 25) (by decide +kernel) (Or.inl (by decide +kernel)) hq
theorem rw_put (hk : (1 ≤ c ∧ c ≤ n) ∧ (K c).1 = 2 + 4) (ha : (1 ≤ a ∧ a ≤ n) ∧ K a = (0, len)) (hr : R c ((2 : Nat) : Int) = a) (hl : len < 2147483648) (hs : M c 3 = s) (hw : M c 1 = w) (h1 : 0 ≤ row ∧ row < s) (h2 : 0 ≤ col ∧ col < w) (hi : 0 ≤ row * w + col ∧ row * w + col < len) (hb : s ≤ 100000 ∧ w ≤ 100000) (hq : Q (.inl none) n K R (gm_uM M a (row * w + col) v)) : gm_Wp X LX d bc bs 45 0 (gm_ent 45 [gm_vr c, gm_vi row, gm_vi col, gm_vi v]) [] n K R M Q := by
  refine gm_sz (gm_p_load (pc := 0) (i := .iload_n 1) (sr := 0) (j := 1) (by decide +kernel) rfl rfl rfl) ?_
  refine fw_iff (cc := .lt) (pc := 1) (off := 37) (by decide +kernel) (by decide) ⟨by omega, by omega⟩ (show ¬ row < 0 by omega) ?_
  refine gm_sz (gm_p_load (pc := 4) (i := .iload_n 1) (sr := 0) (j := 1) (by decide +kernel) rfl rfl rfl) ?_
  refine gm_sz (gm_p_load (pc := 5) (i := .aload_n 0) (sr := 2) (j := 0) (by decide +kernel) rfl rfl rfl) ?_
  refine gm_sz (fw_gi (pc := 6) (ix := 9) (ci := 2) (j := 3) (x := s) (by decide +kernel) hk (by decide +kernel) (by decide +kernel) hs) ?_
  refine fw_icf (cc := .ge) (pc := 9) (off := 29) (by decide +kernel) (by decide) ⟨by omega, by omega⟩ ⟨by omega, by omega⟩ (show ¬ s ≤ row by omega) ?_
  refine gm_sz (gm_p_load (pc := 12) (i := .iload_n 2) (sr := 0) (j := 2) (by decide +kernel) rfl rfl rfl) ?_
  refine fw_iff (cc := .lt) (pc := 13) (off := 25) (by decide +kernel) (by decide) ⟨by omega, by omega⟩ (show ¬ col < 0 by omega) ?_
  refine gm_sz (gm_p_load (pc := 16) (i := .iload_n 2) (sr := 0) (j := 2) (by decide +kernel) rfl rfl rfl) ?_
  refine gm_sz (gm_p_load (pc := 17) (i := .aload_n 0) (sr := 2) (j := 0) (by decide +kernel) rfl rfl rfl) ?_
  refine gm_sz (fw_gi (pc := 18) (ix := 18) (ci := 2) (j := 1) (x := w) (by decide +kernel) hk (by decide +kernel) (by decide +kernel) hw) ?_
  refine fw_icf (cc := .ge) (pc := 21) (off := 17) (by decide +kernel) (by decide) ⟨by omega, by omega⟩ ⟨by omega, by omega⟩ (show ¬ w ≤ col by omega) ?_
  refine gm_sz (gm_p_load (pc := 24) (i := .aload_n 0) (sr := 2) (j := 0) (by decide +kernel) rfl rfl rfl) ?_
  refine gm_sz (fw_gr (pc := 25) (ix := 21) (ci := 2) (j := 2) (r := a) (by decide +kernel) hk (by decide +kernel) (by decide +kernel) hr) ?_
  refine gm_sz (gm_p_load (pc := 28) (i := .iload_n 1) (sr := 0) (j := 1) (by decide +kernel) rfl rfl rfl) ?_
  refine gm_sz (gm_p_load (pc := 29) (i := .aload_n 0) (sr := 2) (j := 0) (by decide +kernel) rfl rfl rfl) ?_
  refine gm_sz (fw_gi (pc := 30) (ix := 18) (ci := 2) (j := 1) (x := w) (by decide +kernel) hk (by decide +kernel) (by decide +kernel) hw) ?_
  refine gm_sz (gm_p_bin (pc := 33) (i := .imul) (f := fun x y => x * y) (by decide +kernel) rfl) ?_
  refine gm_sz (gm_p_load (pc := 34) (i := .iload_n 2) (sr := 0) (j := 2) (by decide +kernel) rfl rfl rfl) ?_
  refine gm_sz (gm_p_bin (pc := 35) (i := .iadd) (f := fun x y => x + y) (by decide +kernel) rfl) ?_
  refine gm_sz (gm_p_load (pc := 36) (i := .iload_n 3) (sr := 0) (j := 3) (by decide +kernel) rfl rfl rfl) ?_
  refine gm_sz (fw_is (pc := 37) (k := a) (len := len) (e0 := (row * w) + col) (x := v) (M' := gm_uM M a ((row * w) + col) v) (by decide +kernel) ha.1 ha.2 (by omega) ⟨by omega, by omega⟩ rfl) ?_
  exact gm_r_void (pc := 38) (by decide +kernel) (by decide +kernel) hq
theorem rw_putn (hk : (1 ≤ c ∧ c ≤ n) ∧ (K c).1 = 2 + 4) (hs : M c 3 = s) (h1 : row < 0 ∨ s ≤ row) (hb : gm_ir row ∧ gm_ir s) (hq : Q (.inl none) n K R M) : gm_Wp X LX d bc bs 45 0 (gm_ent 45 [gm_vr c, gm_vi row, gm_vi col, gm_vi v]) [] n K R M Q := by
  obtain ⟨⟨r1, r2⟩, s1, s2⟩ := hb
  refine gm_sz (gm_p_load (pc := 0) (i := .iload_n 1) (sr := 0) (j := 1) (by decide +kernel) rfl rfl rfl) ?_
  refine fw_if (cc := .lt) (pc := 1) (off := 37) (by decide +kernel) (by decide) ⟨by omega, by omega⟩ (fun h1 => ?_) (fun h1 => ?_)
  · have h1 : row < 0 := h1
    exact gm_r_void (pc := 38) (by decide +kernel) (by decide +kernel) hq
  · have h1 : ¬ row < 0 := h1
    refine gm_sz (gm_p_load (pc := 4) (i := .iload_n 1) (sr := 0) (j := 1) (by decide +kernel) rfl rfl rfl) ?_
    refine gm_sz (gm_p_load (pc := 5) (i := .aload_n 0) (sr := 2) (j := 0) (by decide +kernel) rfl rfl rfl) ?_
    refine gm_sz (fw_gi (pc := 6) (ix := 9) (ci := 2) (j := 3) (x := s) (by decide +kernel) hk (by decide +kernel) (by decide +kernel) hs) ?_
    refine fw_ict (cc := .ge) (pc := 9) (off := 29) (by decide +kernel) (by decide) ⟨by omega, by omega⟩ ⟨by omega, by omega⟩ (show s ≤ row by omega) ?_
    exact gm_r_void (pc := 38) (by decide +kernel) (by decide +kernel) hq
theorem rw_size (hk : (1 ≤ c ∧ c ≤ n) ∧ (K c).1 = 2 + 4) (hs : M c 3 = s) (hq : Q (.inl (some (gm_vi s))) n K R M) : gm_Wp X LX d bc bs 9 0 (gm_ent 9 [gm_vr c]) [] n K R M Q := by
  refine gm_sz (gm_p_load (pc := 0) (i := .aload_n 0) (sr := 2) (j := 0) (by decide +kernel) rfl rfl rfl) ?_
  refine gm_sz (fw_gi (pc := 1) (ix := 9) (ci := 2) (j := 3) (x := s) (by decide +kernel) hk (by decide +kernel) (by decide +kernel) hs) ?_
  exact gm_r_int (pc := 4) (by decide +kernel) (Or.inl (by decide +kernel)) hq
theorem rw_add (hk : (1 ≤ c ∧ c ≤ n) ∧ (K c).1 = 2 + 4) (hs : M c 3 = s) (hm : M c 0 = m) (h1 : 0 ≤ s ∧ s < m) (hb : m ≤ 100000) (hq : Q (.inl (some (gm_vi s))) n K R (gm_uM M c 3 (s + 1))) : gm_Wp X LX d bc bs 102 0 (gm_ent 102 [gm_vr c]) [] n K R M Q := by
  refine gm_sz (gm_p_load (pc := 0) (i := .aload_n 0) (sr := 2) (j := 0) (by decide +kernel) rfl rfl rfl) ?_
  refine gm_sz (fw_gi (pc := 1) (ix := 9) (ci := 2) (j := 3) (x := s) (by decide +kernel) hk (by decide +kernel) (by decide +kernel) hs) ?_
  refine gm_sz (gm_p_load (pc := 4) (i := .aload_n 0) (sr := 2) (j := 0) (by decide +kernel) rfl rfl rfl) ?_
  refine gm_sz (fw_gi (pc := 5) (ix := 15) (ci := 2) (j := 0) (x := m) (by decide +kernel) hk (by decide +kernel) (by decide +kernel) hm) ?_
  refine fw_ict (cc := .lt) (pc := 8) (off := 5) (by decide +kernel) (by decide) ⟨by omega, by omega⟩ ⟨by omega, by omega⟩ (show s < m by omega) ?_
  refine gm_sz (gm_p_load (pc := 13) (i := .aload_n 0) (sr := 2) (j := 0) (by decide +kernel) rfl rfl rfl) ?_
  refine gm_sz (gm_p_dup (pc := 14) (by decide +kernel) fw_sr) ?_
  refine gm_sz (fw_gi (pc := 15) (ix := 9) (ci := 2) (j := 3) (x := s) (by decide +kernel) hk (by decide +kernel) (by decide +kernel) hs) ?_
  refine gm_sz (gm_p_const (pc := 18) (i := .iconst 1) (v := gm_vi 1) (by decide +kernel) (by decide +kernel)) ?_
  refine gm_sz (gm_p_bin (pc := 19) (i := .iadd) (f := fun x y => x + y) (by decide +kernel) rfl) ?_
  refine gm_sz (fw_pi (pc := 20) (ix := 9) (ci := 2) (j := 3) (M' := gm_uM M c 3 (s + 1)) (by decide +kernel) hk (by decide +kernel) (by decide +kernel) (by decide +kernel) rfl) ?_
  refine gm_sz (gm_p_load (pc := 23) (i := .aload_n 0) (sr := 2) (j := 0) (by decide +kernel) rfl rfl rfl) ?_
  refine gm_sz (fw_gi (pc := 24) (ix := 9) (ci := 2) (j := 3) (x := s + 1) (by decide +kernel) hk (by decide +kernel) (by decide +kernel) uM_at) ?_
  refine gm_sz (gm_p_const (pc := 27) (i := .iconst 1) (v := gm_vi 1) (by decide +kernel) (by decide +kernel)) ?_
  refine gm_sz (gm_p_bin (pc := 28) (i := .isub) (f := fun x y => x - y) (by decide +kernel) rfl) ?_
  rw [show (s + 1) - 1 = s by omega]
  exact gm_r_int (pc := 29) (by decide +kernel) (Or.inl (by decide +kernel)) hq
theorem rw_full (hk : (1 ≤ c ∧ c ≤ n) ∧ (K c).1 = 2 + 4) (hs : M c 3 = s) (hm : M c 0 = m) (hb : gm_ir s ∧ gm_ir m) (h1 : m ≤ s → Q (.inl (some (gm_vi 1))) n K R M) (h0 : s < m → Q (.inl (some (gm_vi 0))) n K R M) : gm_Wp X LX d bc bs 108 0 (gm_ent 108 [gm_vr c]) [] n K R M Q := by
  obtain ⟨⟨s1, s2⟩, m1, m2⟩ := hb
  refine gm_sz (gm_p_load (pc := 0) (i := .aload_n 0) (sr := 2) (j := 0) (by decide +kernel) rfl rfl rfl) ?_
  refine gm_sz (fw_gi (pc := 1) (ix := 9) (ci := 2) (j := 3) (x := s) (by decide +kernel) hk (by decide +kernel) (by decide +kernel) hs) ?_
  refine gm_sz (gm_p_load (pc := 4) (i := .aload_n 0) (sr := 2) (j := 0) (by decide +kernel) rfl rfl rfl) ?_
  refine gm_sz (fw_gi (pc := 5) (ix := 15) (ci := 2) (j := 0) (x := m) (by decide +kernel) hk (by decide +kernel) (by decide +kernel) hm) ?_
  refine fw_ic (cc := .lt) (pc := 8) (off := 7) (by decide +kernel) (by decide) ⟨by omega, by omega⟩ ⟨by omega, by omega⟩ (fun h8 => ?_) (fun h8 => ?_)
  · have h8 : s < m := h8
    refine gm_sz (gm_p_const (pc := 15) (i := .iconst 0) (v := gm_vi 0) (by decide +kernel) (by decide +kernel)) ?_
    exact gm_r_int (pc := 16) (by decide +kernel) (Or.inr ⟨(by decide +kernel), Or.inl rfl⟩) (h0 (by omega))
  · have h8 : ¬ s < m := h8
    refine gm_sz (gm_p_const (pc := 11) (i := .iconst 1) (v := gm_vi 1) (by decide +kernel) (by decide +kernel)) ?_
    refine gm_sz (gm_p_goto (pc := 12) (off := 4) (by decide +kernel) (by decide)) ?_
    exact gm_r_int (pc := 16) (by decide +kernel) (Or.inr ⟨(by decide +kernel), Or.inr rfl⟩) (h1 (by omega))
/-- a cell filled up to i -/
def gm_fil (M : gm_M) (a : Nat) (i v : Int) : gm_M := fun c j => if c = a ∧ 0 ≤ j ∧ j < i then v else M c j
theorem gm_fil_s {i : Int} (hi : 0 ≤ i) : gm_uM (gm_fil M a i v) a i v = gm_fil M a (i + 1) v := by
  funext c j
  unfold gm_uM gm_fil
  by_cases h1 : c = a
  · by_cases h2 : j = i
    · subst h2; subst h1; rw [if_pos ⟨rfl, rfl⟩, if_pos ⟨rfl, by omega, by omega⟩]
    · rw [if_neg (fun h => h2 h.2)]
      by_cases h3 : 0 ≤ j ∧ j < i
      · rw [if_pos ⟨h1, h3⟩, if_pos ⟨h1, by omega, by omega⟩]
      · rw [if_neg (fun h => h3 h.2), if_neg (fun h => by omega)]
  · rw [if_neg (fun h => h1 h.1), if_neg (fun h => h1 h.1), if_neg (fun h => h1 h.1)]
theorem gm_fil_0 : gm_fil M a 0 v = M := by
  funext c j
  unfold gm_fil
  rw [if_neg (fun h => by omega)]
theorem fl_l (ha : (1 ≤ a ∧ a ≤ n) ∧ K a = (0, len)) (hl : len < 2147483648) (hq : Q (.inl none) n K R (gm_fil M a len v)) : ∀ (u : Nat) (i : Int), i + u = len → 0 ≤ i → gm_Wp X LX d bc bs 8 5 [some (gm_vr a), some (gm_vi v), some (gm_vi i), some (gm_vi (len : Int))] [] n K R (gm_fil M a i v) Q := by
  intro u
  induction u with
  | zero =>
    intro i hu h0
    have hi : i = (len : Int) := by omega
    subst hi
    refine gm_sz (gm_p_load (pc := 5) (i := .iload_n 2) (sr := 0) (j := 2) (by decide +kernel) rfl rfl rfl) ?_
    refine gm_sz (gm_p_load (pc := 6) (i := .iload_n 3) (sr := 0) (j := 3) (by decide +kernel) rfl rfl rfl) ?_
    refine fw_ict (cc := .ge) (pc := 7) (off := 13) (by decide +kernel) (by decide) ⟨by omega, by omega⟩ ⟨by omega, by omega⟩ (show (len : Int) ≤ (len : Int) by omega) ?_
    exact gm_r_void (pc := 20) (by decide +kernel) (by decide +kernel) hq
  | succ u ih =>
    intro i hu h0
    refine gm_sz (gm_p_load (pc := 5) (i := .iload_n 2) (sr := 0) (j := 2) (by decide +kernel) rfl rfl rfl) ?_
    refine gm_sz (gm_p_load (pc := 6) (i := .iload_n 3) (sr := 0) (j := 3) (by decide +kernel) rfl rfl rfl) ?_
    refine fw_icf (cc := .ge) (pc := 7) (off := 13) (by decide +kernel) (by decide) ⟨by omega, by omega⟩ ⟨by omega, by omega⟩ (show ¬ (len : Int) ≤ i by omega) ?_
    refine gm_sz (gm_p_load (pc := 10) (i := .aload_n 0) (sr := 2) (j := 0) (by decide +kernel) rfl rfl rfl) ?_
    refine gm_sz (gm_p_load (pc := 11) (i := .iload_n 2) (sr := 0) (j := 2) (by decide +kernel) rfl rfl rfl) ?_
    refine gm_sz (gm_p_load (pc := 12) (i := .iload_n 1) (sr := 0) (j := 1) (by decide +kernel) rfl rfl rfl) ?_
    refine gm_sz (fw_is (pc := 13) (k := a) (len := len) (e0 := i) (x := v) (M' := gm_fil M a (i + 1) v) (by decide +kernel) ha.1 ha.2 (by omega) ⟨by omega, by omega⟩ (gm_fil_s h0)) ?_
    refine gm_sz (gm_p_iinc (pc := 14) (j := 2) (z := 1) (by decide +kernel) rfl) ?_
    refine gm_sz (gm_p_goto (pc := 17) (off := (-12)) (by decide +kernel) (by decide)) ?_
    exact ih (i + 1) (by omega) (by omega)
theorem fl_c8 (ha : (1 ≤ a ∧ a ≤ n) ∧ K a = (0, len)) (hl : len < 2147483648) (hq : Q (.inl none) n K R (gm_fil M a len v)) : gm_Wp X LX d bc bs 8 0 (gm_ent 8 [gm_vr a, gm_vi v]) [] n K R M Q := by
  refine gm_sz (gm_p_const (pc := 0) (i := .iconst 0) (v := gm_vi 0) (by decide +kernel) (by decide +kernel)) ?_
  refine gm_sz (gm_p_stor (pc := 1) (i := .istore_n 2) (sr := 0) (j := 2) (by decide +kernel) rfl (show 3 ≤ _ from Nat.le_of_ble_eq_true rfl) rfl) ?_
  refine gm_sz (gm_p_load (pc := 2) (i := .aload_n 0) (sr := 2) (j := 0) (by decide +kernel) rfl rfl rfl) ?_
  refine gm_sz (fw_al (pc := 3) (k := a) (len := len) (by decide +kernel) ha.1 ha.2 (by decide)) ?_
  refine gm_sz (gm_p_stor (pc := 4) (i := .istore_n 3) (sr := 0) (j := 3) (by decide +kernel) rfl (show 4 ≤ _ from Nat.le_of_ble_eq_true rfl) rfl) ?_
  have q := fl_l (X := X) (LX := LX) (d := d) (bc := bc) (bs := bs) (R := R) (M := M) (Q := Q) (v := v) ha hl hq len 0 (by omega) (Int.le_refl _)
  rw [gm_fil_0] at q
  exact q
theorem rw_reset (hd : 1 ≤ d) (hk : (1 ≤ c ∧ c ≤ n) ∧ (K c).1 = 2 + 4) (ha : (1 ≤ a ∧ a ≤ n) ∧ K a = (0, len)) (hr : R c ((2 : Nat) : Int) = a) (hl : len < 2147483648) (hm : M c 0 = m) (h1 : 0 ≤ row ∧ row ≤ m) (hb : m ≤ 100000) (hq : Q (.inl none) n K R (gm_fil (gm_uM M c 3 row) a len 0)) : gm_Wp X LX d bc bs 25 0 (gm_ent 25 [gm_vr c, gm_vi row]) [] n K R M Q := by
  refine gm_sz (gm_p_load (pc := 0) (i := .aload_n 0) (sr := 2) (j := 0) (by decide +kernel) rfl rfl rfl) ?_
  refine gm_sz (gm_p_const (pc := 1) (i := .iconst 0) (v := gm_vi 0) (by decide +kernel) (by decide +kernel)) ?_
  refine gm_sz (gm_p_load (pc := 2) (i := .iload_n 1) (sr := 0) (j := 1) (by decide +kernel) rfl rfl rfl) ?_
  refine gm_sz (gm_p_load (pc := 3) (i := .aload_n 0) (sr := 2) (j := 0) (by decide +kernel) rfl rfl rfl) ?_
  refine gm_sz (fw_gi (pc := 4) (ix := 15) (ci := 2) (j := 0) (x := m) (by decide +kernel) hk (by decide +kernel) (by decide +kernel) hm) ?_
  refine gm_sz (gm_p_min (pc := 7) (ix := 25) (x := row) (y := m) (by decide +kernel) (by decide +kernel) (gm_w_id (by omega) (by omega)) (gm_w_id (by omega) (by omega)) (Nat.le_of_ble_eq_true rfl) (by omega)) ?_
  refine gm_sz (gm_p_max (pc := 10) (ix := 31) (x := 0) (y := min row m) (by decide +kernel) (by decide +kernel) (gm_w_id (by omega) (by omega)) (gm_w_id (by omega) (by omega)) (Nat.le_of_ble_eq_true rfl) (by omega)) ?_
  rw [show max 0 (min row m) = row by omega]
  refine gm_sz (fw_pi (pc := 13) (ix := 9) (ci := 2) (j := 3) (M' := gm_uM M c 3 row) (by decide +kernel) hk (by decide +kernel) (by decide +kernel) (by decide +kernel) rfl) ?_
  refine gm_sz (gm_p_load (pc := 16) (i := .aload_n 0) (sr := 2) (j := 0) (by decide +kernel) rfl rfl rfl) ?_
  refine gm_sz (fw_gr (pc := 17) (ix := 21) (ci := 2) (j := 2) (r := a) (by decide +kernel) hk (by decide +kernel) (by decide +kernel) hr) ?_
  refine gm_sz (gm_p_const (pc := 20) (i := .iconst 0) (v := gm_vi 0) (by decide +kernel) (by decide +kernel)) ?_
  refine gm_c_stat (mj := 8) (ix := 34) (pc := 21) (as := [gm_vr a, gm_vi 0]) (st := []) (d' := d - 1) (bc' := 0) (bs' := 0) (by decide +kernel) (by decide +kernel) (by decide +kernel) (by decide +kernel) (show 2 = gm_na 8 by decide +kernel) (fw_c2 fw_sr fw_si) (show 2 ≤ gm_ml 8 by decide +kernel) (Nat.le_of_ble_eq_true rfl) (by omega) (Nat.zero_le _) (Nat.zero_le _) ?_
  refine fl_c8 ha hl ?_
  show gm_Wp X LX d _ _ 25 24 _ [] n K _ _ Q
  exact gm_r_void (pc := 24) (by decide +kernel) (by decide +kernel) hq
end RWS
