/-! 7a00.c0ev -/
section
/-! THE CORE: what never changes, what a stretch leaves alone (laid by wip/core/c0.py). -/
def E0 (n : Nat) (K : gm_K) (R : gm_R) : Prop := (∀ k q, p2_O.1 k = some q → (1 ≤ k ∧ k ≤ n) ∧ K k = q) ∧ ∀ k j r, p2_O.2.1 k j = some r → R k j = r
def cstL : List (Nat × Int × Int) := [(4, 0, 8), (4, 1, 7), (6, 0, 8), (6, 1, 3), (8, 0, 8), (8, 1, 3), (10, 0, 24), (10, 1, 7), (12, 0, 6), (12, 1, 6), (14, 0, 24), (14, 1, 3), (17, 0, 8), (17, 1, 7), (19, 0, 8), (19, 1, 3), (21, 0, 8), (21, 1, 3), (23, 0, 24), (23, 1, 7), (25, 0, 6), (25, 1, 6), (27, 0, 24), (27, 1, 3), (30, 0, 8), (30, 1, 7), (32, 0, 8), (32, 1, 3), (34, 0, 8), (34, 1, 3), (36, 0, 24), (36, 1, 7), (38, 0, 6), (38, 1, 6), (40, 0, 24), (40, 1, 3), (45, 0, 8), (45, 1, 7), (47, 0, 8), (47, 1, 3), (49, 0, 8), (49, 1, 3), (51, 0, 24), (51, 1, 7), (53, 0, 6), (53, 1, 6), (55, 0, 24), (55, 1, 3), (58, 0, 8), (58, 1, 7), (60, 0, 8), (60, 1, 3), (62, 0, 8), (62, 1, 3), (64, 0, 24), (64, 1, 7), (66, 0, 6), (66, 1, 6), (68, 0, 24), (68, 1, 3), (71, 0, 8), (71, 1, 7), (73, 0, 8), (73, 1, 3), (75, 0, 8), (75, 1, 3), (77, 0, 24), (77, 1, 7), (79, 0, 6), (79, 1, 6), (81, 0, 24), (81, 1, 3), (84, 0, 8), (84, 1, 7), (86, 0, 8), (86, 1, 3), (88, 0, 8), (88, 1, 3), (90, 0, 24), (90, 1, 7), (92, 0, 6), (92, 1, 6), (94, 0, 24), (94, 1, 3), (97, 0, 8), (97, 1, 7), (99, 0, 8), (99, 1, 3), (101, 0, 8), (101, 1, 3), (103, 0, 24), (103, 1, 7), (105, 0, 6), (105, 1, 6), (107, 0, 24), (107, 1, 3), (110, 0, 8), (110, 1, 7), (112, 0, 8), (112, 1, 3), (114, 0, 8), (114, 1, 3), (116, 0, 24), (116, 1, 7), (118, 0, 6), (118, 1, 6), (120, 0, 24), (120, 1, 3), (123, 0, 8), (123, 1, 7), (125, 0, 8), (125, 1, 3), (127, 0, 8), (127, 1, 3), (129, 0, 24), (129, 1, 7), (131, 0, 6), (131, 1, 6), (133, 0, 24), (133, 1, 3), (136, 0, 8), (136, 1, 7), (138, 0, 8), (138, 1, 3), (140, 0, 8), (140, 1, 3), (142, 0, 24), (142, 1, 7), (144, 0, 6), (144, 1, 6), (146, 0, 24), (146, 1, 3), (149, 0, 8), (149, 1, 7), (151, 0, 8), (151, 1, 3), (153, 0, 8), (153, 1, 3), (155, 0, 24), (155, 1, 7), (157, 0, 6), (157, 1, 6), (159, 0, 24), (159, 1, 3), (162, 0, 8), (162, 1, 7), (164, 0, 8), (164, 1, 3), (166, 0, 8), (166, 1, 3), (168, 0, 24), (168, 1, 7), (170, 0, 6), (170, 1, 6), (172, 0, 24), (172, 1, 3), (175, 0, 8), (175, 1, 7), (177, 0, 8), (177, 1, 3), (179, 0, 8), (179, 1, 3), (181, 0, 24), (181, 1, 7), (183, 0, 6), (183, 1, 6), (185, 0, 24), (185, 1, 3), (188, 0, 8), (188, 1, 7), (190, 0, 8), (190, 1, 3), (192, 0, 8), (192, 1, 3), (194, 0, 24), (194, 1, 7), (196, 0, 6), (196, 1, 6), (198, 0, 24), (198, 1, 3), (209, 0, 8), (209, 1, 300), (211, 0, 8), (211, 1, 300), (217, 0, 12), (217, 1, 4), (220, 0, 24), (220, 1, 2), (222, 0, 30), (222, 1, 6), (224, 0, 31), (224, 1, 6)]
def CST (M : gm_M) : Prop := ∀ q ∈ cstL, M q.1 q.2.1 = q.2.2
theorem cst_e : cstL.all (fun q => decide (gm_tyr p2_O q.1 q.2.1 q.2.1 = some (q.2.2, q.2.2))) = true := by decide +kernel
/-- what may be written: whole cells, single places -/
def fr (W : List (Nat × Option Int)) (M M2 : gm_M) : Prop := ∀ c j, ¬ (c, none) ∈ W → ¬ (c, some j) ∈ W → M2 c j = M c j
section EV
variable {n : Nat} {K : gm_K} {R : gm_R} {M M1 M2 : gm_M} {W W2 : List (Nat × Option Int)}
theorem e0F (hF : gm_Fx p2_O n K R M) : E0 n K R := ⟨fun k q h => ⟨⟨(hF.1 k q h).1, (hF.1 k q h).2.1⟩, (hF.1 k q h).2.2⟩, fun k j r h => (hF.2.1 k j r h).2⟩
theorem e0k (h : E0 n K R) {k c : Nat} (hq : p2_O.1 k = some (c + 4, 0)) : (1 ≤ k ∧ k ≤ n) ∧ (K k).1 = c + 4 := ⟨(h.1 k _ hq).1, by rw [(h.1 k _ hq).2]⟩
theorem e0a (h : E0 n K R) {k : Nat} {q : Nat × Nat} (hq : p2_O.1 k = some q) : (1 ≤ k ∧ k ≤ n) ∧ K k = q := h.1 k q hq
theorem e0r (h : E0 n K R) {k j r : Nat} (hq : p2_O.2.1 k (j : Int) = some r) : R k (j : Int) = r := h.2 k _ r hq
theorem e0u (h : E0 n K R) {k r : Nat} {j : Int} (hn : p2_O.2.1 k j = none) : E0 n K (gm_uR R k j r) := by
  refine ⟨h.1, fun a b s hs => ?_⟩
  unfold gm_uR
  rw [if_neg]
  · exact h.2 a b s hs
  · rintro ⟨rfl, rfl⟩
    rw [hn] at hs
    cases hs
theorem cstF (hF : gm_Fx p2_O n K R M) : CST M := by
  intro q hq
  have h := of_decide_eq_true (List.all_eq_true.mp cst_e q hq)
  have := ((gm_tyr_s hF h).2 q.2.1 (Int.le_refl _) (Int.le_refl _)).2
  omega
theorem fr_0 : fr W M M := fun _ _ _ _ => rfl
theorem fr_c (h : fr W M M2) {c : Nat} {j : Int} (hc : W.all (fun w => !(w.1 == c)) = true) : M2 c j = M c j := by
  refine h c j (fun hm => ?_) (fun hm => ?_)
  · have := List.all_eq_true.mp hc _ hm
    simp at this
  · have := List.all_eq_true.mp hc _ hm
    simp at this
theorem fr_j (h : fr W M M2) {c : Nat} {j : Int} (hc : W.all (fun w => !(w.1 == c) || !(w.2 == none || w.2 == some j)) = true) : M2 c j = M c j := by
  refine h c j (fun hm => ?_) (fun hm => ?_)
  · have := List.all_eq_true.mp hc _ hm
    simp at this
  · have := List.all_eq_true.mp hc _ hm
    simp at this
theorem fr_p (h : fr W M M1) {k : Nat} {j v : Int} (hm : (k, none) ∈ W ∨ (k, some j) ∈ W) : fr W M (gm_uM M1 k j v) := by
  intro c i h1 h2
  rw [uM_ne]
  · exact h c i h1 h2
  · rintro ⟨rfl, rfl⟩
    rcases hm with hm | hm
    · exact h1 hm
    · exact h2 hm
theorem fr_t (h : fr W M M1) (h2 : fr W2 M1 M2) (hs : W2.all (fun w => W.any (fun v => v.1 == w.1 && (v.2 == none || v.2 == w.2))) = true) : fr W M M2 := by
  have key : ∀ w, w ∈ W2 → (w.1, none) ∈ W ∨ w ∈ W := fun w hw => by
    obtain ⟨v, hv, he⟩ := List.any_eq_true.mp (List.all_eq_true.mp hs w hw)
    obtain ⟨v1, v2⟩ := v
    obtain ⟨w1, w2⟩ := w
    simp only [Bool.and_eq_true, Bool.or_eq_true, beq_iff_eq] at he
    obtain ⟨rfl, rfl | rfl⟩ := he
    · exact Or.inl hv
    · exact Or.inr hv
  intro c j h3 h4
  rw [h2 c j (fun hm => (key _ hm).elim (fun h => h3 h) (fun h => h3 h)) (fun hm => (key _ hm).elim (fun h => h3 h) (fun h => h4 h))]
  exact h c j h3 h4
theorem cst_fr (hC : CST M) (h : fr W M M2) (hw : W.all (fun w => cstL.all (fun q => !(q.1 == w.1 && (w.2 == none || w.2 == some q.2.1)))) = true) : CST M2 := by
  intro q hq
  rw [h q.1 q.2.1 (fun hm => ?_) (fun hm => ?_)]
  · exact hC q hq
  · have := List.all_eq_true.mp (List.all_eq_true.mp hw _ hm) q hq
    simp at this
  · have := List.all_eq_true.mp (List.all_eq_true.mp hw _ hm) q hq
    simp at this
theorem fw_pz {X : Int → Int} {LX d mi pc : Nat} {L : gm_L} {st : List gm_V} {ix k ci j : Nat} {x : Int} {M' : gm_M} (h : gm_at mi pc = some (.putfield ix)) (hk : (1 ≤ k ∧ k ≤ n) ∧ (K k).1 = ci + 4) (hf : gm_fld (gm_ow mi) ix ci = some j) (hm : gm_may mi ci j = true) (hfit : gm_fk ci j = 1) (hz : x = 0 ∨ x = 1) (hM : gm_uM M k (j : Int) x = M') : gm_Sp X LX d mi pc L (gm_vi x :: gm_vr k :: st) n K R M (pc + 3) L st n K R M' 0 0 := by
  rw [← hM]
  exact gm_p_puti h hk.1 hk.2 hf hm (Or.inr ⟨hfit, hz⟩)
theorem fw_c4 {a b c e : gm_V} (h1 : ¬ gm_sort a = 1) (h2 : ¬ gm_sort b = 1) (h3 : ¬ gm_sort c = 1) (h4 : ¬ gm_sort e = 1) : ∀ v ∈ [a, b, c, e], ¬ gm_sort v = 1 := fun v hv => by
  rcases List.mem_cons.mp hv with rfl | hv
  · exact h1
  · exact fw_c3 h2 h3 h4 v hv
theorem fw_c5 {a b c e f : gm_V} (h1 : ¬ gm_sort a = 1) (h2 : ¬ gm_sort b = 1) (h3 : ¬ gm_sort c = 1) (h4 : ¬ gm_sort e = 1) (h5 : ¬ gm_sort f = 1) : ∀ v ∈ [a, b, c, e, f], ¬ gm_sort v = 1 := fun v hv => by
  rcases List.mem_cons.mp hv with rfl | hv
  · exact h1
  · exact fw_c4 h2 h3 h4 h5 v hv
end EV
section RWS
variable {X : Int → Int} {LX d bc bs n : Nat} {K : gm_K} {R : gm_R} {M : gm_M} {Q : gm_Q} {c a len : Nat} {s w row col x v m : Int}
theorem rw_get (hk : (1 ≤ c ∧ c ≤ n) ∧ (K c).1 = 2 + 4) (ha : (1 ≤ a ∧ a ≤ n) ∧ K a = (0, len)) (hr : R c ((2 : Nat) : Int) = a) (hl : len < 2147483648) (hs : M c 3 = s) (hw : M c 1 = w) (h1 : 0 ≤ row ∧ row < s) (h2 : 0 ≤ col ∧ col < w) (hi : 0 ≤ row * w + col ∧ row * w + col < len) (hb : s ≤ 100000 ∧ w ≤ 100000) (hx : M a (row * w + col) = x) (hq : Q (.inl (some (gm_vi x))) n K R M) : gm_Wp X LX d bc bs 10 0 (gm_ent 10 [gm_vr c, gm_vi row, gm_vi col]) [] n K R M Q := by
  refine gm_sz (gm_p_load (pc := 0) (i := .iload_n 1) (sr := 0) (j := 1) (by decide +kernel) rfl rfl rfl) ?_
  refine fw_iff (cc := .lt) (pc := 1) (off := 23) (by decide +kernel) (by decide) ⟨by omega, by omega⟩ (show ¬ row < 0 by omega) ?_
  refine gm_sz (gm_p_load (pc := 4) (i := .iload_n 1) (sr := 0) (j := 1) (by decide +kernel) rfl rfl rfl) ?_
  refine gm_sz (gm_p_load (pc := 5) (i := .aload_n 0) (sr := 2) (j := 0) (by decide +kernel) rfl rfl rfl) ?_
  refine gm_sz (fw_gi (pc := 6) (ix := 9) (ci := 2) (j := 3) (x := s) (by decide +kernel) hk (by decide +kernel) (by decide +kernel) hs) ?_
  refine fw_icf (cc := .ge) (pc := 9) (off := 15) (by decide +kernel) (by decide) ⟨by omega, by omega⟩ ⟨by omega, by omega⟩ (show ¬ s ≤ row by omega) ?_
  refine gm_sz (gm_p_load (pc := 12) (i := .iload_n 2) (sr := 0) (j := 2) (by decide +kernel) rfl rfl rfl) ?_
  refine fw_iff (cc := .lt) (pc := 13) (off := 11) (by decide +kernel) (by decide) ⟨by omega, by omega⟩ (show ¬ col < 0 by omega) ?_
  refine gm_sz (gm_p_load (pc := 16) (i := .iload_n 2) (sr := 0) (j := 2) (by decide +kernel) rfl rfl rfl) ?_
  refine gm_sz (gm_p_load (pc := 17) (i := .aload_n 0) (sr := 2) (j := 0) (by decide +kernel) rfl rfl rfl) ?_
  refine gm_sz (fw_gi (pc := 18) (ix := 18) (ci := 2) (j := 1) (x := w) (by decide +kernel) hk (by decide +kernel) (by decide +kernel) hw) ?_
  refine fw_ict (cc := .lt) (pc := 21) (off := 5) (by decide +kernel) (by decide) ⟨by omega, by omega⟩ ⟨by omega, by omega⟩ (show col < w by omega) ?_
  refine gm_sz (gm_p_load (pc := 26) (i := .aload_n 0) (sr := 2) (j := 0) (by decide +kernel) rfl rfl rfl) ?_
  refine gm_sz (fw_gr (pc := 27) (ix := 21) (ci := 2) (j := 2) (r := a) (by decide +kernel) hk (by decide +kernel) (by decide +kernel) hr) ?_
  refine gm_sz (gm_p_load (pc := 30) (i := .iload_n 1) (sr := 0) (j := 1) (by decide +kernel) rfl rfl rfl) ?_
  refine gm_sz (gm_p_load (pc := 31) (i := .aload_n 0) (sr := 2) (j := 0) (by decide +kernel) rfl rfl rfl) ?_
  refine gm_sz (fw_gi (pc := 32) (ix := 18) (ci := 2) (j := 1) (x := w) (by decide +kernel) hk (by decide +kernel) (by decide +kernel) hw) ?_
  refine gm_sz (gm_p_bin (pc := 35) (i := .imul) (f := fun x y => x * y) (by decide +kernel) rfl) ?_
  refine gm_sz (gm_p_load (pc := 36) (i := .iload_n 2) (sr := 0) (j := 2) (by decide +kernel) rfl rfl rfl) ?_
  refine gm_sz (gm_p_bin (pc := 37) (i := .iadd) (f := fun x y => x + y) (by decide +kernel) rfl) ?_
  refine gm_sz (fw_ia (pc := 38) (k := a) (len := len) (e0 := (row * w) + col) (x := x) (by decide +kernel) ha.1 ha.2 (by omega) ⟨by omega, by omega⟩ hx) ?_
  exact gm_r_int (pc := 39) (by decide +kernel) (Or.inl (by decide +kernel)) hq
theorem rw_none (hk : (1 ≤ c ∧ c ≤ n) ∧ (K c).1 = 2 + 4) (hs : M c 3 = s) (h1 : row < 0 ∨ s ≤ row) (hb : gm_ir row ∧ gm_ir s) (hq : Q (.inl (some (gm_vi (-1)))) n K R M) : gm_Wp X LX d bc bs 10 0 (gm_ent 10 [gm_vr c, gm_vi row, gm_vi col]) [] n K R M Q := by
  obtain ⟨⟨r1, r2⟩, s1, s2⟩ := hb
  refine gm_sz (gm_p_load (pc := 0) (i := .iload_n 1) (sr := 0) (j := 1) (by decide +kernel) rfl rfl rfl) ?_
  refine fw_if (cc := .lt) (pc := 1) (off := 23) (by decide +kernel) (by decide) ⟨by omega, by omega⟩ (fun h1 => ?_) (fun h1 => ?_)
  · have h1 : row < 0 := h1
    refine gm_sz (gm_p_const (pc := 24) (i := .iconst (-1)) (v := gm_vi (-1)) (by decide +kernel) (by decide +kernel)) ?_
    exact gm_r_int (pc := 25) (by decide +kernel) (Or.inl (by decide +kernel)) hq
  · have h1 : ¬ row < 0 := h1
    refine gm_sz (gm_p_load (pc := 4) (i := .iload_n 1) (sr := 0) (j := 1) (by decide +kernel) rfl rfl rfl) ?_
    refine gm_sz (gm_p_load (pc := 5) (i := .aload_n 0) (sr := 2) (j := 0) (by decide +kernel) rfl rfl rfl) ?_
    refine gm_sz (fw_gi (pc := 6) (ix := 9) (ci := 2) (j := 3) (x := s) (by decide +kernel) hk (by decide +kernel) (by decide +kernel) hs) ?_
    refine fw_ict (cc := .ge) (pc := 9) (off := 15) (by decide +kernel) (by decide) ⟨by omega, by omega⟩ ⟨by omega, by omega⟩ (show s ≤ row by omega) ?_
    refine gm_sz (gm_p_const (pc := 24) (i := .iconst (-1)) (v := gm_vi (-1)) (by decide +kernel) (by decide +kernel)) ?_
    exact gm_r_int (pc := 25) (by decide +kernel) (Or.inl (by decide +kernel)) hq
theorem rw_put (hk : (1 ≤ c ∧ c ≤ n) ∧ (K c).1 = 2 + 4) (ha : (1 ≤ a ∧ a ≤ n) ∧ K a = (0, len)) (hr : R c ((2 : Nat) : Int) = a) (hl : len < 2147483648) (hs : M c 3 = s) (hw : M c 1 = w) (h1 : 0 ≤ row ∧ row < s) (h2 : 0 ≤ col ∧ col < w) (hi : 0 ≤ row * w + col ∧ row * w + col < len) (hb : s ≤ 100000 ∧ w ≤ 100000) (hq : Q (.inl none) n K R (gm_uM M a (row * w + col) v)) : gm_Wp X LX d bc bs 45 0 (gm_ent 45 [gm_vr c, gm_vi row, gm_vi col, gm_vi v]) [] n K R M Q := by
  refine gm_sz (gm_p_load (pc := 0) (i := .iload_n 1) (sr := 0) (j := 1) (by decide +kernel) rfl rfl rfl) ?_
  refine fw_iff (cc := .lt) (pc := 1) (off := 37) (by decide +kernel) (by decide) ⟨by omega, by omega⟩ (show ¬ row < 0 by omega) ?_
  refine gm_sz (gm_p_load (pc := 4) (i := .iload_n 1) (sr := 0) (j := 1) (by decide +kernel) rfl rfl rfl) ?_
  refine gm_sz (gm_p_load (pc := 5) (i := .aload_n 0) (sr := 2) (j := 0) (by decide +kernel) rfl rfl rfl) ?_
  refine gm_sz (fw_gi (pc := 6) (ix := 9) (ci := 2) (j := 3) (x := s) (by decide +kernel) hk (by decide +kernel) (by decide +kernel) hs) ?_
  refine fw_icf (cc := .ge) (pc := 9) (off := 29) (by decide +kernel) (by decide) ⟨by omega, by omega⟩ ⟨by omega, by omega⟩ (show ¬ s ≤ row by omega) ?_
  refine gm_sz (gm_p_load (pc := 12) (i := .iload_n 2) (sr := 0) (j := 2) (by decide +kernel) rfl rfl rfl) ?_
  refine fw_iff (cc := .lt) (pc := 13) (off := 25) (by decide +kernel) (by decide) ⟨by omega, by omega⟩ (show ¬ col < 0 by omega) ?_
  refine gm_sz (gm_p_load (pc := 16) (i := .iload_n 2) (sr := 0) (j := 2) (by decide +kernel) rfl rfl rfl) ?_
  refine gm_sz (gm_p_load (pc := 17) (i := .aload_n 0) (sr := 2) (j := 0) (by decide +kernel) rfl rfl rfl) ?_
  refine gm_sz (fw_gi (pc := 18) (ix := 18) (ci := 2) (j := 1) (x := w) (by decide +kernel) hk (by decide +kernel) (by decide +kernel) hw) ?_
  refine fw_icf (cc := .ge) (pc := 21) (off := 17) (by decide +kernel) (by decide) ⟨by omega, by omega⟩ ⟨by omega, by omega⟩ (show ¬ w ≤ col by omega) ?_
  refine gm_sz (gm_p_load (pc := 24) (i := .aload_n 0) (sr := 2) (j := 0) (by decide +kernel) rfl rfl rfl) ?_
  refine gm_sz (fw_gr (pc := 25) (ix := 21) (ci := 2) (j := 2) (r := a) (by decide +kernel) hk (by decide +kernel) (by decide +kernel) hr) ?_
  refine gm_sz (gm_p_load (pc := 28) (i := .iload_n 1) (sr := 0) (j := 1) (by decide +kernel) rfl rfl rfl) ?_
  refine gm_sz (gm_p_load (pc := 29) (i := .aload_n 0) (sr := 2) (j := 0) (by decide +kernel) rfl rfl rfl) ?_
  refine gm_sz (fw_gi (pc := 30) (ix := 18) (ci := 2) (j := 1) (x := w) (by decide +kernel) hk (by decide +kernel) (by decide +kernel) hw) ?_
  refine gm_sz (gm_p_bin (pc := 33) (i := .imul) (f := fun x y => x * y) (by decide +kernel) rfl) ?_
  refine gm_sz (gm_p_load (pc := 34) (i := .iload_n 2) (sr := 0) (j := 2) (by decide +kernel) rfl rfl rfl) ?_
  refine gm_sz (gm_p_bin (pc := 35) (i := .iadd) (f := fun x y => x + y) (by decide +kernel) rfl) ?_
  refine gm_sz (gm_p_load (pc := 36) (i := .iload_n 3) (sr := 0) (j := 3) (by decide +kernel) rfl rfl rfl) ?_
  refine gm_sz (fw_is (pc := 37) (k := a) (len := len) (e0 := (row * w) + col) (x := v) (M' := gm_uM M a ((row * w) + col) v) (by decide +kernel) ha.1 ha.2 (by omega) ⟨by omega, by omega⟩ rfl) ?_
  exact gm_r_void (pc := 38) (by decide +kernel) (by decide +kernel) hq
theorem rw_putn (hk : (1 ≤ c ∧ c ≤ n) ∧ (K c).1 = 2 + 4) (hs : M c 3 = s) (h1 : row < 0 ∨ s ≤ row) (hb : gm_ir row ∧ gm_ir s) (hq : Q (.inl none) n K R M) : gm_Wp X LX d bc bs 45 0 (gm_ent 45 [gm_vr c, gm_vi row, gm_vi col, gm_vi v]) [] n K R M Q := by
  obtain ⟨⟨r1, r2⟩, s1, s2⟩ := hb
  refine gm_sz (gm_p_load (pc := 0) (i := .iload_n 1) (sr := 0) (j := 1) (by decide +kernel) rfl rfl rfl) ?_
  refine fw_if (cc := .lt) (pc := 1) (off := 37) (by decide +kernel) (by decide) ⟨by omega, by omega⟩ (fun h1 => ?_) (fun h1 => ?_)
  · have h1 : row < 0 := h1
    exact gm_r_void (pc := 38) (by decide +kernel) (by decide +kernel) hq
  · have h1 : ¬ row < 0 := h1
    refine gm_sz (gm_p_load (pc := 4) (i := .iload_n 1) (sr := 0) (j := 1) (by decide +kernel) rfl rfl rfl) ?_
    refine gm_sz (gm_p_load (pc := 5) (i := .aload_n 0) (sr := 2) (j := 0) (by decide +kernel) rfl rfl rfl) ?_
    refine gm_sz (fw_gi (pc := 6) (ix := 9) (ci := 2) (j := 3) (x := s) (by decide +kernel) hk (by decide +kernel) (by decide +kernel) hs) ?_
    refine fw_ict (cc := .ge) (pc := 9) (off := 29) (by decide +kernel) (by decide) ⟨by omega, by omega⟩ ⟨by omega, by omega⟩ (show s ≤ row by omega) ?_
    exact gm_r_void (pc := 38) (by decide +kernel) (by decide +kernel) hq
theorem rw_size (hk : (1 ≤ c ∧ c ≤ n) ∧ (K c).1 = 2 + 4) (hs : M c 3 = s) (hq : Q (.inl (some (gm_vi s))) n K R M) : gm_Wp X LX d bc bs 9 0 (gm_ent 9 [gm_vr c]) [] n K R M Q := by
  refine gm_sz (gm_p_load (pc := 0) (i := .aload_n 0) (sr := 2) (j := 0) (by decide +kernel) rfl rfl rfl) ?_
  refine gm_sz (fw_gi (pc := 1) (ix := 9) (ci := 2) (j := 3) (x := s) (by decide +kernel) hk (by decide +kernel) (by decide +kernel) hs) ?_
  exact gm_r_int (pc := 4) (by decide +kernel) (Or.inl (by decide +kernel)) hq
theorem rw_add (hk : (1 ≤ c ∧ c ≤ n) ∧ (K c).1 = 2 + 4) (hs : M c 3 = s) (hm : M c 0 = m) (h1 : 0 ≤ s ∧ s < m) (hb : m ≤ 100000) (hq : Q (.inl (some (gm_vi s))) n K R (gm_uM M c 3 (s + 1))) : gm_Wp X LX d bc bs 102 0 (gm_ent 102 [gm_vr c]) [] n K R M Q := by
  refine gm_sz (gm_p_load (pc := 0) (i := .aload_n 0) (sr := 2) (j := 0) (by decide +kernel) rfl rfl rfl) ?_
  refine gm_sz (fw_gi (pc := 1) (ix := 9) (ci := 2) (j := 3) (x := s) (by decide +kernel) hk (by decide +kernel) (by decide +kernel) hs) ?_
  refine gm_sz (gm_p_load (pc := 4) (i := .aload_n 0) (sr := 2) (j := 0) (by decide +kernel) rfl rfl rfl) ?_
  refine gm_sz (fw_gi (pc := 5) (ix := 15) (ci := 2) (j := 0) (x := m) (by decide +kernel) hk (by decide +kernel) (by decide +kernel) hm) ?_
  refine fw_ict (cc := .lt) (pc := 8) (off := 5) (by decide +kernel) (by decide) ⟨by omega, by omega⟩ ⟨by omega, by omega⟩ (show s < m by omega) ?_
  refine gm_sz (gm_p_load (pc := 13) (i := .aload_n 0) (sr := 2) (j := 0) (by decide +kernel) rfl rfl rfl) ?_
  refine gm_sz (gm_p_dup (pc := 14) (by decide +kernel) fw_sr) ?_
  refine gm_sz (fw_gi (pc := 15) (ix := 9) (ci := 2) (j := 3) (x := s) (by decide +kernel) hk (by decide +kernel) (by decide +kernel) hs) ?_
  refine gm_sz (gm_p_const (pc := 18) (i := .iconst 1) (v := gm_vi 1) (by decide +kernel) (by decide +kernel)) ?_
  refine gm_sz (gm_p_bin (pc := 19) (i := .iadd) (f := fun x y => x + y) (by decide +kernel) rfl) ?_
  refine gm_sz (fw_pi (pc := 20) (ix := 9) (ci := 2) (j := 3) (M' := gm_uM M c 3 (s + 1)) (by decide +kernel) hk (by decide +kernel) (by decide +kernel) (by decide +kernel) rfl) ?_
  refine gm_sz (gm_p_load (pc := 23) (i := .aload_n 0) (sr := 2) (j := 0) (by decide +kernel) rfl rfl rfl) ?_
  refine gm_sz (fw_gi (pc := 24) (ix := 9) (ci := 2) (j := 3) (x := s + 1) (by decide +kernel) hk (by decide +kernel) (by decide +kernel) uM_at) ?_
  refine gm_sz (gm_p_const (pc := 27) (i := .iconst 1) (v := gm_vi 1) (by decide +kernel) (by decide +kernel)) ?_
  refine gm_sz (gm_p_bin (pc := 28) (i := .isub) (f := fun x y => x - y) (by decide +kernel) rfl) ?_
  rw [show (s + 1) - 1 = s by omega]
  exact gm_r_int (pc := 29) (by decide +kernel) (Or.inl (by decide +kernel)) hq
theorem rw_full (hk : (1 ≤ c ∧ c ≤ n) ∧ (K c).1 = 2 + 4) (hs : M c 3 = s) (hm : M c 0 = m) (hb : gm_ir s ∧ gm_ir m) (h1 : m ≤ s → Q (.inl (some (gm_vi 1))) n K R M) (h0 : s < m → Q (.inl (some (gm_vi 0))) n K R M) : gm_Wp X LX d bc bs 108 0 (gm_ent 108 [gm_vr c]) [] n K R M Q := by
  obtain ⟨⟨s1, s2⟩, m1, m2⟩ := hb
  refine gm_sz (gm_p_load (pc := 0) (i := .aload_n 0) (sr := 2) (j := 0) (by decide +kernel) rfl rfl rfl) ?_
  refine gm_sz (fw_gi (pc := 1) (ix := 9) (ci := 2) (j := 3) (x := s) (by decide +kernel) hk (by decide +kernel) (by decide +kernel) hs) ?_
  refine gm_sz (gm_p_load (pc := 4) (i := .aload_n 0) (sr := 2) (j := 0) (by decide +kernel) rfl rfl rfl) ?_
  refine gm_sz (fw_gi (pc := 5) (ix := 15) (ci := 2) (j := 0) (x := m) (by decide +kernel) hk (by decide +kernel) (by decide +kernel) hm) ?_
  refine fw_ic (cc := .lt) (pc := 8) (off := 7) (by decide +kernel) (by decide) ⟨by omega, by omega⟩ ⟨by omega, by omega⟩ (fun h8 => ?_) (fun h8 => ?_)
  · have h8 : s < m := h8
    refine gm_sz (gm_p_const (pc := 15) (i := .iconst 0) (v := gm_vi 0) (by decide +kernel) (by decide +kernel)) ?_
    exact gm_r_int (pc := 16) (by decide +kernel) (Or.inr ⟨(by decide +kernel), Or.inl rfl⟩) (h0 (by omega))
  · have h8 : ¬ s < m := h8
    refine gm_sz (gm_p_const (pc := 11) (i := .iconst 1) (v := gm_vi 1) (by decide +kernel) (by decide +kernel)) ?_
    refine gm_sz (gm_p_goto (pc := 12) (off := 4) (by decide +kernel) (by decide)) ?_
    exact gm_r_int (pc := 16) (by decide +kernel) (Or.inr ⟨(by decide +kernel), Or.inr rfl⟩) (h1 (by omega))
/-- a cell filled up to i -/
def gm_fil (M : gm_M) (a : Nat) (i v : Int) : gm_M := fun c j => if c = a ∧ 0 ≤ j ∧ j < i then v else M c j
theorem gm_fil_s {i : Int} (hi : 0 ≤ i) : gm_uM (gm_fil M a i v) a i v = gm_fil M a (i + 1) v := by
  funext c j
  unfold gm_uM gm_fil
  by_cases h1 : c = a
  · by_cases h2 : j = i
    · subst h2; subst h1; rw [if_pos ⟨rfl, rfl⟩, if_pos ⟨rfl, by omega, by omega⟩]
    · rw [if_neg (fun h => h2 h.2)]
      by_cases h3 : 0 ≤ j ∧ j < i
      · rw [if_pos ⟨h1, h3⟩, if_pos ⟨h1, by omega, by omega⟩]
      · rw [if_neg (fun h => h3 h.2), if_neg (fun h => by omega)]
  · rw [if_neg (fun h => h1 h.1), if_neg (fun h => h1 h.1), if_neg (fun h => h1 h.1)]
theorem gm_fil_0 : gm_fil M a 0 v = M := by
  funext c j
  unfold gm_fil
  rw [if_neg (fun h => by omega)]
theorem fl_l (ha : (1 ≤ a ∧ a ≤ n) ∧ K a = (0, len)) (hl : len < 2147483648) (hq : Q (.inl none) n K R (gm_fil M a len v)) : ∀ (u : Nat) (i : Int), i + u = len → 0 ≤ i → gm_Wp X LX d bc bs 8 5 [some (gm_vr a), some (gm_vi v), some (gm_vi i), some (gm_vi (len : Int))] [] n K R (gm_fil M a i v) Q := by
  intro u
  induction u with
  | zero =>
    intro i hu h0
    have hi : i = (len : Int) := by omega
    subst hi
    refine gm_sz (gm_p_load (pc := 5) (i := .iload_n 2) (sr := 0) (j := 2) (by decide +kernel) rfl rfl rfl) ?_
    refine gm_sz (gm_p_load (pc := 6) (i := .iload_n 3) (sr := 0) (j := 3) (by decide +kernel) rfl rfl rfl) ?_
    refine fw_ict (cc := .ge) (pc := 7) (off := 13) (by decide +kernel) (by decide) ⟨by omega, by omega⟩ ⟨by omega, by omega⟩ (show (len : Int) ≤ (len : Int) by omega) ?_
    exact gm_r_void (pc := 20) (by decide +kernel) (by decide +kernel) hq
  | succ u ih =>
    intro i hu h0
    refine gm_sz (gm_p_load (pc := 5) (i := .iload_n 2) (sr := 0) (j := 2) (by decide +kernel) rfl rfl rfl) ?_
    refine gm_sz (gm_p_load (pc := 6) (i := .iload_n 3) (sr := 0) (j := 3) (by decide +kernel) rfl rfl rfl) ?_
    refine fw_icf (cc := .ge) (pc := 7) (off := 13) (by decide +kernel) (by decide) ⟨by omega, by omega⟩ ⟨by omega, by omega⟩ (show ¬ (len : Int) ≤ i by omega) ?_
    refine gm_sz (gm_p_load (pc := 10) (i := .aload_n 0) (sr := 2) (j := 0) (by decide +kernel) rfl rfl rfl) ?_
    refine gm_sz (gm_p_load (pc := 11) (i := .iload_n 2) (sr := 0) (j := 2) (by decide +kernel) rfl rfl rfl) ?_
    refine gm_sz (gm_p_load (pc := 12) (i := .iload_n 1) (sr := 0) (j := 1) (by decide +kernel) rfl rfl rfl) ?_
    refine gm_sz (fw_is (pc := 13) (k := a) (len := len) (e0 := i) (x := v) (M' := gm_fil M a (i + 1) v) (by decide +kernel) ha.1 ha.2 (by omega) ⟨by omega, by omega⟩ (gm_fil_s h0)) ?_
    refine gm_sz (gm_p_iinc (pc := 14) (j := 2) (z := 1) (by decide +kernel) rfl) ?_
    refine gm_sz (gm_p_goto (pc := 17) (off := (-12)) (by decide +kernel) (by decide)) ?_
    exact ih (i + 1) (by omega) (by omega)
theorem fl_c8 (ha : (1 ≤ a ∧ a ≤ n) ∧ K a = (0, len)) (hl : len < 2147483648) (hq : Q (.inl none) n K R (gm_fil M a len v)) : gm_Wp X LX d bc bs 8 0 (gm_ent 8 [gm_vr a, gm_vi v]) [] n K R M Q := by
  refine gm_sz (gm_p_const (pc := 0) (i := .iconst 0) (v := gm_vi 0) (by decide +kernel) (by decide +kernel)) ?_
  refine gm_sz (gm_p_stor (pc := 1) (i := .istore_n 2) (sr := 0) (j := 2) (by decide +kernel) rfl (show 3 ≤ _ from Nat.le_of_ble_eq_true rfl) rfl) ?_
  refine gm_sz (gm_p_load (pc := 2) (i := .aload_n 0) (sr := 2) (j := 0) (by decide +kernel) rfl rfl rfl) ?_
  refine gm_sz (fw_al (pc := 3) (k := a) (len := len) (by decide +kernel) ha.1 ha.2 (by decide)) ?_
  refine gm_sz (gm_p_stor (pc := 4) (i := .istore_n 3) (sr := 0) (j := 3) (by decide +kernel) rfl (show 4 ≤ _ from Nat.le_of_ble_eq_true rfl) rfl) ?_
  have q := fl_l (X := X) (LX := LX) (d := d) (bc := bc) (bs := bs) (R := R) (M := M) (Q := Q) (v := v) ha hl hq len 0 (by omega) (Int.le_refl _)
  rw [gm_fil_0] at q
  exact q
theorem rw_reset (hd : 1 ≤ d) (hk : (1 ≤ c ∧ c ≤ n) ∧ (K c).1 = 2 + 4) (ha : (1 ≤ a ∧ a ≤ n) ∧ K a = (0, len)) (hr : R c ((2 : Nat) : Int) = a) (hl : len < 2147483648) (hm : M c 0 = m) (h1 : 0 ≤ row ∧ row ≤ m) (hb : m ≤ 100000) (hq : Q (.inl none) n K R (gm_fil (gm_uM M c 3 row) a len 0)) : gm_Wp X LX d bc bs 25 0 (gm_ent 25 [gm_vr c, gm_vi row]) [] n K R M Q := by
  refine gm_sz (gm_p_load (pc := 0) (i := .aload_n 0) (sr := 2) (j := 0) (by decide +kernel) rfl rfl rfl) ?_
  refine gm_sz (gm_p_const (pc := 1) (i := .iconst 0) (v := gm_vi 0) (by decide +kernel) (by decide +kernel)) ?_
  refine gm_sz (gm_p_load (pc := 2) (i := .iload_n 1) (sr := 0) (j := 1) (by decide +kernel) rfl rfl rfl) ?_
  refine gm_sz (gm_p_load (pc := 3) (i := .aload_n 0) (sr := 2) (j := 0) (by decide +kernel) rfl rfl rfl) ?_
  refine gm_sz (fw_gi (pc := 4) (ix := 15) (ci := 2) (j := 0) (x := m) (by decide +kernel) hk (by decide +kernel) (by decide +kernel) hm) ?_
  refine gm_sz (gm_p_min (pc := 7) (ix := 25) (x := row) (y := m) (by decide +kernel) (by decide +kernel) (gm_w_id (by omega) (by omega)) (gm_w_id (by omega) (by omega)) (Nat.le_of_ble_eq_true rfl) (by omega)) ?_
  refine gm_sz (gm_p_max (pc := 10) (ix := 31) (x := 0) (y := min row m) (by decide +kernel) (by decide +kernel) (gm_w_id (by omega) (by omega)) (gm_w_id (by omega) (by omega)) (Nat.le_of_ble_eq_true rfl) (by omega)) ?_
  rw [show max 0 (min row m) = row by omega]
  refine gm_sz (fw_pi (pc := 13) (ix := 9) (ci := 2) (j := 3) (M' := gm_uM M c 3 row) (by decide +kernel) hk (by decide +kernel) (by decide +kernel) (by decide +kernel) rfl) ?_
  refine gm_sz (gm_p_load (pc := 16) (i := .aload_n 0) (sr := 2) (j := 0) (by decide +kernel) rfl rfl rfl) ?_
  refine gm_sz (fw_gr (pc := 17) (ix := 21) (ci := 2) (j := 2) (r := a) (by decide +kernel) hk (by decide +kernel) (by decide +kernel) hr) ?_
  refine gm_sz (gm_p_const (pc := 20) (i := .iconst 0) (v := gm_vi 0) (by decide +kernel) (by decide +kernel)) ?_
  refine gm_c_stat (mj := 8) (ix := 34) (pc := 21) (as := [gm_vr a, gm_vi 0]) (st := []) (d' := d - 1) (bc' := 0) (bs' := 0) (by decide +kernel) (by decide +kernel) (by decide +kernel) (by decide +kernel) (show 2 = gm_na 8 by decide +kernel) (fw_c2 fw_sr fw_si) (show 2 ≤ gm_ml 8 by decide +kernel) (Nat.le_of_ble_eq_true rfl) (by omega) (Nat.zero_le _) (Nat.zero_le _) ?_
  refine fl_c8 ha hl ?_
  show gm_Wp X LX d _ _ 25 24 _ [] n K _ _ Q
  exact gm_r_void (pc := 24) (by decide +kernel) (by decide +kernel) hq
end RWS
end
/-! 7a01.c1st -/
section
/-! THE CLASS'S STATE: as a world of the reference's numbering; what is thrown in, opened, copied (laid by wip/core/c1.py). -/
/-- a State, numbered as the reference's world is -/
def cs (M : gm_M) (b : Nat) : Int → Int := fun i =>
  if i < 0 then 0 else if i < 15 then (if i = 0 then M b 0 else if i = 1 then M b 1 else if i = 2 then M (b + 1) 3 else if i = 3 then M (b + 5) 3 else if i = 4 then M (b + 7) 3 else if i = 5 then M (b + 3) 3 else if i = 6 then M (b + 9) 3 else if i = 7 then M b 7 else if i = 8 then 0 else if i = 9 then M b 6 else if i = 10 then M b 2 else if i = 11 then M b 3 else if i = 12 then M b 4 else if i = 13 then M b 5 else M (b + 11) 3)
  else if i < 71 then M (b + 2) (i - 15) else if i < 95 then M (b + 4) (i - 71) else if i < 119 then M (b + 6) (i - 95) else if i < 287 then M (b + 8) (i - 119) else if i < 323 then M (b + 10) (i - 287) else if i < 395 then M (b + 12) (i - 323) else 0
/-- the reference's world, but for its law -/
def ws (W : Int → Int) : Int → Int := fun i => if 0 ≤ i ∧ i < 395 ∧ ¬ i = 8 then W i else 0
section CST1
variable {X : Int → Int} {LX d bc bs n : Nat} {K : gm_K} {R : gm_R} {M : gm_M} {Q : gm_Q} {f t l r p : Int}
theorem cs_rock (hd : 1 ≤ d) (hE : E0 n K R) (hC : CST M) (h1 : 0 ≤ l ∧ l < M 10 3) (h2 : M 10 3 ≤ 24) (h3 : gm_ir (M 11 (l * 7 + 0))) (q0 : ¬ (M 11 (l * 7 + 0)) = (-1) → Q (.inl (some (gm_vi 0))) n K R (M)) (q1 : (M 11 (l * 7 + 0)) = (-1) → Q (.inl (some (gm_vi 1))) n K R (M)) : gm_Wp X LX d bc bs 28 0 (gm_ent 28 [gm_vr 3, gm_vi l]) [] n K R M Q := by
  refine gm_sz (gm_p_load (pc := 0) (i := .aload_n 0) (sr := 2) (j := 0) (by decide +kernel) rfl rfl rfl) ?_
  refine gm_sz (fw_gr (pc := 1) (ix := 55) (ci := 1) (j := 12) (r := 10) (by decide +kernel) (e0k hE (k := 3) (c := 1) (by decide +kernel)) (by decide +kernel) (by decide +kernel) (e0r hE (k := 3) (j := 12) (r := 10) (by decide +kernel))) ?_
  refine gm_sz (gm_p_load (pc := 4) (i := .iload_n 1) (sr := 0) (j := 1) (by decide +kernel) rfl rfl rfl) ?_
  refine gm_sz (gm_p_const (pc := 5) (i := .iconst 0) (v := gm_vi 0) (by decide +kernel) (by decide +kernel)) ?_
  refine gm_c_virt (k := 10) (ci := 2) (mj := 10) (ix := 72) (pc := 6) (as := [gm_vi l, gm_vi 0]) (st := []) (d' := d - 1) (bc' := 0) (bs' := 0) (by decide +kernel) (by decide +kernel) (by decide +kernel) (by decide +kernel) (e0k hE (k := 10) (c := 2) (by decide +kernel)).1 (e0k hE (k := 10) (c := 2) (by decide +kernel)).2 (by decide) (by decide +kernel) (show 2 = gm_na 10 by decide +kernel) (fw_c2 fw_si fw_si) (show 3 ≤ gm_ml 10 by decide +kernel) (Nat.le_of_ble_eq_true rfl) (by omega) (Nat.zero_le _) (Nat.zero_le _) ?_
  refine rw_get (s := M 10 3) (w := 7) (x := M 11 (l * 7 + 0)) (e0k hE (k := 10) (c := 2) (by decide +kernel)) (e0a hE (k := 11) (q := (0, 168)) (by decide +kernel)) (e0r hE (k := 10) (j := 2) (r := 11) (by decide +kernel)) (by decide) rfl (hC (10, 1, 7) (by decide)) ⟨by omega, by omega⟩ ⟨by omega, by omega⟩ ⟨by omega, by omega⟩ ⟨by omega, by omega⟩ rfl ?_
  show gm_Wp X LX d _ _ 28 9 _ [gm_vi (M 11 (l * 7 + 0))] n K _ _ Q
  refine gm_sz (gm_p_const (pc := 9) (i := .iconst (-1)) (v := gm_vi (-1)) (by decide +kernel) (by decide +kernel)) ?_
  refine fw_ic (cc := .ne) (pc := 10) (off := 7) (by decide +kernel) (by decide) h3 ⟨by decide, by decide⟩ (fun h10 => ?_) (fun h10 => ?_)
  · have h10 : ¬ (M 11 (l * 7 + 0)) = (-1) := h10
    refine gm_sz (gm_p_const (pc := 17) (i := .iconst 0) (v := gm_vi 0) (by decide +kernel) (by decide +kernel)) ?_
    exact gm_r_int (pc := 18) (by decide +kernel) (Or.inr ⟨(by decide +kernel), Or.inl rfl⟩) (q0 h10)
  · have h10 : (M 11 (l * 7 + 0)) = (-1) := Classical.not_not.mp h10
    refine gm_sz (gm_p_const (pc := 13) (i := .iconst 1) (v := gm_vi 1) (by decide +kernel) (by decide +kernel)) ?_
    refine gm_sz (gm_p_goto (pc := 14) (off := 4) (by decide +kernel) (by decide)) ?_
    exact gm_r_int (pc := 18) (by decide +kernel) (Or.inr ⟨(by decide +kernel), Or.inr rfl⟩) (q1 h10)
def cs_th3 (M : gm_M) (f t l r : Int) : gm_M := gm_uM (gm_uM (gm_uM (gm_uM (gm_uM (gm_uM (gm_uM (gm_uM M 10 3 ((M 10 3) + 1)) 11 ((M 10 3) * 7 + 0) f) 11 ((M 10 3) * 7 + 1) t) 11 ((M 10 3) * 7 + 2) l) 11 ((M 10 3) * 7 + 3) (M 3 6)) 11 ((M 10 3) * 7 + 4) r) 11 ((M 10 3) * 7 + 5) (-1)) 11 ((M 10 3) * 7 + 6) (-1)
theorem cs_thr3 (hd : 1 ≤ d) (hE : E0 n K R) (hC : CST M) (h1 : 0 ≤ M 10 3 ∧ M 10 3 < 24) (q0 : Q (.inl (some (gm_vi (M 10 3)))) n K R (cs_th3 M f t l r)) : gm_Wp X LX d bc bs 119 0 (gm_ent 119 [gm_vr 3, gm_vi f, gm_vi t, gm_vi l, gm_vi r]) [] n K R M Q := by
  refine gm_sz (gm_p_load (pc := 0) (i := .aload_n 0) (sr := 2) (j := 0) (by decide +kernel) rfl rfl rfl) ?_
  refine gm_sz (fw_gr (pc := 1) (ix := 55) (ci := 1) (j := 12) (r := 10) (by decide +kernel) (e0k hE (k := 3) (c := 1) (by decide +kernel)) (by decide +kernel) (by decide +kernel) (e0r hE (k := 3) (j := 12) (r := 10) (by decide +kernel))) ?_
  refine gm_c_virt (k := 10) (ci := 2) (mj := 102) (ix := 76) (pc := 4) (as := []) (st := []) (d' := d - 1) (bc' := 0) (bs' := 0) (by decide +kernel) (by decide +kernel) (by decide +kernel) (by decide +kernel) (e0k hE (k := 10) (c := 2) (by decide +kernel)).1 (e0k hE (k := 10) (c := 2) (by decide +kernel)).2 (by decide) (by decide +kernel) (show 0 = gm_na 102 by decide +kernel) fw_c0 (show 1 ≤ gm_ml 102 by decide +kernel) (Nat.le_of_ble_eq_true rfl) (by omega) (Nat.zero_le _) (Nat.zero_le _) ?_
  refine rw_add (s := M 10 3) (m := 24) (e0k hE (k := 10) (c := 2) (by decide +kernel)) rfl (hC (10, 0, 24) (by decide)) ⟨by omega, by omega⟩ (by omega) ?_
  show gm_Wp X LX d _ _ 119 7 _ [gm_vi (M 10 3)] n K _ _ Q
  refine gm_sz (gm_p_stor (pc := 7) (i := .istore 5) (sr := 0) (j := 5) (by decide +kernel) rfl (show 6 ≤ _ from Nat.le_of_ble_eq_true rfl) rfl) ?_
  refine gm_sz (gm_p_load (pc := 9) (i := .aload_n 0) (sr := 2) (j := 0) (by decide +kernel) rfl rfl rfl) ?_
  refine gm_sz (fw_gr (pc := 10) (ix := 55) (ci := 1) (j := 12) (r := 10) (by decide +kernel) (e0k hE (k := 3) (c := 1) (by decide +kernel)) (by decide +kernel) (by decide +kernel) (e0r hE (k := 3) (j := 12) (r := 10) (by decide +kernel))) ?_
  refine gm_sz (gm_p_load (pc := 13) (i := .iload 5) (sr := 0) (j := 5) (by decide +kernel) rfl rfl rfl) ?_
  refine gm_sz (gm_p_const (pc := 15) (i := .iconst 0) (v := gm_vi 0) (by decide +kernel) (by decide +kernel)) ?_
  refine gm_sz (gm_p_load (pc := 16) (i := .iload_n 1) (sr := 0) (j := 1) (by decide +kernel) rfl rfl rfl) ?_
  refine gm_c_virt (k := 10) (ci := 2) (mj := 45) (ix := 79) (pc := 17) (as := [gm_vi (M 10 3), gm_vi 0, gm_vi f]) (st := []) (d' := d - 1) (bc' := 0) (bs' := 0) (by decide +kernel) (by decide +kernel) (by decide +kernel) (by decide +kernel) (e0k hE (k := 10) (c := 2) (by decide +kernel)).1 (e0k hE (k := 10) (c := 2) (by decide +kernel)).2 (by decide) (by decide +kernel) (show 3 = gm_na 45 by decide +kernel) (fw_c3 fw_si fw_si fw_si) (show 4 ≤ gm_ml 45 by decide +kernel) (Nat.le_of_ble_eq_true rfl) (by omega) (Nat.zero_le _) (Nat.zero_le _) ?_
  refine rw_put (s := (M 10 3) + 1) (w := 7) (e0k hE (k := 10) (c := 2) (by decide +kernel)) (e0a hE (k := 11) (q := (0, 168)) (by decide +kernel)) (e0r hE (k := 10) (j := 2) (r := 11) (by decide +kernel)) (by decide) uM_at ((uM_ne (by omega)).trans (hC (10, 1, 7) (by decide))) ⟨by omega, by omega⟩ ⟨by omega, by omega⟩ ⟨by omega, by omega⟩ ⟨by omega, by omega⟩ ?_
  show gm_Wp X LX d _ _ 119 20 _ [] n K _ _ Q
  refine gm_sz (gm_p_load (pc := 20) (i := .aload_n 0) (sr := 2) (j := 0) (by decide +kernel) rfl rfl rfl) ?_
  refine gm_sz (fw_gr (pc := 21) (ix := 55) (ci := 1) (j := 12) (r := 10) (by decide +kernel) (e0k hE (k := 3) (c := 1) (by decide +kernel)) (by decide +kernel) (by decide +kernel) (e0r hE (k := 3) (j := 12) (r := 10) (by decide +kernel))) ?_
  refine gm_sz (gm_p_load (pc := 24) (i := .iload 5) (sr := 0) (j := 5) (by decide +kernel) rfl rfl rfl) ?_
  refine gm_sz (gm_p_const (pc := 26) (i := .iconst 1) (v := gm_vi 1) (by decide +kernel) (by decide +kernel)) ?_
  refine gm_sz (gm_p_load (pc := 27) (i := .iload_n 2) (sr := 0) (j := 2) (by decide +kernel) rfl rfl rfl) ?_
  refine gm_c_virt (k := 10) (ci := 2) (mj := 45) (ix := 79) (pc := 28) (as := [gm_vi (M 10 3), gm_vi 1, gm_vi t]) (st := []) (d' := d - 1) (bc' := 0) (bs' := 0) (by decide +kernel) (by decide +kernel) (by decide +kernel) (by decide +kernel) (e0k hE (k := 10) (c := 2) (by decide +kernel)).1 (e0k hE (k := 10) (c := 2) (by decide +kernel)).2 (by decide) (by decide +kernel) (show 3 = gm_na 45 by decide +kernel) (fw_c3 fw_si fw_si fw_si) (show 4 ≤ gm_ml 45 by decide +kernel) (Nat.le_of_ble_eq_true rfl) (by omega) (Nat.zero_le _) (Nat.zero_le _) ?_
  refine rw_put (s := (M 10 3) + 1) (w := 7) (e0k hE (k := 10) (c := 2) (by decide +kernel)) (e0a hE (k := 11) (q := (0, 168)) (by decide +kernel)) (e0r hE (k := 10) (j := 2) (r := 11) (by decide +kernel)) (by decide) ((uM_ne (by omega)).trans uM_at) ((uM_ne (by omega)).trans ((uM_ne (by omega)).trans (hC (10, 1, 7) (by decide)))) ⟨by omega, by omega⟩ ⟨by omega, by omega⟩ ⟨by omega, by omega⟩ ⟨by omega, by omega⟩ ?_
  show gm_Wp X LX d _ _ 119 31 _ [] n K _ _ Q
  refine gm_sz (gm_p_load (pc := 31) (i := .aload_n 0) (sr := 2) (j := 0) (by decide +kernel) rfl rfl rfl) ?_
  refine gm_sz (fw_gr (pc := 32) (ix := 55) (ci := 1) (j := 12) (r := 10) (by decide +kernel) (e0k hE (k := 3) (c := 1) (by decide +kernel)) (by decide +kernel) (by decide +kernel) (e0r hE (k := 3) (j := 12) (r := 10) (by decide +kernel))) ?_
  refine gm_sz (gm_p_load (pc := 35) (i := .iload 5) (sr := 0) (j := 5) (by decide +kernel) rfl rfl rfl) ?_
  refine gm_sz (gm_p_const (pc := 37) (i := .iconst 2) (v := gm_vi 2) (by decide +kernel) (by decide +kernel)) ?_
  refine gm_sz (gm_p_load (pc := 38) (i := .iload_n 3) (sr := 0) (j := 3) (by decide +kernel) rfl rfl rfl) ?_
  refine gm_c_virt (k := 10) (ci := 2) (mj := 45) (ix := 79) (pc := 39) (as := [gm_vi (M 10 3), gm_vi 2, gm_vi l]) (st := []) (d' := d - 1) (bc' := 0) (bs' := 0) (by decide +kernel) (by decide +kernel) (by decide +kernel) (by decide +kernel) (e0k hE (k := 10) (c := 2) (by decide +kernel)).1 (e0k hE (k := 10) (c := 2) (by decide +kernel)).2 (by decide) (by decide +kernel) (show 3 = gm_na 45 by decide +kernel) (fw_c3 fw_si fw_si fw_si) (show 4 ≤ gm_ml 45 by decide +kernel) (Nat.le_of_ble_eq_true rfl) (by omega) (Nat.zero_le _) (Nat.zero_le _) ?_
  refine rw_put (s := (M 10 3) + 1) (w := 7) (e0k hE (k := 10) (c := 2) (by decide +kernel)) (e0a hE (k := 11) (q := (0, 168)) (by decide +kernel)) (e0r hE (k := 10) (j := 2) (r := 11) (by decide +kernel)) (by decide) ((uM_ne (by omega)).trans ((uM_ne (by omega)).trans uM_at)) ((uM_ne (by omega)).trans ((uM_ne (by omega)).trans ((uM_ne (by omega)).trans (hC (10, 1, 7) (by decide))))) ⟨by omega, by omega⟩ ⟨by omega, by omega⟩ ⟨by omega, by omega⟩ ⟨by omega, by omega⟩ ?_
  show gm_Wp X LX d _ _ 119 42 _ [] n K _ _ Q
  refine gm_sz (gm_p_load (pc := 42) (i := .aload_n 0) (sr := 2) (j := 0) (by decide +kernel) rfl rfl rfl) ?_
  refine gm_sz (fw_gr (pc := 43) (ix := 55) (ci := 1) (j := 12) (r := 10) (by decide +kernel) (e0k hE (k := 3) (c := 1) (by decide +kernel)) (by decide +kernel) (by decide +kernel) (e0r hE (k := 3) (j := 12) (r := 10) (by decide +kernel))) ?_
  refine gm_sz (gm_p_load (pc := 46) (i := .iload 5) (sr := 0) (j := 5) (by decide +kernel) rfl rfl rfl) ?_
  refine gm_sz (gm_p_const (pc := 48) (i := .iconst 3) (v := gm_vi 3) (by decide +kernel) (by decide +kernel)) ?_
  refine gm_sz (gm_p_load (pc := 49) (i := .aload_n 0) (sr := 2) (j := 0) (by decide +kernel) rfl rfl rfl) ?_
  refine gm_sz (fw_gi (pc := 50) (ix := 30) (ci := 1) (j := 6) (x := M 3 6) (by decide +kernel) (e0k hE (k := 3) (c := 1) (by decide +kernel)) (by decide +kernel) (by decide +kernel) ((uM_ne (by omega)).trans ((uM_ne (by omega)).trans ((uM_ne (by omega)).trans (uM_ne (by omega)))))) ?_
  refine gm_c_virt (k := 10) (ci := 2) (mj := 45) (ix := 79) (pc := 53) (as := [gm_vi (M 10 3), gm_vi 3, gm_vi (M 3 6)]) (st := []) (d' := d - 1) (bc' := 0) (bs' := 0) (by decide +kernel) (by decide +kernel) (by decide +kernel) (by decide +kernel) (e0k hE (k := 10) (c := 2) (by decide +kernel)).1 (e0k hE (k := 10) (c := 2) (by decide +kernel)).2 (by decide) (by decide +kernel) (show 3 = gm_na 45 by decide +kernel) (fw_c3 fw_si fw_si fw_si) (show 4 ≤ gm_ml 45 by decide +kernel) (Nat.le_of_ble_eq_true rfl) (by omega) (Nat.zero_le _) (Nat.zero_le _) ?_
  refine rw_put (s := (M 10 3) + 1) (w := 7) (e0k hE (k := 10) (c := 2) (by decide +kernel)) (e0a hE (k := 11) (q := (0, 168)) (by decide +kernel)) (e0r hE (k := 10) (j := 2) (r := 11) (by decide +kernel)) (by decide) ((uM_ne (by omega)).trans ((uM_ne (by omega)).trans ((uM_ne (by omega)).trans uM_at))) ((uM_ne (by omega)).trans ((uM_ne (by omega)).trans ((uM_ne (by omega)).trans ((uM_ne (by omega)).trans (hC (10, 1, 7) (by decide)))))) ⟨by omega, by omega⟩ ⟨by omega, by omega⟩ ⟨by omega, by omega⟩ ⟨by omega, by omega⟩ ?_
  show gm_Wp X LX d _ _ 119 56 _ [] n K _ _ Q
  refine gm_sz (gm_p_load (pc := 56) (i := .aload_n 0) (sr := 2) (j := 0) (by decide +kernel) rfl rfl rfl) ?_
  refine gm_sz (fw_gr (pc := 57) (ix := 55) (ci := 1) (j := 12) (r := 10) (by decide +kernel) (e0k hE (k := 3) (c := 1) (by decide +kernel)) (by decide +kernel) (by decide +kernel) (e0r hE (k := 3) (j := 12) (r := 10) (by decide +kernel))) ?_
  refine gm_sz (gm_p_load (pc := 60) (i := .iload 5) (sr := 0) (j := 5) (by decide +kernel) rfl rfl rfl) ?_
  refine gm_sz (gm_p_const (pc := 62) (i := .iconst 4) (v := gm_vi 4) (by decide +kernel) (by decide +kernel)) ?_
  refine gm_sz (gm_p_load (pc := 63) (i := .iload 4) (sr := 0) (j := 4) (by decide +kernel) rfl rfl rfl) ?_
  refine gm_c_virt (k := 10) (ci := 2) (mj := 45) (ix := 79) (pc := 65) (as := [gm_vi (M 10 3), gm_vi 4, gm_vi r]) (st := []) (d' := d - 1) (bc' := 0) (bs' := 0) (by decide +kernel) (by decide +kernel) (by decide +kernel) (by decide +kernel) (e0k hE (k := 10) (c := 2) (by decide +kernel)).1 (e0k hE (k := 10) (c := 2) (by decide +kernel)).2 (by decide) (by decide +kernel) (show 3 = gm_na 45 by decide +kernel) (fw_c3 fw_si fw_si fw_si) (show 4 ≤ gm_ml 45 by decide +kernel) (Nat.le_of_ble_eq_true rfl) (by omega) (Nat.zero_le _) (Nat.zero_le _) ?_
  refine rw_put (s := (M 10 3) + 1) (w := 7) (e0k hE (k := 10) (c := 2) (by decide +kernel)) (e0a hE (k := 11) (q := (0, 168)) (by decide +kernel)) (e0r hE (k := 10) (j := 2) (r := 11) (by decide +kernel)) (by decide) ((uM_ne (by omega)).trans ((uM_ne (by omega)).trans ((uM_ne (by omega)).trans ((uM_ne (by omega)).trans uM_at)))) ((uM_ne (by omega)).trans ((uM_ne (by omega)).trans ((uM_ne (by omega)).trans ((uM_ne (by omega)).trans ((uM_ne (by omega)).trans (hC (10, 1, 7) (by decide))))))) ⟨by omega, by omega⟩ ⟨by omega, by omega⟩ ⟨by omega, by omega⟩ ⟨by omega, by omega⟩ ?_
  show gm_Wp X LX d _ _ 119 68 _ [] n K _ _ Q
  refine gm_sz (gm_p_load (pc := 68) (i := .aload_n 0) (sr := 2) (j := 0) (by decide +kernel) rfl rfl rfl) ?_
  refine gm_sz (fw_gr (pc := 69) (ix := 55) (ci := 1) (j := 12) (r := 10) (by decide +kernel) (e0k hE (k := 3) (c := 1) (by decide +kernel)) (by decide +kernel) (by decide +kernel) (e0r hE (k := 3) (j := 12) (r := 10) (by decide +kernel))) ?_
  refine gm_sz (gm_p_load (pc := 72) (i := .iload 5) (sr := 0) (j := 5) (by decide +kernel) rfl rfl rfl) ?_
  refine gm_sz (gm_p_const (pc := 74) (i := .iconst 5) (v := gm_vi 5) (by decide +kernel) (by decide +kernel)) ?_
  refine gm_sz (gm_p_const (pc := 75) (i := .iconst (-1)) (v := gm_vi (-1)) (by decide +kernel) (by decide +kernel)) ?_
  refine gm_c_virt (k := 10) (ci := 2) (mj := 45) (ix := 79) (pc := 76) (as := [gm_vi (M 10 3), gm_vi 5, gm_vi (-1)]) (st := []) (d' := d - 1) (bc' := 0) (bs' := 0) (by decide +kernel) (by decide +kernel) (by decide +kernel) (by decide +kernel) (e0k hE (k := 10) (c := 2) (by decide +kernel)).1 (e0k hE (k := 10) (c := 2) (by decide +kernel)).2 (by decide) (by decide +kernel) (show 3 = gm_na 45 by decide +kernel) (fw_c3 fw_si fw_si fw_si) (show 4 ≤ gm_ml 45 by decide +kernel) (Nat.le_of_ble_eq_true rfl) (by omega) (Nat.zero_le _) (Nat.zero_le _) ?_
  refine rw_put (s := (M 10 3) + 1) (w := 7) (e0k hE (k := 10) (c := 2) (by decide +kernel)) (e0a hE (k := 11) (q := (0, 168)) (by decide +kernel)) (e0r hE (k := 10) (j := 2) (r := 11) (by decide +kernel)) (by decide) ((uM_ne (by omega)).trans ((uM_ne (by omega)).trans ((uM_ne (by omega)).trans ((uM_ne (by omega)).trans ((uM_ne (by omega)).trans uM_at))))) ((uM_ne (by omega)).trans ((uM_ne (by omega)).trans ((uM_ne (by omega)).trans ((uM_ne (by omega)).trans ((uM_ne (by omega)).trans ((uM_ne (by omega)).trans (hC (10, 1, 7) (by decide)))))))) ⟨by omega, by omega⟩ ⟨by omega, by omega⟩ ⟨by omega, by omega⟩ ⟨by omega, by omega⟩ ?_
  show gm_Wp X LX d _ _ 119 79 _ [] n K _ _ Q
  refine gm_sz (gm_p_load (pc := 79) (i := .aload_n 0) (sr := 2) (j := 0) (by decide +kernel) rfl rfl rfl) ?_
  refine gm_sz (fw_gr (pc := 80) (ix := 55) (ci := 1) (j := 12) (r := 10) (by decide +kernel) (e0k hE (k := 3) (c := 1) (by decide +kernel)) (by decide +kernel) (by decide +kernel) (e0r hE (k := 3) (j := 12) (r := 10) (by decide +kernel))) ?_
  refine gm_sz (gm_p_load (pc := 83) (i := .iload 5) (sr := 0) (j := 5) (by decide +kernel) rfl rfl rfl) ?_
  refine gm_sz (gm_p_const (pc := 85) (i := .bipush 6) (v := gm_vi 6) (by decide +kernel) (by decide +kernel)) ?_
  refine gm_sz (gm_p_const (pc := 87) (i := .iconst (-1)) (v := gm_vi (-1)) (by decide +kernel) (by decide +kernel)) ?_
  refine gm_c_virt (k := 10) (ci := 2) (mj := 45) (ix := 79) (pc := 88) (as := [gm_vi (M 10 3), gm_vi 6, gm_vi (-1)]) (st := []) (d' := d - 1) (bc' := 0) (bs' := 0) (by decide +kernel) (by decide +kernel) (by decide +kernel) (by decide +kernel) (e0k hE (k := 10) (c := 2) (by decide +kernel)).1 (e0k hE (k := 10) (c := 2) (by decide +kernel)).2 (by decide) (by decide +kernel) (show 3 = gm_na 45 by decide +kernel) (fw_c3 fw_si fw_si fw_si) (show 4 ≤ gm_ml 45 by decide +kernel) (Nat.le_of_ble_eq_true rfl) (by omega) (Nat.zero_le _) (Nat.zero_le _) ?_
  refine rw_put (s := (M 10 3) + 1) (w := 7) (e0k hE (k := 10) (c := 2) (by decide +kernel)) (e0a hE (k := 11) (q := (0, 168)) (by decide +kernel)) (e0r hE (k := 10) (j := 2) (r := 11) (by decide +kernel)) (by decide) ((uM_ne (by omega)).trans ((uM_ne (by omega)).trans ((uM_ne (by omega)).trans ((uM_ne (by omega)).trans ((uM_ne (by omega)).trans ((uM_ne (by omega)).trans uM_at)))))) ((uM_ne (by omega)).trans ((uM_ne (by omega)).trans ((uM_ne (by omega)).trans ((uM_ne (by omega)).trans ((uM_ne (by omega)).trans ((uM_ne (by omega)).trans ((uM_ne (by omega)).trans (hC (10, 1, 7) (by decide))))))))) ⟨by omega, by omega⟩ ⟨by omega, by omega⟩ ⟨by omega, by omega⟩ ⟨by omega, by omega⟩ ?_
  show gm_Wp X LX d _ _ 119 91 _ [] n K _ _ Q
  refine gm_sz (gm_p_load (pc := 91) (i := .iload 5) (sr := 0) (j := 5) (by decide +kernel) rfl rfl rfl) ?_
  exact gm_r_int (pc := 93) (by decide +kernel) (Or.inl (by decide +kernel)) q0
def cs_th16 (M : gm_M) (f t l r : Int) : gm_M := gm_uM (gm_uM (gm_uM (gm_uM (gm_uM (gm_uM (gm_uM (gm_uM M 23 3 ((M 23 3) + 1)) 24 ((M 23 3) * 7 + 0) f) 24 ((M 23 3) * 7 + 1) t) 24 ((M 23 3) * 7 + 2) l) 24 ((M 23 3) * 7 + 3) (M 16 6)) 24 ((M 23 3) * 7 + 4) r) 24 ((M 23 3) * 7 + 5) (-1)) 24 ((M 23 3) * 7 + 6) (-1)
theorem cs_thr16 (hd : 1 ≤ d) (hE : E0 n K R) (hC : CST M) (h1 : 0 ≤ M 23 3 ∧ M 23 3 < 24) (q0 : Q (.inl (some (gm_vi (M 23 3)))) n K R (cs_th16 M f t l r)) : gm_Wp X LX d bc bs 119 0 (gm_ent 119 [gm_vr 16, gm_vi f, gm_vi t, gm_vi l, gm_vi r]) [] n K R M Q := by
  refine gm_sz (gm_p_load (pc := 0) (i := .aload_n 0) (sr := 2) (j := 0) (by decide +kernel) rfl rfl rfl) ?_
  refine gm_sz (fw_gr (pc := 1) (ix := 55) (ci := 1) (j := 12) (r := 23) (by decide +kernel) (e0k hE (k := 16) (c := 1) (by decide +kernel)) (by decide +kernel) (by decide +kernel) (e0r hE (k := 16) (j := 12) (r := 23) (by decide +kernel))) ?_
  refine gm_c_virt (k := 23) (ci := 2) (mj := 102) (ix := 76) (pc := 4) (as := []) (st := []) (d' := d - 1) (bc' := 0) (bs' := 0) (by decide +kernel) (by decide +kernel) (by decide +kernel) (by decide +kernel) (e0k hE (k := 23) (c := 2) (by decide +kernel)).1 (e0k hE (k := 23) (c := 2) (by decide +kernel)).2 (by decide) (by decide +kernel) (show 0 = gm_na 102 by decide +kernel) fw_c0 (show 1 ≤ gm_ml 102 by decide +kernel) (Nat.le_of_ble_eq_true rfl) (by omega) (Nat.zero_le _) (Nat.zero_le _) ?_
  refine rw_add (s := M 23 3) (m := 24) (e0k hE (k := 23) (c := 2) (by decide +kernel)) rfl (hC (23, 0, 24) (by decide)) ⟨by omega, by omega⟩ (by omega) ?_
  show gm_Wp X LX d _ _ 119 7 _ [gm_vi (M 23 3)] n K _ _ Q
  refine gm_sz (gm_p_stor (pc := 7) (i := .istore 5) (sr := 0) (j := 5) (by decide +kernel) rfl (show 6 ≤ _ from Nat.le_of_ble_eq_true rfl) rfl) ?_
  refine gm_sz (gm_p_load (pc := 9) (i := .aload_n 0) (sr := 2) (j := 0) (by decide +kernel) rfl rfl rfl) ?_
  refine gm_sz (fw_gr (pc := 10) (ix := 55) (ci := 1) (j := 12) (r := 23) (by decide +kernel) (e0k hE (k := 16) (c := 1) (by decide +kernel)) (by decide +kernel) (by decide +kernel) (e0r hE (k := 16) (j := 12) (r := 23) (by decide +kernel))) ?_
  refine gm_sz (gm_p_load (pc := 13) (i := .iload 5) (sr := 0) (j := 5) (by decide +kernel) rfl rfl rfl) ?_
  refine gm_sz (gm_p_const (pc := 15) (i := .iconst 0) (v := gm_vi 0) (by decide +kernel) (by decide +kernel)) ?_
  refine gm_sz (gm_p_load (pc := 16) (i := .iload_n 1) (sr := 0) (j := 1) (by decide +kernel) rfl rfl rfl) ?_
  refine gm_c_virt (k := 23) (ci := 2) (mj := 45) (ix := 79) (pc := 17) (as := [gm_vi (M 23 3), gm_vi 0, gm_vi f]) (st := []) (d' := d - 1) (bc' := 0) (bs' := 0) (by decide +kernel) (by decide +kernel) (by decide +kernel) (by decide +kernel) (e0k hE (k := 23) (c := 2) (by decide +kernel)).1 (e0k hE (k := 23) (c := 2) (by decide +kernel)).2 (by decide) (by decide +kernel) (show 3 = gm_na 45 by decide +kernel) (fw_c3 fw_si fw_si fw_si) (show 4 ≤ gm_ml 45 by decide +kernel) (Nat.le_of_ble_eq_true rfl) (by omega) (Nat.zero_le _) (Nat.zero_le _) ?_
  refine rw_put (s := (M 23 3) + 1) (w := 7) (e0k hE (k := 23) (c := 2) (by decide +kernel)) (e0a hE (k := 24) (q := (0, 168)) (by decide +kernel)) (e0r hE (k := 23) (j := 2) (r := 24) (by decide +kernel)) (by decide) uM_at ((uM_ne (by omega)).trans (hC (23, 1, 7) (by decide))) ⟨by omega, by omega⟩ ⟨by omega, by omega⟩ ⟨by omega, by omega⟩ ⟨by omega, by omega⟩ ?_
  show gm_Wp X LX d _ _ 119 20 _ [] n K _ _ Q
  refine gm_sz (gm_p_load (pc := 20) (i := .aload_n 0) (sr := 2) (j := 0) (by decide +kernel) rfl rfl rfl) ?_
  refine gm_sz (fw_gr (pc := 21) (ix := 55) (ci := 1) (j := 12) (r := 23) (by decide +kernel) (e0k hE (k := 16) (c := 1) (by decide +kernel)) (by decide +kernel) (by decide +kernel) (e0r hE (k := 16) (j := 12) (r := 23) (by decide +kernel))) ?_
  refine gm_sz (gm_p_load (pc := 24) (i := .iload 5) (sr := 0) (j := 5) (by decide +kernel) rfl rfl rfl) ?_
  refine gm_sz (gm_p_const (pc := 26) (i := .iconst 1) (v := gm_vi 1) (by decide +kernel) (by decide +kernel)) ?_
  refine gm_sz (gm_p_load (pc := 27) (i := .iload_n 2) (sr := 0) (j := 2) (by decide +kernel) rfl rfl rfl) ?_
  refine gm_c_virt (k := 23) (ci := 2) (mj := 45) (ix := 79) (pc := 28) (as := [gm_vi (M 23 3), gm_vi 1, gm_vi t]) (st := []) (d' := d - 1) (bc' := 0) (bs' := 0) (by decide +kernel) (by decide +kernel) (by decide +kernel) (by decide +kernel) (e0k hE (k := 23) (c := 2) (by decide +kernel)).1 (e0k hE (k := 23) (c := 2) (by decide +kernel)).2 (by decide) (by decide +kernel) (show 3 = gm_na 45 by decide +kernel) (fw_c3 fw_si fw_si fw_si) (show 4 ≤ gm_ml 45 by decide +kernel) (Nat.le_of_ble_eq_true rfl) (by omega) (Nat.zero_le _) (Nat.zero_le _) ?_
  refine rw_put (s := (M 23 3) + 1) (w := 7) (e0k hE (k := 23) (c := 2) (by decide +kernel)) (e0a hE (k := 24) (q := (0, 168)) (by decide +kernel)) (e0r hE (k := 23) (j := 2) (r := 24) (by decide +kernel)) (by decide) ((uM_ne (by omega)).trans uM_at) ((uM_ne (by omega)).trans ((uM_ne (by omega)).trans (hC (23, 1, 7) (by decide)))) ⟨by omega, by omega⟩ ⟨by omega, by omega⟩ ⟨by omega, by omega⟩ ⟨by omega, by omega⟩ ?_
  show gm_Wp X LX d _ _ 119 31 _ [] n K _ _ Q
  refine gm_sz (gm_p_load (pc := 31) (i := .aload_n 0) (sr := 2) (j := 0) (by decide +kernel) rfl rfl rfl) ?_
  refine gm_sz (fw_gr (pc := 32) (ix := 55) (ci := 1) (j := 12) (r := 23) (by decide +kernel) (e0k hE (k := 16) (c := 1) (by decide +kernel)) (by decide +kernel) (by decide +kernel) (e0r hE (k := 16) (j := 12) (r := 23) (by decide +kernel))) ?_
  refine gm_sz (gm_p_load (pc := 35) (i := .iload 5) (sr := 0) (j := 5) (by decide +kernel) rfl rfl rfl) ?_
  refine gm_sz (gm_p_const (pc := 37) (i := .iconst 2) (v := gm_vi 2) (by decide +kernel) (by decide +kernel)) ?_
  refine gm_sz (gm_p_load (pc := 38) (i := .iload_n 3) (sr := 0) (j := 3) (by decide +kernel) rfl rfl rfl) ?_
  refine gm_c_virt (k := 23) (ci := 2) (mj := 45) (ix := 79) (pc := 39) (as := [gm_vi (M 23 3), gm_vi 2, gm_vi l]) (st := []) (d' := d - 1) (bc' := 0) (bs' := 0) (by decide +kernel) (by decide +kernel) (by decide +kernel) (by decide +kernel) (e0k hE (k := 23) (c := 2) (by decide +kernel)).1 (e0k hE (k := 23) (c := 2) (by decide +kernel)).2 (by decide) (by decide +kernel) (show 3 = gm_na 45 by decide +kernel) (fw_c3 fw_si fw_si fw_si) (show 4 ≤ gm_ml 45 by decide +kernel) (Nat.le_of_ble_eq_true rfl) (by omega) (Nat.zero_le _) (Nat.zero_le _) ?_
  refine rw_put (s := (M 23 3) + 1) (w := 7) (e0k hE (k := 23) (c := 2) (by decide +kernel)) (e0a hE (k := 24) (q := (0, 168)) (by decide +kernel)) (e0r hE (k := 23) (j := 2) (r := 24) (by decide +kernel)) (by decide) ((uM_ne (by omega)).trans ((uM_ne (by omega)).trans uM_at)) ((uM_ne (by omega)).trans ((uM_ne (by omega)).trans ((uM_ne (by omega)).trans (hC (23, 1, 7) (by decide))))) ⟨by omega, by omega⟩ ⟨by omega, by omega⟩ ⟨by omega, by omega⟩ ⟨by omega, by omega⟩ ?_
  show gm_Wp X LX d _ _ 119 42 _ [] n K _ _ Q
  refine gm_sz (gm_p_load (pc := 42) (i := .aload_n 0) (sr := 2) (j := 0) (by decide +kernel) rfl rfl rfl) ?_
  refine gm_sz (fw_gr (pc := 43) (ix := 55) (ci := 1) (j := 12) (r := 23) (by decide +kernel) (e0k hE (k := 16) (c := 1) (by decide +kernel)) (by decide +kernel) (by decide +kernel) (e0r hE (k := 16) (j := 12) (r := 23) (by decide +kernel))) ?_
  refine gm_sz (gm_p_load (pc := 46) (i := .iload 5) (sr := 0) (j := 5) (by decide +kernel) rfl rfl rfl) ?_
  refine gm_sz (gm_p_const (pc := 48) (i := .iconst 3) (v := gm_vi 3) (by decide +kernel) (by decide +kernel)) ?_
  refine gm_sz (gm_p_load (pc := 49) (i := .aload_n 0) (sr := 2) (j := 0) (by decide +kernel) rfl rfl rfl) ?_
  refine gm_sz (fw_gi (pc := 50) (ix := 30) (ci := 1) (j := 6) (x := M 16 6) (by decide +kernel) (e0k hE (k := 16) (c := 1) (by decide +kernel)) (by decide +kernel) (by decide +kernel) ((uM_ne (by omega)).trans ((uM_ne (by omega)).trans ((uM_ne (by omega)).trans (uM_ne (by omega)))))) ?_
  refine gm_c_virt (k := 23) (ci := 2) (mj := 45) (ix := 79) (pc := 53) (as := [gm_vi (M 23 3), gm_vi 3, gm_vi (M 16 6)]) (st := []) (d' := d - 1) (bc' := 0) (bs' := 0) (by decide +kernel) (by decide +kernel) (by decide +kernel) (by decide +kernel) (e0k hE (k := 23) (c := 2) (by decide +kernel)).1 (e0k hE (k := 23) (c := 2) (by decide +kernel)).2 (by decide) (by decide +kernel) (show 3 = gm_na 45 by decide +kernel) (fw_c3 fw_si fw_si fw_si) (show 4 ≤ gm_ml 45 by decide +kernel) (Nat.le_of_ble_eq_true rfl) (by omega) (Nat.zero_le _) (Nat.zero_le _) ?_
  refine rw_put (s := (M 23 3) + 1) (w := 7) (e0k hE (k := 23) (c := 2) (by decide +kernel)) (e0a hE (k := 24) (q := (0, 168)) (by decide +kernel)) (e0r hE (k := 23) (j := 2) (r := 24) (by decide +kernel)) (by decide) ((uM_ne (by omega)).trans ((uM_ne (by omega)).trans ((uM_ne (by omega)).trans uM_at))) ((uM_ne (by omega)).trans ((uM_ne (by omega)).trans ((uM_ne (by omega)).trans ((uM_ne (by omega)).trans (hC (23, 1, 7) (by decide)))))) ⟨by omega, by omega⟩ ⟨by omega, by omega⟩ ⟨by omega, by omega⟩ ⟨by omega, by omega⟩ ?_
  show gm_Wp X LX d _ _ 119 56 _ [] n K _ _ Q
  refine gm_sz (gm_p_load (pc := 56) (i := .aload_n 0) (sr := 2) (j := 0) (by decide +kernel) rfl rfl rfl) ?_
  refine gm_sz (fw_gr (pc := 57) (ix := 55) (ci := 1) (j := 12) (r := 23) (by decide +kernel) (e0k hE (k := 16) (c := 1) (by decide +kernel)) (by decide +kernel) (by decide +kernel) (e0r hE (k := 16) (j := 12) (r := 23) (by decide +kernel))) ?_
  refine gm_sz (gm_p_load (pc := 60) (i := .iload 5) (sr := 0) (j := 5) (by decide +kernel) rfl rfl rfl) ?_
  refine gm_sz (gm_p_const (pc := 62) (i := .iconst 4) (v := gm_vi 4) (by decide +kernel) (by decide +kernel)) ?_
  refine gm_sz (gm_p_load (pc := 63) (i := .iload 4) (sr := 0) (j := 4) (by decide +kernel) rfl rfl rfl) ?_
  refine gm_c_virt (k := 23) (ci := 2) (mj := 45) (ix := 79) (pc := 65) (as := [gm_vi (M 23 3), gm_vi 4, gm_vi r]) (st := []) (d' := d - 1) (bc' := 0) (bs' := 0) (by decide +kernel) (by decide +kernel) (by decide +kernel) (by decide +kernel) (e0k hE (k := 23) (c := 2) (by decide +kernel)).1 (e0k hE (k := 23) (c := 2) (by decide +kernel)).2 (by decide) (by decide +kernel) (show 3 = gm_na 45 by decide +kernel) (fw_c3 fw_si fw_si fw_si) (show 4 ≤ gm_ml 45 by decide +kernel) (Nat.le_of_ble_eq_true rfl) (by omega) (Nat.zero_le _) (Nat.zero_le _) ?_
  refine rw_put (s := (M 23 3) + 1) (w := 7) (e0k hE (k := 23) (c := 2) (by decide +kernel)) (e0a hE (k := 24) (q := (0, 168)) (by decide +kernel)) (e0r hE (k := 23) (j := 2) (r := 24) (by decide +kernel)) (by decide) ((uM_ne (by omega)).trans ((uM_ne (by omega)).trans ((uM_ne (by omega)).trans ((uM_ne (by omega)).trans uM_at)))) ((uM_ne (by omega)).trans ((uM_ne (by omega)).trans ((uM_ne (by omega)).trans ((uM_ne (by omega)).trans ((uM_ne (by omega)).trans (hC (23, 1, 7) (by decide))))))) ⟨by omega, by omega⟩ ⟨by omega, by omega⟩ ⟨by omega, by omega⟩ ⟨by omega, by omega⟩ ?_
  show gm_Wp X LX d _ _ 119 68 _ [] n K _ _ Q
  refine gm_sz (gm_p_load (pc := 68) (i := .aload_n 0) (sr := 2) (j := 0) (by decide +kernel) rfl rfl rfl) ?_
  refine gm_sz (fw_gr (pc := 69) (ix := 55) (ci := 1) (j := 12) (r := 23) (by decide +kernel) (e0k hE (k := 16) (c := 1) (by decide +kernel)) (by decide +kernel) (by decide +kernel) (e0r hE (k := 16) (j := 12) (r := 23) (by decide +kernel))) ?_
  refine gm_sz (gm_p_load (pc := 72) (i := .iload 5) (sr := 0) (j := 5) (by decide +kernel) rfl rfl rfl) ?_
  refine gm_sz (gm_p_const (pc := 74) (i := .iconst 5) (v := gm_vi 5) (by decide +kernel) (by decide +kernel)) ?_
  refine gm_sz (gm_p_const (pc := 75) (i := .iconst (-1)) (v := gm_vi (-1)) (by decide +kernel) (by decide +kernel)) ?_
  refine gm_c_virt (k := 23) (ci := 2) (mj := 45) (ix := 79) (pc := 76) (as := [gm_vi (M 23 3), gm_vi 5, gm_vi (-1)]) (st := []) (d' := d - 1) (bc' := 0) (bs' := 0) (by decide +kernel) (by decide +kernel) (by decide +kernel) (by decide +kernel) (e0k hE (k := 23) (c := 2) (by decide +kernel)).1 (e0k hE (k := 23) (c := 2) (by decide +kernel)).2 (by decide) (by decide +kernel) (show 3 = gm_na 45 by decide +kernel) (fw_c3 fw_si fw_si fw_si) (show 4 ≤ gm_ml 45 by decide +kernel) (Nat.le_of_ble_eq_true rfl) (by omega) (Nat.zero_le _) (Nat.zero_le _) ?_
  refine rw_put (s := (M 23 3) + 1) (w := 7) (e0k hE (k := 23) (c := 2) (by decide +kernel)) (e0a hE (k := 24) (q := (0, 168)) (by decide +kernel)) (e0r hE (k := 23) (j := 2) (r := 24) (by decide +kernel)) (by decide) ((uM_ne (by omega)).trans ((uM_ne (by omega)).trans ((uM_ne (by omega)).trans ((uM_ne (by omega)).trans ((uM_ne (by omega)).trans uM_at))))) ((uM_ne (by omega)).trans ((uM_ne (by omega)).trans ((uM_ne (by omega)).trans ((uM_ne (by omega)).trans ((uM_ne (by omega)).trans ((uM_ne (by omega)).trans (hC (23, 1, 7) (by decide)))))))) ⟨by omega, by omega⟩ ⟨by omega, by omega⟩ ⟨by omega, by omega⟩ ⟨by omega, by omega⟩ ?_
  show gm_Wp X LX d _ _ 119 79 _ [] n K _ _ Q
  refine gm_sz (gm_p_load (pc := 79) (i := .aload_n 0) (sr := 2) (j := 0) (by decide +kernel) rfl rfl rfl) ?_
  refine gm_sz (fw_gr (pc := 80) (ix := 55) (ci := 1) (j := 12) (r := 23) (by decide +kernel) (e0k hE (k := 16) (c := 1) (by decide +kernel)) (by decide +kernel) (by decide +kernel) (e0r hE (k := 16) (j := 12) (r := 23) (by decide +kernel))) ?_
  refine gm_sz (gm_p_load (pc := 83) (i := .iload 5) (sr := 0) (j := 5) (by decide +kernel) rfl rfl rfl) ?_
  refine gm_sz (gm_p_const (pc := 85) (i := .bipush 6) (v := gm_vi 6) (by decide +kernel) (by decide +kernel)) ?_
  refine gm_sz (gm_p_const (pc := 87) (i := .iconst (-1)) (v := gm_vi (-1)) (by decide +kernel) (by decide +kernel)) ?_
  refine gm_c_virt (k := 23) (ci := 2) (mj := 45) (ix := 79) (pc := 88) (as := [gm_vi (M 23 3), gm_vi 6, gm_vi (-1)]) (st := []) (d' := d - 1) (bc' := 0) (bs' := 0) (by decide +kernel) (by decide +kernel) (by decide +kernel) (by decide +kernel) (e0k hE (k := 23) (c := 2) (by decide +kernel)).1 (e0k hE (k := 23) (c := 2) (by decide +kernel)).2 (by decide) (by decide +kernel) (show 3 = gm_na 45 by decide +kernel) (fw_c3 fw_si fw_si fw_si) (show 4 ≤ gm_ml 45 by decide +kernel) (Nat.le_of_ble_eq_true rfl) (by omega) (Nat.zero_le _) (Nat.zero_le _) ?_
  refine rw_put (s := (M 23 3) + 1) (w := 7) (e0k hE (k := 23) (c := 2) (by decide +kernel)) (e0a hE (k := 24) (q := (0, 168)) (by decide +kernel)) (e0r hE (k := 23) (j := 2) (r := 24) (by decide +kernel)) (by decide) ((uM_ne (by omega)).trans ((uM_ne (by omega)).trans ((uM_ne (by omega)).trans ((uM_ne (by omega)).trans ((uM_ne (by omega)).trans ((uM_ne (by omega)).trans uM_at)))))) ((uM_ne (by omega)).trans ((uM_ne (by omega)).trans ((uM_ne (by omega)).trans ((uM_ne (by omega)).trans ((uM_ne (by omega)).trans ((uM_ne (by omega)).trans ((uM_ne (by omega)).trans (hC (23, 1, 7) (by decide))))))))) ⟨by omega, by omega⟩ ⟨by omega, by omega⟩ ⟨by omega, by omega⟩ ⟨by omega, by omega⟩ ?_
  show gm_Wp X LX d _ _ 119 91 _ [] n K _ _ Q
  refine gm_sz (gm_p_load (pc := 91) (i := .iload 5) (sr := 0) (j := 5) (by decide +kernel) rfl rfl rfl) ?_
  exact gm_r_int (pc := 93) (by decide +kernel) (Or.inl (by decide +kernel)) q0
def cs_op (M : gm_M) (l p : Int) : gm_M := gm_uM (gm_uM (gm_uM (gm_uM (gm_uM (gm_uM M 11 (l * 7 + 5) p) 11 (l * 7 + 6) (M 3 6)) 14 3 ((M 14 3) + 1)) 15 ((M 14 3) * 3 + 0) (M 3 6)) 15 ((M 14 3) * 3 + 1) l) 15 ((M 14 3) * 3 + 2) p
theorem cs_opn (hd : 1 ≤ d) (hE : E0 n K R) (hC : CST M) (h1 : 0 ≤ l ∧ l < M 10 3) (h2 : M 10 3 ≤ 24) (h3 : 0 ≤ M 14 3 ∧ M 14 3 < 24) (q0 : Q (.inl (none)) n K R (cs_op M l p)) : gm_Wp X LX d bc bs 159 0 (gm_ent 159 [gm_vr 3, gm_vi l, gm_vi p]) [] n K R M Q := by
  refine gm_sz (gm_p_load (pc := 0) (i := .aload_n 0) (sr := 2) (j := 0) (by decide +kernel) rfl rfl rfl) ?_
  refine gm_sz (fw_gr (pc := 1) (ix := 55) (ci := 1) (j := 12) (r := 10) (by decide +kernel) (e0k hE (k := 3) (c := 1) (by decide +kernel)) (by decide +kernel) (by decide +kernel) (e0r hE (k := 3) (j := 12) (r := 10) (by decide +kernel))) ?_
  refine gm_sz (gm_p_load (pc := 4) (i := .iload_n 1) (sr := 0) (j := 1) (by decide +kernel) rfl rfl rfl) ?_
  refine gm_sz (gm_p_const (pc := 5) (i := .iconst 5) (v := gm_vi 5) (by decide +kernel) (by decide +kernel)) ?_
  refine gm_sz (gm_p_load (pc := 6) (i := .iload_n 2) (sr := 0) (j := 2) (by decide +kernel) rfl rfl rfl) ?_
  refine gm_c_virt (k := 10) (ci := 2) (mj := 45) (ix := 79) (pc := 7) (as := [gm_vi l, gm_vi 5, gm_vi p]) (st := []) (d' := d - 1) (bc' := 0) (bs' := 0) (by decide +kernel) (by decide +kernel) (by decide +kernel) (by decide +kernel) (e0k hE (k := 10) (c := 2) (by decide +kernel)).1 (e0k hE (k := 10) (c := 2) (by decide +kernel)).2 (by decide) (by decide +kernel) (show 3 = gm_na 45 by decide +kernel) (fw_c3 fw_si fw_si fw_si) (show 4 ≤ gm_ml 45 by decide +kernel) (Nat.le_of_ble_eq_true rfl) (by omega) (Nat.zero_le _) (Nat.zero_le _) ?_
  refine rw_put (s := M 10 3) (w := 7) (e0k hE (k := 10) (c := 2) (by decide +kernel)) (e0a hE (k := 11) (q := (0, 168)) (by decide +kernel)) (e0r hE (k := 10) (j := 2) (r := 11) (by decide +kernel)) (by decide) rfl (hC (10, 1, 7) (by decide)) ⟨by omega, by omega⟩ ⟨by omega, by omega⟩ ⟨by omega, by omega⟩ ⟨by omega, by omega⟩ ?_
  show gm_Wp X LX d _ _ 159 10 _ [] n K _ _ Q
  refine gm_sz (gm_p_load (pc := 10) (i := .aload_n 0) (sr := 2) (j := 0) (by decide +kernel) rfl rfl rfl) ?_
  refine gm_sz (fw_gr (pc := 11) (ix := 55) (ci := 1) (j := 12) (r := 10) (by decide +kernel) (e0k hE (k := 3) (c := 1) (by decide +kernel)) (by decide +kernel) (by decide +kernel) (e0r hE (k := 3) (j := 12) (r := 10) (by decide +kernel))) ?_
  refine gm_sz (gm_p_load (pc := 14) (i := .iload_n 1) (sr := 0) (j := 1) (by decide +kernel) rfl rfl rfl) ?_
  refine gm_sz (gm_p_const (pc := 15) (i := .bipush 6) (v := gm_vi 6) (by decide +kernel) (by decide +kernel)) ?_
  refine gm_sz (gm_p_load (pc := 17) (i := .aload_n 0) (sr := 2) (j := 0) (by decide +kernel) rfl rfl rfl) ?_
  refine gm_sz (fw_gi (pc := 18) (ix := 30) (ci := 1) (j := 6) (x := M 3 6) (by decide +kernel) (e0k hE (k := 3) (c := 1) (by decide +kernel)) (by decide +kernel) (by decide +kernel) (uM_ne (by omega))) ?_
  refine gm_c_virt (k := 10) (ci := 2) (mj := 45) (ix := 79) (pc := 21) (as := [gm_vi l, gm_vi 6, gm_vi (M 3 6)]) (st := []) (d' := d - 1) (bc' := 0) (bs' := 0) (by decide +kernel) (by decide +kernel) (by decide +kernel) (by decide +kernel) (e0k hE (k := 10) (c := 2) (by decide +kernel)).1 (e0k hE (k := 10) (c := 2) (by decide +kernel)).2 (by decide) (by decide +kernel) (show 3 = gm_na 45 by decide +kernel) (fw_c3 fw_si fw_si fw_si) (show 4 ≤ gm_ml 45 by decide +kernel) (Nat.le_of_ble_eq_true rfl) (by omega) (Nat.zero_le _) (Nat.zero_le _) ?_
  refine rw_put (s := M 10 3) (w := 7) (e0k hE (k := 10) (c := 2) (by decide +kernel)) (e0a hE (k := 11) (q := (0, 168)) (by decide +kernel)) (e0r hE (k := 10) (j := 2) (r := 11) (by decide +kernel)) (by decide) (uM_ne (by omega)) ((uM_ne (by omega)).trans (hC (10, 1, 7) (by decide))) ⟨by omega, by omega⟩ ⟨by omega, by omega⟩ ⟨by omega, by omega⟩ ⟨by omega, by omega⟩ ?_
  show gm_Wp X LX d _ _ 159 24 _ [] n K _ _ Q
  refine gm_sz (gm_p_load (pc := 24) (i := .aload_n 0) (sr := 2) (j := 0) (by decide +kernel) rfl rfl rfl) ?_
  refine gm_sz (fw_gr (pc := 25) (ix := 61) (ci := 1) (j := 14) (r := 14) (by decide +kernel) (e0k hE (k := 3) (c := 1) (by decide +kernel)) (by decide +kernel) (by decide +kernel) (e0r hE (k := 3) (j := 14) (r := 14) (by decide +kernel))) ?_
  refine gm_c_virt (k := 14) (ci := 2) (mj := 102) (ix := 76) (pc := 28) (as := []) (st := []) (d' := d - 1) (bc' := 0) (bs' := 0) (by decide +kernel) (by decide +kernel) (by decide +kernel) (by decide +kernel) (e0k hE (k := 14) (c := 2) (by decide +kernel)).1 (e0k hE (k := 14) (c := 2) (by decide +kernel)).2 (by decide) (by decide +kernel) (show 0 = gm_na 102 by decide +kernel) fw_c0 (show 1 ≤ gm_ml 102 by decide +kernel) (Nat.le_of_ble_eq_true rfl) (by omega) (Nat.zero_le _) (Nat.zero_le _) ?_
  refine rw_add (s := M 14 3) (m := 24) (e0k hE (k := 14) (c := 2) (by decide +kernel)) ((uM_ne (by omega)).trans (uM_ne (by omega))) ((uM_ne (by omega)).trans ((uM_ne (by omega)).trans (hC (14, 0, 24) (by decide)))) ⟨by omega, by omega⟩ (by omega) ?_
  show gm_Wp X LX d _ _ 159 31 _ [gm_vi (M 14 3)] n K _ _ Q
  refine gm_sz (gm_p_stor (pc := 31) (i := .istore_n 3) (sr := 0) (j := 3) (by decide +kernel) rfl (show 4 ≤ _ from Nat.le_of_ble_eq_true rfl) rfl) ?_
  refine gm_sz (gm_p_load (pc := 32) (i := .aload_n 0) (sr := 2) (j := 0) (by decide +kernel) rfl rfl rfl) ?_
  refine gm_sz (fw_gr (pc := 33) (ix := 61) (ci := 1) (j := 14) (r := 14) (by decide +kernel) (e0k hE (k := 3) (c := 1) (by decide +kernel)) (by decide +kernel) (by decide +kernel) (e0r hE (k := 3) (j := 14) (r := 14) (by decide +kernel))) ?_
  refine gm_sz (gm_p_load (pc := 36) (i := .iload_n 3) (sr := 0) (j := 3) (by decide +kernel) rfl rfl rfl) ?_
  refine gm_sz (gm_p_const (pc := 37) (i := .iconst 0) (v := gm_vi 0) (by decide +kernel) (by decide +kernel)) ?_
  refine gm_sz (gm_p_load (pc := 38) (i := .aload_n 0) (sr := 2) (j := 0) (by decide +kernel) rfl rfl rfl) ?_
  refine gm_sz (fw_gi (pc := 39) (ix := 30) (ci := 1) (j := 6) (x := M 3 6) (by decide +kernel) (e0k hE (k := 3) (c := 1) (by decide +kernel)) (by decide +kernel) (by decide +kernel) ((uM_ne (by omega)).trans ((uM_ne (by omega)).trans (uM_ne (by omega))))) ?_
  refine gm_c_virt (k := 14) (ci := 2) (mj := 45) (ix := 79) (pc := 42) (as := [gm_vi (M 14 3), gm_vi 0, gm_vi (M 3 6)]) (st := []) (d' := d - 1) (bc' := 0) (bs' := 0) (by decide +kernel) (by decide +kernel) (by decide +kernel) (by decide +kernel) (e0k hE (k := 14) (c := 2) (by decide +kernel)).1 (e0k hE (k := 14) (c := 2) (by decide +kernel)).2 (by decide) (by decide +kernel) (show 3 = gm_na 45 by decide +kernel) (fw_c3 fw_si fw_si fw_si) (show 4 ≤ gm_ml 45 by decide +kernel) (Nat.le_of_ble_eq_true rfl) (by omega) (Nat.zero_le _) (Nat.zero_le _) ?_
  refine rw_put (s := (M 14 3) + 1) (w := 3) (e0k hE (k := 14) (c := 2) (by decide +kernel)) (e0a hE (k := 15) (q := (0, 72)) (by decide +kernel)) (e0r hE (k := 14) (j := 2) (r := 15) (by decide +kernel)) (by decide) uM_at ((uM_ne (by omega)).trans ((uM_ne (by omega)).trans ((uM_ne (by omega)).trans (hC (14, 1, 3) (by decide))))) ⟨by omega, by omega⟩ ⟨by omega, by omega⟩ ⟨by omega, by omega⟩ ⟨by omega, by omega⟩ ?_
  show gm_Wp X LX d _ _ 159 45 _ [] n K _ _ Q
  refine gm_sz (gm_p_load (pc := 45) (i := .aload_n 0) (sr := 2) (j := 0) (by decide +kernel) rfl rfl rfl) ?_
  refine gm_sz (fw_gr (pc := 46) (ix := 61) (ci := 1) (j := 14) (r := 14) (by decide +kernel) (e0k hE (k := 3) (c := 1) (by decide +kernel)) (by decide +kernel) (by decide +kernel) (e0r hE (k := 3) (j := 14) (r := 14) (by decide +kernel))) ?_
  refine gm_sz (gm_p_load (pc := 49) (i := .iload_n 3) (sr := 0) (j := 3) (by decide +kernel) rfl rfl rfl) ?_
  refine gm_sz (gm_p_const (pc := 50) (i := .iconst 1) (v := gm_vi 1) (by decide +kernel) (by decide +kernel)) ?_
  refine gm_sz (gm_p_load (pc := 51) (i := .iload_n 1) (sr := 0) (j := 1) (by decide +kernel) rfl rfl rfl) ?_
  refine gm_c_virt (k := 14) (ci := 2) (mj := 45) (ix := 79) (pc := 52) (as := [gm_vi (M 14 3), gm_vi 1, gm_vi l]) (st := []) (d' := d - 1) (bc' := 0) (bs' := 0) (by decide +kernel) (by decide +kernel) (by decide +kernel) (by decide +kernel) (e0k hE (k := 14) (c := 2) (by decide +kernel)).1 (e0k hE (k := 14) (c := 2) (by decide +kernel)).2 (by decide) (by decide +kernel) (show 3 = gm_na 45 by decide +kernel) (fw_c3 fw_si fw_si fw_si) (show 4 ≤ gm_ml 45 by decide +kernel) (Nat.le_of_ble_eq_true rfl) (by omega) (Nat.zero_le _) (Nat.zero_le _) ?_
  refine rw_put (s := (M 14 3) + 1) (w := 3) (e0k hE (k := 14) (c := 2) (by decide +kernel)) (e0a hE (k := 15) (q := (0, 72)) (by decide +kernel)) (e0r hE (k := 14) (j := 2) (r := 15) (by decide +kernel)) (by decide) ((uM_ne (by omega)).trans uM_at) ((uM_ne (by omega)).trans ((uM_ne (by omega)).trans ((uM_ne (by omega)).trans ((uM_ne (by omega)).trans (hC (14, 1, 3) (by decide)))))) ⟨by omega, by omega⟩ ⟨by omega, by omega⟩ ⟨by omega, by omega⟩ ⟨by omega, by omega⟩ ?_
  show gm_Wp X LX d _ _ 159 55 _ [] n K _ _ Q
  refine gm_sz (gm_p_load (pc := 55) (i := .aload_n 0) (sr := 2) (j := 0) (by decide +kernel) rfl rfl rfl) ?_
  refine gm_sz (fw_gr (pc := 56) (ix := 61) (ci := 1) (j := 14) (r := 14) (by decide +kernel) (e0k hE (k := 3) (c := 1) (by decide +kernel)) (by decide +kernel) (by decide +kernel) (e0r hE (k := 3) (j := 14) (r := 14) (by decide +kernel))) ?_
  refine gm_sz (gm_p_load (pc := 59) (i := .iload_n 3) (sr := 0) (j := 3) (by decide +kernel) rfl rfl rfl) ?_
  refine gm_sz (gm_p_const (pc := 60) (i := .iconst 2) (v := gm_vi 2) (by decide +kernel) (by decide +kernel)) ?_
  refine gm_sz (gm_p_load (pc := 61) (i := .iload_n 2) (sr := 0) (j := 2) (by decide +kernel) rfl rfl rfl) ?_
  refine gm_c_virt (k := 14) (ci := 2) (mj := 45) (ix := 79) (pc := 62) (as := [gm_vi (M 14 3), gm_vi 2, gm_vi p]) (st := []) (d' := d - 1) (bc' := 0) (bs' := 0) (by decide +kernel) (by decide +kernel) (by decide +kernel) (by decide +kernel) (e0k hE (k := 14) (c := 2) (by decide +kernel)).1 (e0k hE (k := 14) (c := 2) (by decide +kernel)).2 (by decide) (by decide +kernel) (show 3 = gm_na 45 by decide +kernel) (fw_c3 fw_si fw_si fw_si) (show 4 ≤ gm_ml 45 by decide +kernel) (Nat.le_of_ble_eq_true rfl) (by omega) (Nat.zero_le _) (Nat.zero_le _) ?_
  refine rw_put (s := (M 14 3) + 1) (w := 3) (e0k hE (k := 14) (c := 2) (by decide +kernel)) (e0a hE (k := 15) (q := (0, 72)) (by decide +kernel)) (e0r hE (k := 14) (j := 2) (r := 15) (by decide +kernel)) (by decide) ((uM_ne (by omega)).trans ((uM_ne (by omega)).trans uM_at)) ((uM_ne (by omega)).trans ((uM_ne (by omega)).trans ((uM_ne (by omega)).trans ((uM_ne (by omega)).trans ((uM_ne (by omega)).trans (hC (14, 1, 3) (by decide))))))) ⟨by omega, by omega⟩ ⟨by omega, by omega⟩ ⟨by omega, by omega⟩ ⟨by omega, by omega⟩ ?_
  show gm_Wp X LX d _ _ 159 65 _ [] n K _ _ Q
  exact gm_r_void (pc := 65) (by decide +kernel) (by decide +kernel) q0
theorem cs_emp (hd : 1 ≤ d) (hE : E0 n K R) (hC : CST M) (h1 : 0 ≤ M 17 3 ∧ M 17 3 ≤ 8) (h2 : 0 ≤ M 19 3 ∧ M 19 3 ≤ 8) (h3 : 0 ≤ M 21 3 ∧ M 21 3 ≤ 8) (h4 : 0 ≤ M 23 3 ∧ M 23 3 ≤ 24) (h5 : 0 ≤ M 25 3 ∧ M 25 3 ≤ 6) (q0 : ¬ (((((M 17 3) + (M 19 3)) + (M 21 3)) + (M 23 3)) + (M 25 3)) = 0 → Q (.inl (some (gm_vi 0))) n K R (M)) (q1 : (((((M 17 3) + (M 19 3)) + (M 21 3)) + (M 23 3)) + (M 25 3)) = 0 → Q (.inl (some (gm_vi 1))) n K R (M)) : gm_Wp X LX d bc bs 105 0 (gm_ent 105 [gm_vr 16]) [] n K R M Q := by
  refine gm_sz (gm_p_load (pc := 0) (i := .aload_n 0) (sr := 2) (j := 0) (by decide +kernel) rfl rfl rfl) ?_
  refine gm_sz (fw_gr (pc := 1) (ix := 45) (ci := 1) (j := 9) (r := 17) (by decide +kernel) (e0k hE (k := 16) (c := 1) (by decide +kernel)) (by decide +kernel) (by decide +kernel) (e0r hE (k := 16) (j := 9) (r := 17) (by decide +kernel))) ?_
  refine gm_c_virt (k := 17) (ci := 2) (mj := 9) (ix := 68) (pc := 4) (as := []) (st := []) (d' := d - 1) (bc' := 0) (bs' := 0) (by decide +kernel) (by decide +kernel) (by decide +kernel) (by decide +kernel) (e0k hE (k := 17) (c := 2) (by decide +kernel)).1 (e0k hE (k := 17) (c := 2) (by decide +kernel)).2 (by decide) (by decide +kernel) (show 0 = gm_na 9 by decide +kernel) fw_c0 (show 1 ≤ gm_ml 9 by decide +kernel) (Nat.le_of_ble_eq_true rfl) (by omega) (Nat.zero_le _) (Nat.zero_le _) ?_
  refine rw_size (s := M 17 3) (e0k hE (k := 17) (c := 2) (by decide +kernel)) rfl ?_
  show gm_Wp X LX d _ _ 105 7 _ [gm_vi (M 17 3)] n K _ _ Q
  refine gm_sz (gm_p_load (pc := 7) (i := .aload_n 0) (sr := 2) (j := 0) (by decide +kernel) rfl rfl rfl) ?_
  refine gm_sz (fw_gr (pc := 8) (ix := 49) (ci := 1) (j := 10) (r := 19) (by decide +kernel) (e0k hE (k := 16) (c := 1) (by decide +kernel)) (by decide +kernel) (by decide +kernel) (e0r hE (k := 16) (j := 10) (r := 19) (by decide +kernel))) ?_
  refine gm_c_virt (k := 19) (ci := 2) (mj := 9) (ix := 68) (pc := 11) (as := []) (st := [gm_vi (M 17 3)]) (d' := d - 1) (bc' := 0) (bs' := 0) (by decide +kernel) (by decide +kernel) (by decide +kernel) (by decide +kernel) (e0k hE (k := 19) (c := 2) (by decide +kernel)).1 (e0k hE (k := 19) (c := 2) (by decide +kernel)).2 (by decide) (by decide +kernel) (show 0 = gm_na 9 by decide +kernel) fw_c0 (show 1 ≤ gm_ml 9 by decide +kernel) (Nat.le_of_ble_eq_true rfl) (by omega) (Nat.zero_le _) (Nat.zero_le _) ?_
  refine rw_size (s := M 19 3) (e0k hE (k := 19) (c := 2) (by decide +kernel)) rfl ?_
  show gm_Wp X LX d _ _ 105 14 _ [gm_vi (M 19 3), gm_vi (M 17 3)] n K _ _ Q
  refine gm_sz (gm_p_bin (pc := 14) (i := .iadd) (f := fun x y => x + y) (by decide +kernel) rfl) ?_
  refine gm_sz (gm_p_load (pc := 15) (i := .aload_n 0) (sr := 2) (j := 0) (by decide +kernel) rfl rfl rfl) ?_
  refine gm_sz (fw_gr (pc := 16) (ix := 52) (ci := 1) (j := 11) (r := 21) (by decide +kernel) (e0k hE (k := 16) (c := 1) (by decide +kernel)) (by decide +kernel) (by decide +kernel) (e0r hE (k := 16) (j := 11) (r := 21) (by decide +kernel))) ?_
  refine gm_c_virt (k := 21) (ci := 2) (mj := 9) (ix := 68) (pc := 19) (as := []) (st := [gm_vi ((M 17 3) + (M 19 3))]) (d' := d - 1) (bc' := 0) (bs' := 0) (by decide +kernel) (by decide +kernel) (by decide +kernel) (by decide +kernel) (e0k hE (k := 21) (c := 2) (by decide +kernel)).1 (e0k hE (k := 21) (c := 2) (by decide +kernel)).2 (by decide) (by decide +kernel) (show 0 = gm_na 9 by decide +kernel) fw_c0 (show 1 ≤ gm_ml 9 by decide +kernel) (Nat.le_of_ble_eq_true rfl) (by omega) (Nat.zero_le _) (Nat.zero_le _) ?_
  refine rw_size (s := M 21 3) (e0k hE (k := 21) (c := 2) (by decide +kernel)) rfl ?_
  show gm_Wp X LX d _ _ 105 22 _ [gm_vi (M 21 3), gm_vi ((M 17 3) + (M 19 3))] n K _ _ Q
  refine gm_sz (gm_p_bin (pc := 22) (i := .iadd) (f := fun x y => x + y) (by decide +kernel) rfl) ?_
  refine gm_sz (gm_p_load (pc := 23) (i := .aload_n 0) (sr := 2) (j := 0) (by decide +kernel) rfl rfl rfl) ?_
  refine gm_sz (fw_gr (pc := 24) (ix := 55) (ci := 1) (j := 12) (r := 23) (by decide +kernel) (e0k hE (k := 16) (c := 1) (by decide +kernel)) (by decide +kernel) (by decide +kernel) (e0r hE (k := 16) (j := 12) (r := 23) (by decide +kernel))) ?_
  refine gm_c_virt (k := 23) (ci := 2) (mj := 9) (ix := 68) (pc := 27) (as := []) (st := [gm_vi (((M 17 3) + (M 19 3)) + (M 21 3))]) (d' := d - 1) (bc' := 0) (bs' := 0) (by decide +kernel) (by decide +kernel) (by decide +kernel) (by decide +kernel) (e0k hE (k := 23) (c := 2) (by decide +kernel)).1 (e0k hE (k := 23) (c := 2) (by decide +kernel)).2 (by decide) (by decide +kernel) (show 0 = gm_na 9 by decide +kernel) fw_c0 (show 1 ≤ gm_ml 9 by decide +kernel) (Nat.le_of_ble_eq_true rfl) (by omega) (Nat.zero_le _) (Nat.zero_le _) ?_
  refine rw_size (s := M 23 3) (e0k hE (k := 23) (c := 2) (by decide +kernel)) rfl ?_
  show gm_Wp X LX d _ _ 105 30 _ [gm_vi (M 23 3), gm_vi (((M 17 3) + (M 19 3)) + (M 21 3))] n K _ _ Q
  refine gm_sz (gm_p_bin (pc := 30) (i := .iadd) (f := fun x y => x + y) (by decide +kernel) rfl) ?_
  refine gm_sz (gm_p_load (pc := 31) (i := .aload_n 0) (sr := 2) (j := 0) (by decide +kernel) rfl rfl rfl) ?_
  refine gm_sz (fw_gr (pc := 32) (ix := 58) (ci := 1) (j := 13) (r := 25) (by decide +kernel) (e0k hE (k := 16) (c := 1) (by decide +kernel)) (by decide +kernel) (by decide +kernel) (e0r hE (k := 16) (j := 13) (r := 25) (by decide +kernel))) ?_
  refine gm_c_virt (k := 25) (ci := 2) (mj := 9) (ix := 68) (pc := 35) (as := []) (st := [gm_vi ((((M 17 3) + (M 19 3)) + (M 21 3)) + (M 23 3))]) (d' := d - 1) (bc' := 0) (bs' := 0) (by decide +kernel) (by decide +kernel) (by decide +kernel) (by decide +kernel) (e0k hE (k := 25) (c := 2) (by decide +kernel)).1 (e0k hE (k := 25) (c := 2) (by decide +kernel)).2 (by decide) (by decide +kernel) (show 0 = gm_na 9 by decide +kernel) fw_c0 (show 1 ≤ gm_ml 9 by decide +kernel) (Nat.le_of_ble_eq_true rfl) (by omega) (Nat.zero_le _) (Nat.zero_le _) ?_
  refine rw_size (s := M 25 3) (e0k hE (k := 25) (c := 2) (by decide +kernel)) rfl ?_
  show gm_Wp X LX d _ _ 105 38 _ [gm_vi (M 25 3), gm_vi ((((M 17 3) + (M 19 3)) + (M 21 3)) + (M 23 3))] n K _ _ Q
  refine gm_sz (gm_p_bin (pc := 38) (i := .iadd) (f := fun x y => x + y) (by decide +kernel) rfl) ?_
  refine fw_if (cc := .ne) (pc := 39) (off := 7) (by decide +kernel) (by decide) ⟨by omega, by omega⟩ (fun h39 => ?_) (fun h39 => ?_)
  · have h39 : ¬ (((((M 17 3) + (M 19 3)) + (M 21 3)) + (M 23 3)) + (M 25 3)) = 0 := h39
    refine gm_sz (gm_p_const (pc := 46) (i := .iconst 0) (v := gm_vi 0) (by decide +kernel) (by decide +kernel)) ?_
    exact gm_r_int (pc := 47) (by decide +kernel) (Or.inr ⟨(by decide +kernel), Or.inl rfl⟩) (q0 h39)
  · have h39 : (((((M 17 3) + (M 19 3)) + (M 21 3)) + (M 23 3)) + (M 25 3)) = 0 := Classical.not_not.mp h39
    refine gm_sz (gm_p_const (pc := 42) (i := .iconst 1) (v := gm_vi 1) (by decide +kernel) (by decide +kernel)) ?_
    refine gm_sz (gm_p_goto (pc := 43) (off := 4) (by decide +kernel) (by decide)) ?_
    exact gm_r_int (pc := 47) (by decide +kernel) (Or.inr ⟨(by decide +kernel), Or.inr rfl⟩) (q1 h39)
end CST1
abbrev nL (N : Int → Int) (l c : Int) : Int := N (119 + (l * 7 + c))
abbrev nP (N : Int → Int) (p c : Int) : Int := N (95 + (p * 3 + c))
abbrev nF (N : Int → Int) (f c : Int) : Int := N (71 + (f * 3 + c))
abbrev nS (N : Int → Int) (s c : Int) : Int := N (15 + (s * 7 + c))
abbrev nT (N : Int → Int) (t c : Int) : Int := N (287 + (t * 6 + c))
abbrev nO (N : Int → Int) (k c : Int) : Int := N (323 + (k * 3 + c))
/-- the bits of a year's floods -/
def fbit (N : Int → Int) (y b : Int) : Prop := ∀ f : Nat, f < 8 → (gm_and (gm_shr b (f : Int)) 1 = 1 ↔ ((f : Int) < N 5 ∧ (N (71 + (f * 3 + 0))) = y))
/-- bounds of what is told -/
def NR (N : Int → Int) : Prop := ((1 ≤ N 0 ∧ N 0 ≤ 6) ∧ (10 ≤ N 1 ∧ N 1 ≤ 99) ∧ (0 ≤ N 10 ∧ N 10 ≤ 98) ∧ (0 ≤ N 11 ∧ N 11 ≤ 9) ∧ (0 ≤ N 12 ∧ N 12 ≤ 6) ∧ (0 ≤ N 9 ∧ N 9 ≤ 299)) ∧ ((0 ≤ N 2 ∧ N 2 ≤ 8) ∧ (0 ≤ N 5 ∧ N 5 ≤ 8) ∧ (0 ≤ N 3 ∧ N 3 ≤ 8) ∧ (0 ≤ N 4 ∧ N 4 ≤ 24) ∧ (0 ≤ N 6 ∧ N 6 ≤ 6) ∧ (0 ≤ N 14 ∧ N 14 ≤ 24) ∧ (0 ≤ N 7 ∧ N 7 ≤ 12) ∧ (0 ≤ N 13 ∧ N 13 ≤ 9999)) ∧
  (∀ f : Int, 0 ≤ f → f < N 5 → (0 ≤ (N (71 + (f * 3 + 0))) ∧ (N (71 + (f * 3 + 0))) ≤ 299) ∧ (0 ≤ (N (71 + (f * 3 + 1))) ∧ (N (71 + (f * 3 + 1))) < N 1) ∧ (0 ≤ (N (71 + (f * 3 + 2))) ∧ (N (71 + (f * 3 + 2))) ≤ 20)) ∧
  (∀ p : Int, 0 ≤ p → p < N 3 → (0 ≤ (N (95 + (p * 3 + 0))) ∧ (N (95 + (p * 3 + 0))) < N 0) ∧ (0 ≤ (N (95 + (p * 3 + 1))) ∧ (N (95 + (p * 3 + 1))) < N 1) ∧ (-1 ≤ (N (95 + (p * 3 + 2))) ∧ (N (95 + (p * 3 + 2))) < N 0)) ∧
  (∀ l : Int, 0 ≤ l → l < N 4 → (-1 ≤ (N (119 + (l * 7 + 0))) ∧ (N (119 + (l * 7 + 0))) < N 3) ∧ (-1 ≤ (N (119 + (l * 7 + 1))) ∧ (N (119 + (l * 7 + 1))) < N 3) ∧ (0 ≤ (N (119 + (l * 7 + 2))) ∧ (N (119 + (l * 7 + 2))) < N 0) ∧ (0 ≤ (N (119 + (l * 7 + 3))) ∧ (N (119 + (l * 7 + 3))) ≤ N 9) ∧ (0 ≤ (N (119 + (l * 7 + 4))) ∧ (N (119 + (l * 7 + 4))) < N 1) ∧ (-1 ≤ (N (119 + (l * 7 + 5))) ∧ (N (119 + (l * 7 + 5))) < N 3) ∧ (-1 ≤ (N (119 + (l * 7 + 6))) ∧ (N (119 + (l * 7 + 6))) ≤ 299) ∧ (0 ≤ (N (119 + (l * 7 + 0))) → 0 ≤ (N (119 + (l * 7 + 1)))))
/-- what the class is told, and what it has made of it: heats, speeds, floods -/
def TI (N h : Int → Int) (sp : Int → Int → Int) (M : gm_M) : Prop := CST M ∧ cs M 3 = N ∧ (∀ y, 0 ≤ y → y < 300 → M 201 y = h y ∧ (0 ≤ h y ∧ h y ≤ 9) ∧ gm_ir (M 203 y) ∧ fbit N y (M 203 y)) ∧ ∀ l r, 0 ≤ l → l < 6 → 0 ≤ r → r < 99 → M 202 (l * 99 + r) = sp l r
section TII
variable {N h : Int → Int} {sp : Int → Int → Int} {M M2 : gm_M} {W : List (Nat × Option Int)}
theorem ti_lan (hT : TI N h sp M) : M 3 0 = N 0 := congrFun hT.2.1 0
theorem ti_las (hT : TI N h sp M) : M 3 1 = N 1 := congrFun hT.2.1 1
theorem ti_sno (hT : TI N h sp M) : M 3 2 = N 10 := congrFun hT.2.1 10
theorem ti_fal (hT : TI N h sp M) : M 3 3 = N 11 := congrFun hT.2.1 11
theorem ti_str (hT : TI N h sp M) : M 3 4 = N 12 := congrFun hT.2.1 12
theorem ti_see (hT : TI N h sp M) : M 3 5 = N 13 := congrFun hT.2.1 13
theorem ti_now (hT : TI N h sp M) : M 3 6 = N 9 := congrFun hT.2.1 9
theorem ti_txs (hT : TI N h sp M) : M 3 7 = N 7 := congrFun hT.2.1 7
theorem ti_sec (hT : TI N h sp M) : M 4 3 = N 2 := congrFun hT.2.1 2
theorem ti_flo (hT : TI N h sp M) : M 6 3 = N 5 := congrFun hT.2.1 5
theorem ti_peo (hT : TI N h sp M) : M 8 3 = N 3 := congrFun hT.2.1 3
theorem ti_let (hT : TI N h sp M) : M 10 3 = N 4 := congrFun hT.2.1 4
theorem ti_tab (hT : TI N h sp M) : M 12 3 = N 6 := congrFun hT.2.1 6
theorem ti_ope (hT : TI N h sp M) : M 14 3 = N 14 := congrFun hT.2.1 14
theorem ti_aS (hT : TI N h sp M) {j : Int} (h0 : 0 ≤ j) (h1 : j < 56) : M 5 j = N (15 + j) := by
  have e := congrFun hT.2.1 (15 + j)
  rw [← e]
  unfold cs
  rw [if_neg (show ¬ 15 + j < 0 by omega), if_neg (show ¬ 15 + j < 15 by omega), if_pos (show 15 + j < 71 by omega)]
  show M 5 j = M 5 _
  congr 1
  omega
theorem ti_aF (hT : TI N h sp M) {j : Int} (h0 : 0 ≤ j) (h1 : j < 24) : M 7 j = N (71 + j) := by
  have e := congrFun hT.2.1 (71 + j)
  rw [← e]
  unfold cs
  rw [if_neg (show ¬ 71 + j < 0 by omega), if_neg (show ¬ 71 + j < 15 by omega), if_neg (show ¬ 71 + j < 71 by omega), if_pos (show 71 + j < 95 by omega)]
  show M 7 j = M 7 _
  congr 1
  omega
theorem ti_aP (hT : TI N h sp M) {j : Int} (h0 : 0 ≤ j) (h1 : j < 24) : M 9 j = N (95 + j) := by
  have e := congrFun hT.2.1 (95 + j)
  rw [← e]
  unfold cs
  rw [if_neg (show ¬ 95 + j < 0 by omega), if_neg (show ¬ 95 + j < 15 by omega), if_neg (show ¬ 95 + j < 71 by omega), if_neg (show ¬ 95 + j < 95 by omega), if_pos (show 95 + j < 119 by omega)]
  show M 9 j = M 9 _
  congr 1
  omega
theorem ti_aL (hT : TI N h sp M) {j : Int} (h0 : 0 ≤ j) (h1 : j < 168) : M 11 j = N (119 + j) := by
  have e := congrFun hT.2.1 (119 + j)
  rw [← e]
  unfold cs
  rw [if_neg (show ¬ 119 + j < 0 by omega), if_neg (show ¬ 119 + j < 15 by omega), if_neg (show ¬ 119 + j < 71 by omega), if_neg (show ¬ 119 + j < 95 by omega), if_neg (show ¬ 119 + j < 119 by omega), if_pos (show 119 + j < 287 by omega)]
  show M 11 j = M 11 _
  congr 1
  omega
theorem ti_aT (hT : TI N h sp M) {j : Int} (h0 : 0 ≤ j) (h1 : j < 36) : M 13 j = N (287 + j) := by
  have e := congrFun hT.2.1 (287 + j)
  rw [← e]
  unfold cs
  rw [if_neg (show ¬ 287 + j < 0 by omega), if_neg (show ¬ 287 + j < 15 by omega), if_neg (show ¬ 287 + j < 71 by omega), if_neg (show ¬ 287 + j < 95 by omega), if_neg (show ¬ 287 + j < 119 by omega), if_neg (show ¬ 287 + j < 287 by omega), if_pos (show 287 + j < 323 by omega)]
  show M 13 j = M 13 _
  congr 1
  omega
theorem ti_aO (hT : TI N h sp M) {j : Int} (h0 : 0 ≤ j) (h1 : j < 72) : M 15 j = N (323 + j) := by
  have e := congrFun hT.2.1 (323 + j)
  rw [← e]
  unfold cs
  rw [if_neg (show ¬ 323 + j < 0 by omega), if_neg (show ¬ 323 + j < 15 by omega), if_neg (show ¬ 323 + j < 71 by omega), if_neg (show ¬ 323 + j < 95 by omega), if_neg (show ¬ 323 + j < 119 by omega), if_neg (show ¬ 323 + j < 287 by omega), if_neg (show ¬ 323 + j < 323 by omega), if_pos (show 323 + j < 395 by omega)]
  show M 15 j = M 15 _
  congr 1
  omega
/-- what touches neither what is told nor what is made of it -/
def okT (W : List (Nat × Option Int)) : Bool := W.all fun w => decide (16 ≤ w.1 ∧ ¬ (201 ≤ w.1 ∧ w.1 ≤ 203)) || (w.1 == 1 || w.1 == 2)
theorem cs_fr (h9 : fr W M M2) (hw : W.all (fun w => !(3 ≤ w.1 && w.1 ≤ 15)) = true) : cs M2 3 = cs M 3 := by
  have e : ∀ k j, 3 ≤ k → k ≤ 15 → M2 k j = M k j := fun k j h1 h2 => h9 k j (fun hm => by have := List.all_eq_true.mp hw _ hm; simp at this; omega) (fun hm => by have := List.all_eq_true.mp hw _ hm; simp at this; omega)
  funext i
  unfold cs
  rw [e 3 0 (by decide) (by decide), e 3 1 (by decide) (by decide), e 3 2 (by decide) (by decide), e 3 3 (by decide) (by decide), e 3 4 (by decide) (by decide), e 3 5 (by decide) (by decide), e 3 6 (by decide) (by decide), e 3 7 (by decide) (by decide), e (3 + 1) 3 (by decide) (by decide), e (3 + 3) 3 (by decide) (by decide), e (3 + 5) 3 (by decide) (by decide), e (3 + 7) 3 (by decide) (by decide), e (3 + 9) 3 (by decide) (by decide), e (3 + 11) 3 (by decide) (by decide), e (3 + 2) _ (by decide) (by decide), e (3 + 4) _ (by decide) (by decide), e (3 + 6) _ (by decide) (by decide), e (3 + 8) _ (by decide) (by decide), e (3 + 10) _ (by decide) (by decide), e (3 + 12) _ (by decide) (by decide)]
theorem ti_fr (hT : TI N h sp M) (h9 : fr W M M2) (hw : okT W = true) (hc : W.all (fun w => cstL.all (fun q => !(q.1 == w.1 && (w.2 == none || w.2 == some q.2.1)))) = true) : TI N h sp M2 := by
  have e : ∀ k j, (3 ≤ k ∧ k ≤ 15 ∨ 201 ≤ k ∧ k ≤ 203) → M2 k j = M k j := fun k j hk => h9 k j (fun hm => by have := List.all_eq_true.mp hw _ hm; simp at this; omega) (fun hm => by have := List.all_eq_true.mp hw _ hm; simp at this; omega)
  refine ⟨cst_fr hT.1 h9 hc, ?_, fun y y1 y2 => ?_, fun l r l1 l2 r1 r2 => ?_⟩
  · rw [cs_fr h9 (List.all_eq_true.mpr fun w hw9 => by have := List.all_eq_true.mp hw w hw9; simp at this ⊢; omega)]
    exact hT.2.1
  · rw [e 201 y (by omega), e 203 y (by omega)]
    exact hT.2.2.1 y y1 y2
  · rw [e 202 _ (by omega)]
    exact hT.2.2.2 l r l1 l2 r1 r2
end TII
end
