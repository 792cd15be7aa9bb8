/-! 7a46.w4rl -/
section
/-! THE REFERENCE'S law(), whole, with its lines (laid by wip/core/w4.py). -/
section W4A
variable {X : Int → Int} {LX d bc bs n : Nat} {K : gm_K} {R : gm_R} {M : gm_M} {Q : gm_Q} {f : Int → Int} {e y : Int} {N h : Int → Int}
theorem rm_fr {pt bg dp st : Int} {W : Int → Int} : fr [(226, some 9), (226, some 11), (226, some 12), (226, some 15), (227, none)] M (rm M pt bg dp st W) := by
  intro c j h1 h2
  unfold rm
  by_cases hc : c = 226
  · subst hc
    simp at h2
    rw [if_pos rfl, if_neg (by omega), if_neg (by omega), if_neg (by omega), if_neg (by omega)]
  · rw [if_neg hc, if_neg (fun hh => by subst hh; simp at h1)]
theorem rdl_LR2a {ls : List lln} {L : List (Int × Int)} {W0 W H : Int → Int} {st : Int} (h : rdl ls L W0 st W) (hs : st ≤ 400) (hl : ls.length ≤ 12) (hG : ∀ j, 396 ≤ j → j < 1244 → H j = W (j + 849)) : LR ls H := by
  intro k x hx
  have hk : k < ls.length := (List.getElem?_eq_some_iff.mp hx).1
  obtain ⟨a0, a1, a2, a3⟩ := rdl_LR h k x hx
  obtain ⟨-, -, b2, -, b4⟩ := h.2.2 k x hx
  have hst : st = (L.length : Int) := h.2.1.1
  rw [hG (396 + 4 * (k : Int)) (by omega) (by omega), hG (396 + 4 * (k : Int) + 1) (by omega) (by omega), hG (396 + 4 * (k : Int) + 2) (by omega) (by omega), hG (396 + 4 * (k : Int) + 3) (by omega) (by omega)]
  refine ⟨a0, a1, a2, fun t ht => ?_⟩
  obtain ⟨c1, c2⟩ := a3 t ht
  refine ⟨c1, fun j v hv => ?_⟩
  have hj := (List.getElem?_eq_some_iff.mp ((b4 t ht).2 j v hv)).1
  have e9 : (396 + 4 * (k : Int) + 2 + 849) = 1245 + 4 * (k : Int) + 2 := by omega
  have c3 := c2 j v hv
  have c3 : W (444 + 2 * (W (396 + 4 * (k : Int) + 2 + 849) + (j : Int)) + 849) = v.1 ∧ W (444 + 2 * (W (396 + 4 * (k : Int) + 2 + 849) + (j : Int)) + 1 + 849) = v.2 := c3
  rw [e9] at c3 ⊢
  generalize W (1245 + 4 * (k : Int) + 2) = z at b2 hj c3 ⊢
  rw [hG (444 + 2 * (z + (j : Int))) (by omega) (by omega), hG (444 + 2 * (z + (j : Int)) + 1) (by omega) (by omega)]
  exact c3
/-- where its steps lie -/
def LRb (ls : List lln) (G : Int → Int) : Prop := ∀ (k : Nat) (x : lln), ls[k]? = some x → 0 ≤ G (396 + 4 * (k : Int) + 2) ∧ ∀ t, x.2.2 = some t → ∀ (j : Nat) (v : Int × Int), (srds t)[j]? = some v → G (396 + 4 * (k : Int) + 2) + (j : Int) < 400
theorem rdl_LR2 {ls : List lln} {L : List (Int × Int)} {W0 W H : Int → Int} {st : Int} (h : rdl ls L W0 st W) (hs : st ≤ 400) (hl : ls.length ≤ 12) (hG : ∀ j, 396 ≤ j → j < 1244 → H j = W (j + 849)) : LR ls H ∧ LRb ls H := by
  refine ⟨rdl_LR2a h hs hl hG, fun k x hx => ?_⟩
  have hk : k < ls.length := (List.getElem?_eq_some_iff.mp hx).1
  obtain ⟨-, -, b2, -, b4⟩ := h.2.2 k x hx
  have hst : st = (L.length : Int) := h.2.1.1
  have e9 : (396 + 4 * (k : Int) + 2 + 849) = 1245 + 4 * (k : Int) + 2 := by omega
  rw [hG (396 + 4 * (k : Int) + 2) (by omega) (by omega), e9]
  refine ⟨b2, fun t ht j v hv => ?_⟩
  have hj := (List.getElem?_eq_some_iff.mp ((b4 t ht).2 j v hv)).1
  omega
theorem rl_243 (hd : 34 ≤ d) (hE : E0 n K R) (hF : VF f e) (hf : M 231 = f) (he : M 226 8 = e) (q1 : ∀ (W2 : Int → Int) (L2 : List (Int × Int)) (st2 : Int) M2, rdl (s_law f e) L2 (M 227) st2 W2 → 0 ≤ st2 ∧ st2 ≤ e → (g_law f e).1 = true → M2 227 = W2 → fr [(226, some 0), (226, some 10), (226, some 8), (226, some 15), (226, some 9), (226, some 11), (226, some 12), (227, none)] M M2 → M2 226 8 = 0 → M2 226 0 = 0 → Q (.inl (some (gm_vi (g_law f e).2))) n K R M2) (q0 : ∀ M2, (∀ j, j < 1245 → M2 227 j = M 227 j) → M2 226 11 = (g_law f e).2 → ¬ (g_law f e).1 = true → fr [(226, some 0), (226, some 10), (226, some 8), (226, some 15), (226, some 9), (226, some 11), (226, some 12), (227, none)] M M2 → M2 226 8 = 0 → M2 226 0 = 0 → Q (.inl (some (gm_vi (-1)))) n K R M2) : gm_Wp X LX d bc bs 243 0 (gm_ent 243 [gm_vr 226, gm_vi 0]) [] n K R M Q := by
  refine gm_sz (gm_p_load (pc := 0) (i := .aload_n 0) (sr := 2) (j := 0) (by decide +kernel) rfl rfl rfl) ?_
  refine gm_c_virt (k := 226) (ci := 11) (mj := 244) (ix := 289) (pc := 1) (as := []) (st := []) (d' := d - 1) (bc' := 0) (bs' := 0) (by decide +kernel) (by decide +kernel) (by decide +kernel) (by decide +kernel) (e0k hE (k := 226) (c := 11) (by decide +kernel)).1 (e0k hE (k := 226) (c := 11) (by decide +kernel)).2 (by decide) (by decide +kernel) (show 0 = gm_na 244 by decide +kernel) fw_c0 (show 1 ≤ gm_ml 244 by decide +kernel) (Nat.le_of_ble_eq_true rfl) (by omega) (Nat.zero_le _) (Nat.zero_le _) ?_
  refine rv_244 hE he ?_
  show gm_Wp X LX d _ _ 243 4 _ [] n K _ _ Q
  refine gm_sz (gm_p_load (pc := 4) (i := .aload_n 0) (sr := 2) (j := 0) (by decide +kernel) rfl rfl rfl) ?_
  refine gm_sz (gm_p_const (pc := 5) (i := .iconst 0) (v := gm_vi 0) (by decide +kernel) (by decide +kernel)) ?_
  refine gm_sz (fw_pi (pc := 6) (ix := 224) (ci := 11) (j := 15) (M' := gm_uM (gm_uM (gm_uM (gm_uM (gm_uM M 226 0 0) 226 10 e) 226 8 0) 226 9 0) 226 15 0) (by decide +kernel) (e0k hE (k := 226) (c := 11) (by decide +kernel)) (by decide +kernel) (by decide +kernel) (by decide +kernel) rfl) ?_
  have z9 : (gm_uM (gm_uM (gm_uM (gm_uM (gm_uM M 226 0 0) 226 10 e) 226 8 0) 226 9 0) 226 15 0) 226 9 = 0 := ((uM_ne (by omega)).trans uM_at)
  have z15 : (gm_uM (gm_uM (gm_uM (gm_uM (gm_uM M 226 0 0) 226 10 e) 226 8 0) 226 9 0) 226 15 0) 226 15 = 0 := uM_at
  have z10 : (gm_uM (gm_uM (gm_uM (gm_uM (gm_uM M 226 0 0) 226 10 e) 226 8 0) 226 9 0) 226 15 0) 226 10 = e := ((uM_ne (by omega)).trans ((uM_ne (by omega)).trans ((uM_ne (by omega)).trans uM_at)))
  have z8 : (gm_uM (gm_uM (gm_uM (gm_uM (gm_uM M 226 0 0) 226 10 e) 226 8 0) 226 9 0) 226 15 0) 226 8 = 0 := ((uM_ne (by omega)).trans ((uM_ne (by omega)).trans uM_at))
  have z0 : (gm_uM (gm_uM (gm_uM (gm_uM (gm_uM M 226 0 0) 226 10 e) 226 8 0) 226 9 0) 226 15 0) 226 0 = 0 := ((uM_ne (by omega)).trans ((uM_ne (by omega)).trans ((uM_ne (by omega)).trans ((uM_ne (by omega)).trans uM_at))))
  have z231 : (gm_uM (gm_uM (gm_uM (gm_uM (gm_uM M 226 0 0) 226 10 e) 226 8 0) 226 9 0) 226 15 0) 231 = f := (funext fun j => (uM_ne (by omega)).trans ((uM_ne (by omega)).trans ((uM_ne (by omega)).trans ((uM_ne (by omega)).trans (uM_ne (by omega)))))).trans hf
  have z227 : (gm_uM (gm_uM (gm_uM (gm_uM (gm_uM M 226 0 0) 226 10 e) 226 8 0) 226 9 0) 226 15 0) 227 = M 227 := (funext fun j => (uM_ne (by omega)).trans ((uM_ne (by omega)).trans ((uM_ne (by omega)).trans ((uM_ne (by omega)).trans (uM_ne (by omega))))))
  have zf : fr [(226, some 0), (226, some 10), (226, some 8), (226, some 15), (226, some 9), (226, some 11), (226, some 12), (227, none)] M (gm_uM (gm_uM (gm_uM (gm_uM (gm_uM M 226 0 0) 226 10 e) 226 8 0) 226 9 0) 226 15 0) := (fr_p (fr_p (fr_p (fr_p (fr_p fr_0 (Or.inr (by decide))) (Or.inr (by decide))) (Or.inr (by decide))) (Or.inr (by decide))) (Or.inr (by decide)))
  generalize (gm_uM (gm_uM (gm_uM (gm_uM (gm_uM M 226 0 0) 226 10 e) 226 8 0) 226 9 0) 226 15 0) = m5 at z9 z15 z10 z8 z0 z231 z227 zf ⊢
  have hT5 := rv_E hE hF (⟨z231, z10, z9⟩ : RW f e 0 m5)
  have ei : rm m5 0 (m5 226 11) (m5 226 12) 0 (m5 227) = m5 := by
    have a := rm_id (M := m5)
    rw [z9, z15] at a
    exact a
  rw [← ei]
  refine sr_a243 (by omega) hT5 none (fun p2 bg2 dp2 st2 W2 L2 a1 a2 a3 => ?_) (fun p2 dp2 st2 W2 a1 a2 => ?_)
  · rw [z231] at a1 a3 ⊢
    rw [z227] at a1
    exact q1 W2 L2 st2 _ a1 a2 a3 rfl (fr_t zf rm_fr (by decide)) z8 z0
  · rw [z231] at a2 ⊢
    rw [z227] at a1
    exact q0 _ a1 rfl a2 (fr_t zf rm_fr (by decide)) z8 z0
theorem cp_283 (hE : E0 n K R) (hq : gm_Wp X LX d bc bs 283 85 [some (gm_vr 226), some (gm_vi y), some (gm_vi 849)] [] n K R (cpk M 227 227 1244 395 849) Q) : ∀ (u : Nat) (k : Int), k + (u : Int) = 849 → 0 ≤ k → gm_Wp X LX d bc bs 283 52 [some (gm_vr 226), some (gm_vi y), some (gm_vi k)] [] n K R (cpk M 227 227 1244 395 k) Q := by
  intro u
  induction u with
  | zero =>
    intro k hk k0
    have ek : k = 849 := by omega
    subst ek
    refine gm_sz (gm_p_load (pc := 52) (i := .iload_n 2) (sr := 0) (j := 2) (by decide +kernel) rfl rfl rfl) ?_
    refine gm_sz (gm_p_const (pc := 53) (i := .sipush 849) (v := gm_vi 849) (by decide +kernel) (by decide +kernel)) ?_
    refine fw_ictd (cc := .ge) (pc := 56) (off := 29) (by decide +kernel) (by decide) ⟨by decide, by decide⟩ ⟨by decide, by decide⟩ (by decide) ?_
    exact hq
  | succ u ih =>
    intro k hk k0
    refine gm_sz (gm_p_load (pc := 52) (i := .iload_n 2) (sr := 0) (j := 2) (by decide +kernel) rfl rfl rfl) ?_
    refine gm_sz (gm_p_const (pc := 53) (i := .sipush 849) (v := gm_vi 849) (by decide +kernel) (by decide +kernel)) ?_
    refine fw_icf (cc := .ge) (pc := 56) (off := 29) (by decide +kernel) (by decide) ⟨by omega, by omega⟩ ⟨by decide, by decide⟩ (show ¬ 849 ≤ k by omega) ?_
    refine gm_sz (gm_p_load (pc := 59) (i := .aload_n 0) (sr := 2) (j := 0) (by decide +kernel) rfl rfl rfl) ?_
    refine gm_sz (fw_gr (pc := 60) (ix := 13) (ci := 11) (j := 1) (r := 227) (by decide +kernel) (e0k hE (k := 226) (c := 11) (by decide +kernel)) (by decide +kernel) (by decide +kernel) (e0r hE (k := 226) (j := 1) (r := 227) (by decide +kernel))) ?_
    refine gm_sz (gm_p_const (pc := 63) (i := .sipush 395) (v := gm_vi 395) (by decide +kernel) (by decide +kernel)) ?_
    refine gm_sz (gm_p_load (pc := 66) (i := .iload_n 2) (sr := 0) (j := 2) (by decide +kernel) rfl rfl rfl) ?_
    refine gm_sz (gm_p_bin (pc := 67) (i := .iadd) (f := fun x y => x + y) (by decide +kernel) rfl) ?_
    refine gm_sz (gm_p_load (pc := 68) (i := .aload_n 0) (sr := 2) (j := 0) (by decide +kernel) rfl rfl rfl) ?_
    refine gm_sz (fw_gr (pc := 69) (ix := 13) (ci := 11) (j := 1) (r := 227) (by decide +kernel) (e0k hE (k := 226) (c := 11) (by decide +kernel)) (by decide +kernel) (by decide +kernel) (e0r hE (k := 226) (j := 1) (r := 227) (by decide +kernel))) ?_
    refine gm_sz (gm_p_const (pc := 72) (i := .sipush 1244) (v := gm_vi 1244) (by decide +kernel) (by decide +kernel)) ?_
    refine gm_sz (gm_p_load (pc := 75) (i := .iload_n 2) (sr := 0) (j := 2) (by decide +kernel) rfl rfl rfl) ?_
    refine gm_sz (gm_p_bin (pc := 76) (i := .iadd) (f := fun x y => x + y) (by decide +kernel) rfl) ?_
    refine gm_sz (fw_ia (pc := 77) (k := 227) (len := 2093) (e0 := 1244 + k) (x := M 227 (1244 + k)) (by decide +kernel) (e0a hE (k := 227) (q := (0, 2093)) (by decide +kernel)).1 (e0a hE (k := 227) (q := (0, 2093)) (by decide +kernel)).2 (by decide) ⟨by omega, by omega⟩ (cpk_o (by omega))) ?_
    refine gm_sz (fw_is (pc := 78) (k := 227) (len := 2093) (e0 := 395 + k) (x := M 227 (1244 + k)) (M' := cpk M 227 227 1244 395 (k + 1)) (by decide +kernel) (e0a hE (k := 227) (q := (0, 2093)) (by decide +kernel)).1 (e0a hE (k := 227) (q := (0, 2093)) (by decide +kernel)).2 (by decide) ⟨by omega, by omega⟩ (cpk_s k0 (by omega) (congrArg (M 227) (by omega)))) ?_
    refine gm_sz (gm_p_iinc (pc := 79) (j := 2) (z := 1) (by decide +kernel) rfl) ?_
    refine gm_sz (gm_p_goto (pc := 82) (off := (-30)) (by decide +kernel) (by decide)) ?_
    exact ih (k + 1) (by omega) (by omega)
theorem cp_283z (hE : E0 n K R) (hq : gm_Wp X LX d bc bs 283 85 [some (gm_vr 226), some (gm_vi y), some (gm_vi 849)] [] n K R (cpk M 227 227 1244 395 849) Q) : gm_Wp X LX d bc bs 283 52 [some (gm_vr 226), some (gm_vi y), some (gm_vi 0)] [] n K R M Q := by
  have h9 := cp_283 hE  hq 849 0 (by omega) (Int.le_refl _)
  rw [cpk_0] at h9
  exact h9
theorem rl_283 (hd : 36 ≤ d) (hE : E0 n K R) (hF : VF f e) (hf : M 231 = f) (he : M 226 8 = e) (hT : TR N h M) (q0 : ∀ M2, fr [(226, some 13), (226, some 0), (226, some 10), (226, some 8), (226, some 15), (226, some 9), (226, some 11), (226, some 12), (227, none)] M M2 → (∀ j, j < 1244 → M2 227 j = M 227 j) → ¬ (g_law f e).1 = true → M2 226 13 = (g_law f e).2 → M2 226 8 = 0 → M2 226 0 = 1 → Q (.inl (some (gm_vi 0))) n K R M2) (hq : ∀ M2, fr [(234, none), (226, some 26), (226, some 6), (226, some 13), (226, some 0), (226, some 10), (226, some 8), (226, some 15), (226, some 9), (226, some 11), (226, some 12), (227, none)] M M2 → (g_law f e).1 = true → ((s_law f e).length ≤ 12 → LR (s_law f e) (M2 227) ∧ LRb (s_law f e) (M2 227)) → M2 227 395 = (g_law f e).2 → M2 227 8 = 1 → TR N (hts (N 13)) M2 → M2 226 13 = -1 → M2 226 8 = 0 → M2 226 0 = 0 → M2 226 6 = 0 → M2 226 26 = -1 → Q (.inl (some (gm_vi (g_law f e).2))) n K R M2) : gm_Wp X LX d bc bs 283 0 (gm_ent 283 [gm_vr 226]) [] n K R M Q := by
  have he9 := hF.1
  obtain ⟨b0, b1, b2⟩ := g_law_b (f := f) hF.1.1
  refine gm_sz (gm_p_load (pc := 0) (i := .aload_n 0) (sr := 2) (j := 0) (by decide +kernel) rfl rfl rfl) ?_
  refine gm_sz (gm_p_const (pc := 1) (i := .iconst 0) (v := gm_vi 0) (by decide +kernel) (by decide +kernel)) ?_
  refine gm_c_virt (k := 226) (ci := 11) (mj := 243) (ix := 296) (pc := 2) (as := [gm_vi 0]) (st := []) (d' := d - 1) (bc' := 0) (bs' := 0) (by decide +kernel) (by decide +kernel) (by decide +kernel) (by decide +kernel) (e0k hE (k := 226) (c := 11) (by decide +kernel)).1 (e0k hE (k := 226) (c := 11) (by decide +kernel)).2 (by decide) (by decide +kernel) (show 1 = gm_na 243 by decide +kernel) (fw_c1 fw_si) (show 2 ≤ gm_ml 243 by decide +kernel) (Nat.le_of_ble_eq_true rfl) (by omega) (Nat.zero_le _) (Nat.zero_le _) ?_
  refine rl_243 (by omega) hE hF hf he (fun W2 L2 st2 M5 hrd hst2 hg hw5 hf5 z8 z0 => ?_) (fun M5 hw5 z11 hg hf5 z8 z0 => ?_)
  · show gm_Wp X LX d _ _ 283 5 _ [gm_vi ((g_law f e).2)] n K _ _ Q
    have hg12 := b1 hg
    refine gm_sz (gm_p_stor (pc := 5) (i := .istore_n 1) (sr := 0) (j := 1) (by decide +kernel) rfl (show 2 ≤ _ from Nat.le_of_ble_eq_true rfl) rfl) ?_
    refine gm_sz (gm_p_load (pc := 6) (i := .aload_n 0) (sr := 2) (j := 0) (by decide +kernel) rfl rfl rfl) ?_
    refine gm_sz (gm_p_load (pc := 7) (i := .iload_n 1) (sr := 0) (j := 1) (by decide +kernel) rfl rfl rfl) ?_
    refine fw_if (cc := .ge) (pc := 8) (off := 10) (by decide +kernel) (by decide) ⟨by omega, by omega⟩ (fun h8 => ?_) (fun h8 => ?_)
    · have h8 : 0 ≤ ((g_law f e).2) := h8
      refine gm_sz (gm_p_const (pc := 18) (i := .iconst (-1)) (v := gm_vi (-1)) (by decide +kernel) (by decide +kernel)) ?_
      refine gm_sz (fw_pi (pc := 19) (ix := 30) (ci := 11) (j := 13) (M' := gm_uM M5 226 13 (-1)) (by decide +kernel) (e0k hE (k := 226) (c := 11) (by decide +kernel)) (by decide +kernel) (by decide +kernel) (by decide +kernel) rfl) ?_
      refine gm_sz (gm_p_load (pc := 22) (i := .aload_n 0) (sr := 2) (j := 0) (by decide +kernel) rfl rfl rfl) ?_
      refine gm_sz (gm_p_load (pc := 23) (i := .iload_n 1) (sr := 0) (j := 1) (by decide +kernel) rfl rfl rfl) ?_
      refine fw_if (cc := .ge) (pc := 24) (off := 7) (by decide +kernel) (by decide) ⟨by omega, by omega⟩ (fun h24 => ?_) (fun h24 => ?_)
      · have h24 : 0 ≤ ((g_law f e).2) := h24
        refine gm_sz (gm_p_const (pc := 31) (i := .iconst 0) (v := gm_vi 0) (by decide +kernel) (by decide +kernel)) ?_
        refine gm_sz (gm_p_const (pc := 32) (i := .iconst 1) (v := gm_vi 1) (by decide +kernel) (by decide +kernel)) ?_
        refine gm_c_virt (k := 226) (ci := 11) (mj := 282) (ix := 300) (pc := 33) (as := [gm_vi 0, gm_vi 1]) (st := []) (d' := d - 1) (bc' := 0) (bs' := 0) (by decide +kernel) (by decide +kernel) (by decide +kernel) (by decide +kernel) (e0k hE (k := 226) (c := 11) (by decide +kernel)).1 (e0k hE (k := 226) (c := 11) (by decide +kernel)).2 (by decide) (by decide +kernel) (show 2 = gm_na 282 by decide +kernel) (fw_c2 fw_si fw_si) (show 3 ≤ gm_ml 282 by decide +kernel) (Nat.le_of_ble_eq_true rfl) (by omega) (Nat.zero_le _) (Nat.zero_le _) ?_
        refine tf_0 hE ?_
        show gm_Wp X LX d _ _ 283 36 _ [gm_vi 0] n K _ _ Q
        refine fw_iftd (cc := .eq) (pc := 36) (off := 5) (by decide +kernel) (by decide) ⟨by decide, by decide⟩ (by decide) ?_
        refine gm_sz (gm_p_load (pc := 41) (i := .aload_n 0) (sr := 2) (j := 0) (by decide +kernel) rfl rfl rfl) ?_
        refine gm_sz (fw_gr (pc := 42) (ix := 13) (ci := 11) (j := 1) (r := 227) (by decide +kernel) (e0k hE (k := 226) (c := 11) (by decide +kernel)) (by decide +kernel) (by decide +kernel) (e0r hE (k := 226) (j := 1) (r := 227) (by decide +kernel))) ?_
        refine gm_sz (gm_p_const (pc := 45) (i := .sipush 1244) (v := gm_vi 1244) (by decide +kernel) (by decide +kernel)) ?_
        refine gm_sz (gm_p_load (pc := 48) (i := .iload_n 1) (sr := 0) (j := 1) (by decide +kernel) rfl rfl rfl) ?_
        refine gm_sz (fw_is (pc := 49) (k := 227) (len := 2093) (e0 := 1244) (x := (g_law f e).2) (M' := gm_uM (gm_uM M5 226 13 (-1)) 227 1244 ((g_law f e).2)) (by decide +kernel) (e0a hE (k := 227) (q := (0, 2093)) (by decide +kernel)).1 (e0a hE (k := 227) (q := (0, 2093)) (by decide +kernel)).2 (by decide) ⟨by omega, by omega⟩ rfl) ?_
        refine gm_sz (gm_p_const (pc := 50) (i := .iconst 0) (v := gm_vi 0) (by decide +kernel) (by decide +kernel)) ?_
        refine gm_sz (gm_p_stor (pc := 51) (i := .istore_n 2) (sr := 0) (j := 2) (by decide +kernel) rfl (show 3 ≤ _ from Nat.le_of_ble_eq_true rfl) rfl) ?_
        have y13 : (gm_uM (gm_uM M5 226 13 (-1)) 227 1244 ((g_law f e).2)) 226 13 = -1 := ((uM_ne (by omega)).trans uM_at)
        have y8 : (gm_uM (gm_uM M5 226 13 (-1)) 227 1244 ((g_law f e).2)) 226 8 = 0 := ((uM_ne (by omega)).trans ((uM_ne (by omega)).trans z8))
        have y0 : (gm_uM (gm_uM M5 226 13 (-1)) 227 1244 ((g_law f e).2)) 226 0 = 0 := ((uM_ne (by omega)).trans ((uM_ne (by omega)).trans z0))
        have yf : fr [(226, some 13), (226, some 0), (226, some 10), (226, some 8), (226, some 15), (226, some 9), (226, some 11), (226, some 12), (227, none)] M (gm_uM (gm_uM M5 226 13 (-1)) 227 1244 ((g_law f e).2)) := (fr_p (fr_p (fr_t fr_0 hf5 (by decide)) (Or.inr (by decide))) (Or.inl (by decide)))
        have yw : (gm_uM (gm_uM M5 226 13 (-1)) 227 1244 ((g_law f e).2)) 227 1244 = (g_law f e).2 := uM_at
        have yo : ∀ j, ¬ j = 1244 → (gm_uM (gm_uM M5 226 13 (-1)) 227 1244 ((g_law f e).2)) 227 j = W2 j := fun j hj => (uM_ne (by omega)).trans ((uM_ne (by omega)).trans (congrFun hw5 j))
        generalize (gm_uM (gm_uM M5 226 13 (-1)) 227 1244 ((g_law f e).2)) = m6 at y13 y8 y0 yf yw yo ⊢
        refine cp_283z (M := m6) (Q := Q) hE ?_
        refine gm_sz (gm_p_load (pc := 85) (i := .aload_n 0) (sr := 2) (j := 0) (by decide +kernel) rfl rfl rfl) ?_
        refine gm_sz (fw_gr (pc := 86) (ix := 13) (ci := 11) (j := 1) (r := 227) (by decide +kernel) (e0k hE (k := 226) (c := 11) (by decide +kernel)) (by decide +kernel) (by decide +kernel) (e0r hE (k := 226) (j := 1) (r := 227) (by decide +kernel))) ?_
        refine gm_sz (gm_p_const (pc := 89) (i := .bipush 8) (v := gm_vi 8) (by decide +kernel) (by decide +kernel)) ?_
        refine gm_sz (gm_p_const (pc := 91) (i := .iconst 1) (v := gm_vi 1) (by decide +kernel) (by decide +kernel)) ?_
        refine gm_sz (fw_is (pc := 92) (k := 227) (len := 2093) (e0 := 8) (x := 1) (M' := gm_uM (cpk m6 227 227 1244 395 849) 227 8 1) (by decide +kernel) (e0a hE (k := 227) (q := (0, 2093)) (by decide +kernel)).1 (e0a hE (k := 227) (q := (0, 2093)) (by decide +kernel)).2 (by decide) ⟨by omega, by omega⟩ rfl) ?_
        refine gm_sz (gm_p_load (pc := 93) (i := .aload_n 0) (sr := 2) (j := 0) (by decide +kernel) rfl rfl rfl) ?_
        refine gm_sz (gm_p_const (pc := 94) (i := .iconst 0) (v := gm_vi 0) (by decide +kernel) (by decide +kernel)) ?_
        refine gm_sz (fw_pi (pc := 95) (ix := 79) (ci := 11) (j := 6) (M' := gm_uM (gm_uM (cpk m6 227 227 1244 395 849) 227 8 1) 226 6 0) (by decide +kernel) (e0k hE (k := 226) (c := 11) (by decide +kernel)) (by decide +kernel) (by decide +kernel) (by decide +kernel) rfl) ?_
        have h98 : ws ((gm_uM (gm_uM (cpk m6 227 227 1244 395 849) 227 8 1) 226 6 0) 227) = N := by
          rw [← hT.1]
          funext i
          unfold ws
          by_cases hi : 0 ≤ i ∧ i < 395 ∧ ¬ i = 8
          · rw [if_pos hi, if_pos hi]
            exact (uM_ne (by omega)).trans ((uM_ne (by omega)).trans ((cpk_o (by omega)).trans ((yo i (by omega)).trans (hrd.1 i (by omega)))))
          · rw [if_neg hi, if_neg hi]
        refine gm_sz (gm_p_load (pc := 98) (i := .aload_n 0) (sr := 2) (j := 0) (by decide +kernel) rfl rfl rfl) ?_
        refine gm_c_virt (k := 226) (ci := 11) (mj := 235) (ix := 72) (pc := 99) (as := []) (st := []) (d' := d - 1) (bc' := 0) (bs' := 0) (by decide +kernel) (by decide +kernel) (by decide +kernel) (by decide +kernel) (e0k hE (k := 226) (c := 11) (by decide +kernel)).1 (e0k hE (k := 226) (c := 11) (by decide +kernel)).2 (by decide) (by decide +kernel) (show 0 = gm_na 235 by decide +kernel) fw_c0 (show 1 ≤ gm_ml 235 by decide +kernel) (Nat.le_of_ble_eq_true rfl) (by omega) (Nat.zero_le _) (Nat.zero_le _) ?_
        refine wa_c235 hE h98 (fun M99 hf99 hh99 h26 => ?_)
        show gm_Wp X LX d _ _ 283 102 _ [] n K _ _ Q
        refine gm_sz (gm_p_load (pc := 102) (i := .iload_n 1) (sr := 0) (j := 1) (by decide +kernel) rfl rfl rfl) ?_
        have f9 : fr [(234, none), (226, some 26), (226, some 6), (226, some 13), (226, some 0), (226, some 10), (226, some 8), (226, some 15), (226, some 9), (226, some 11), (226, some 12), (227, none)] (cpk m6 227 227 1244 395 849) M99 := (fr_t (fr_p (fr_p fr_0 (Or.inl (by decide))) (Or.inr (by decide))) hf99 (by decide))
        refine gm_r_int (pc := 103) (by decide +kernel) (Or.inl (by decide +kernel)) (hq _ (fr_t (fr_t (fr_t fr_0 yf (by decide)) cpk_fr (by decide)) f9 (by decide)) hg (fun h12 => rdl_LR2 hrd (by omega) h12 (fun j j0 j1 => ?_)) ?_ ((fr_c hf99 (by decide)).trans ((uM_ne (by omega)).trans uM_at)) ⟨(congrArg ws (funext fun j => fr_c hf99 (by decide))).trans h98, fun y9 y0 y1 => ⟨hh99 y9 y0 y1, hts_b⟩⟩ ((fr_j hf99 (by decide)).trans ((uM_ne (by omega)).trans ((uM_ne (by omega)).trans ((cpk_o (by omega)).trans y13)))) ((fr_j hf99 (by decide)).trans ((uM_ne (by omega)).trans ((uM_ne (by omega)).trans ((cpk_o (by omega)).trans y8)))) ((fr_j hf99 (by decide)).trans ((uM_ne (by omega)).trans ((uM_ne (by omega)).trans ((cpk_o (by omega)).trans y0)))) ((fr_j hf99 (by decide)).trans uM_at) h26)
        · exact (fr_c hf99 (by decide)).trans ((uM_ne (by omega)).trans ((uM_ne (by omega)).trans ((cpk_i (by omega) (by omega)).trans ((yo _ (by omega)).trans (congrArg W2 (by omega))))))
        · exact (fr_c hf99 (by decide)).trans ((uM_ne (by omega)).trans ((uM_ne (by omega)).trans ((cpk_i (by omega) (by omega)).trans yw)))
      · have h24 : ¬ 0 ≤ ((g_law f e).2) := h24
        exact absurd b0 (by omega)
    · have h8 : ¬ 0 ≤ ((g_law f e).2) := h8
      exact absurd b0 (by omega)
  · show gm_Wp X LX d _ _ 283 5 _ [gm_vi (-1)] n K _ _ Q
    have hge := b2 hg
    refine gm_sz (gm_p_stor (pc := 5) (i := .istore_n 1) (sr := 0) (j := 1) (by decide +kernel) rfl (show 2 ≤ _ from Nat.le_of_ble_eq_true rfl) rfl) ?_
    refine gm_sz (gm_p_load (pc := 6) (i := .aload_n 0) (sr := 2) (j := 0) (by decide +kernel) rfl rfl rfl) ?_
    refine gm_sz (gm_p_load (pc := 7) (i := .iload_n 1) (sr := 0) (j := 1) (by decide +kernel) rfl rfl rfl) ?_
    refine fw_iffd (cc := .ge) (pc := 8) (off := 10) (by decide +kernel) (by decide) ⟨by decide, by decide⟩ (by decide) ?_
    refine gm_sz (gm_p_load (pc := 11) (i := .aload_n 0) (sr := 2) (j := 0) (by decide +kernel) rfl rfl rfl) ?_
    refine gm_sz (fw_gi (pc := 12) (ix := 116) (ci := 11) (j := 11) (x := (g_law f e).2) (by decide +kernel) (e0k hE (k := 226) (c := 11) (by decide +kernel)) (by decide +kernel) (by decide +kernel) z11) ?_
    refine gm_sz (gm_p_goto (pc := 15) (off := 4) (by decide +kernel) (by decide)) ?_
    refine gm_sz (fw_pi (pc := 19) (ix := 30) (ci := 11) (j := 13) (M' := gm_uM M5 226 13 ((g_law f e).2)) (by decide +kernel) (e0k hE (k := 226) (c := 11) (by decide +kernel)) (by decide +kernel) (by decide +kernel) (by decide +kernel) rfl) ?_
    refine gm_sz (gm_p_load (pc := 22) (i := .aload_n 0) (sr := 2) (j := 0) (by decide +kernel) rfl rfl rfl) ?_
    refine gm_sz (gm_p_load (pc := 23) (i := .iload_n 1) (sr := 0) (j := 1) (by decide +kernel) rfl rfl rfl) ?_
    refine fw_iffd (cc := .ge) (pc := 24) (off := 7) (by decide +kernel) (by decide) ⟨by decide, by decide⟩ (by decide) ?_
    refine gm_sz (gm_p_const (pc := 27) (i := .iconst 1) (v := gm_vi 1) (by decide +kernel) (by decide +kernel)) ?_
    refine gm_sz (gm_p_goto (pc := 28) (off := 4) (by decide +kernel) (by decide)) ?_
    refine gm_sz (gm_p_const (pc := 32) (i := .iconst 1) (v := gm_vi 1) (by decide +kernel) (by decide +kernel)) ?_
    refine gm_c_virt (k := 226) (ci := 11) (mj := 282) (ix := 300) (pc := 33) (as := [gm_vi 1, gm_vi 1]) (st := []) (d' := d - 1) (bc' := 0) (bs' := 0) (by decide +kernel) (by decide +kernel) (by decide +kernel) (by decide +kernel) (e0k hE (k := 226) (c := 11) (by decide +kernel)).1 (e0k hE (k := 226) (c := 11) (by decide +kernel)).2 (by decide) (by decide +kernel) (show 2 = gm_na 282 by decide +kernel) (fw_c2 fw_si fw_si) (show 3 ≤ gm_ml 282 by decide +kernel) (Nat.le_of_ble_eq_true rfl) (by omega) (Nat.zero_le _) (Nat.zero_le _) ?_
    refine tf_1 hE ?_
    show gm_Wp X LX d _ _ 283 36 _ [gm_vi 1] n K _ _ Q
    refine fw_iffd (cc := .eq) (pc := 36) (off := 5) (by decide +kernel) (by decide) ⟨by decide, by decide⟩ (by decide) ?_
    refine gm_sz (gm_p_const (pc := 39) (i := .iconst 0) (v := gm_vi 0) (by decide +kernel) (by decide +kernel)) ?_
    exact gm_r_int (pc := 40) (by decide +kernel) (Or.inl (by decide +kernel)) (q0 _ (fr_p (fr_p (fr_t fr_0 hf5 (by decide)) (Or.inr (by decide))) (Or.inr (by decide))) (fun j hj => (uM_ne (by omega)).trans ((uM_ne (by omega)).trans (hw5 j (by omega)))) hg ((uM_ne (by omega)).trans uM_at) ((uM_ne (by omega)).trans ((uM_ne (by omega)).trans z8)) uM_at)
end W4A
end
/-! 7a47.w5sl -/
section
/-! WHAT A RIGHT TEXT OF A LAW TELLS IS A LAW: as many lines as told, each of them well formed. -/
section W5A
variable {f : Int → Int} {e b : Int}
theorem s_txt_len : ∀ (t : Nat) (b : Int), (g_txt f e t b).1 = true → 12 - (t : Int) + ((s_txt f e t b).length : Int) = (g_txt f e t b).2 := by
  intro t
  induction t with
  | zero => intro b h; cases h
  | succ t ih =>
    intro b h
    by_cases j6 : (g_line f e b).1 = true
    · by_cases k6 : tx_k f e (g_line f e b).2 = 256
      · rw [g_t1 j6 k6, s_t1 k6]
        show 12 - ((t + 1 : Nat) : Int) + ((1 : Nat) : Int) = 12 - (t : Int)
        omega
      · by_cases k9 : tx_k f e (g_line f e b).2 = 59
        · rw [g_t3 j6 k6 k9] at h ⊢
          rw [s_t3 k6 k9, List.length_cons]
          have := ih _ h
          omega
        · rw [g_t2 j6 k6 k9] at h
          cases h
    · rw [g_t0 j6] at h
      cases h
theorem s_law_len (h : (g_law f e).1 = true) : ((s_law f e).length : Int) = (g_law f e).2 := by
  by_cases n9 : tx_k f e (tx_g f e 0) = 256
  · rw [g_w0 n9, show s_law f e = [] from tif_t n9]
    rfl
  · rw [g_w1 n9] at h ⊢
    rw [show s_law f e = s_txt f e 12 (tx_g f e 0) from tif_f n9]
    have := s_txt_len 12 _ h
    omega
/-- a line well formed -/
def lwf (x : lln) : Prop := (0 ≤ x.1 ∧ x.1 ≤ 2) ∧ (0 ≤ x.2.1 ∧ x.2.1 ≤ 20) ∧ ∀ t, x.2.2 = some t → shg 32 t 0 1
theorem s_if_w (h0 : 0 ≤ b) (h1 : b ≤ e) (h : (g_if f e b).1 = true) : ∀ t, s_if f e b = some t → shg 32 t 0 1 := by
  intro t ht
  by_cases j : tx_is f e b wo_if
  · rw [g_f1 j] at h
    rw [s_f1 j] at ht
    cases ht
    have n1 := tx_nb (f := f) h1
    exact shg_mono (by decide) _ _ ((s_cd_ok (f := f) (e := e) 6 _ (by omega) n1.2.1 h).2 0)
  · rw [s_f0 j] at ht
    cases ht
theorem s_line_w (h0 : 0 ≤ b) (h1 : b ≤ e) (h : (g_line f e b).1 = true) : lwf (s_line f e b) := by
  have n1 := tx_nb (f := f) h1
  have n2 := tx_nb (f := f) n1.2.1
  by_cases jo : tx_is f e b wo_open
  · rw [g_n1 jo] at h
    rw [s_n1 jo]
    exact ⟨⟨(by decide : (0 : Int) ≤ 2), (by decide : (2 : Int) ≤ 2)⟩, ⟨(by decide : (0 : Int) ≤ 0), (by decide : (0 : Int) ≤ 20)⟩, s_if_w (by omega) n1.2.1 h⟩
  · by_cases jf : tx_is f e b wo_fast ∨ tx_is f e b wo_slow
    · by_cases jn : g_nm f e (tx_n f e b)
      · have hg := h
        have e9 : g_line f e b = g_if f e (tx_n f e (tx_n f e b)) := by
          unfold g_line
          rw [tif_f jo, tif_t jf, tif_t jn]
        rw [e9] at hg
        have w := s_if_w (by omega) n2.2.1 hg
        by_cases ja : tx_is f e b wo_fast
        · rw [s_n2 ja]
          exact ⟨⟨(by decide : (0 : Int) ≤ 0), (by decide : (0 : Int) ≤ 2)⟩, jn.2, w⟩
        · rw [s_n3 (jf.resolve_left ja)]
          exact ⟨⟨(by decide : (0 : Int) ≤ 1), (by decide : (1 : Int) ≤ 2)⟩, jn.2, w⟩
      · have e9 : g_line f e b = (false, tx_n f e b) := by
          unfold g_line
          rw [tif_f jo, tif_t jf, tif_f jn]
        rw [e9] at h
        cases h
    · have e9 : g_line f e b = (false, b) := by
        unfold g_line
        rw [tif_f jo, tif_f jf]
      rw [e9] at h
      cases h
theorem s_txt_w : ∀ (t : Nat) (b : Int), 0 ≤ b → b ≤ e → (g_txt f e t b).1 = true → ∀ x ∈ s_txt f e t b, lwf x := by
  intro t
  induction t with
  | zero => intro b _ _ h; cases h
  | succ t ih =>
    intro b h0 h1 h x hx
    by_cases j6 : (g_line f e b).1 = true
    · have w := s_line_w h0 h1 j6
      have l := g_line_in (f := f) h0 h1
      have n1 := tx_nb (f := f) l.2
      by_cases k6 : tx_k f e (g_line f e b).2 = 256
      · rw [s_t1 k6] at hx
        rw [List.mem_singleton.mp hx]
        exact w
      · by_cases k9 : tx_k f e (g_line f e b).2 = 59
        · rw [g_t3 j6 k6 k9] at h
          rw [s_t3 k6 k9] at hx
          rcases List.mem_cons.mp hx with rfl | hx
          · exact w
          · exact ih _ (by omega) n1.2.1 h x hx
        · rw [g_t2 j6 k6 k9] at h
          cases h
    · rw [g_t0 j6] at h
      cases h
/-- the law that is told -/
theorem s_law_w (he : 0 ≤ e) (h : (g_law f e).1 = true) : LW (s_law f e) := by
  have hl := s_law_len h
  have hb := (g_law_b (f := f) he).2.1 h
  refine ⟨by omega, fun k x hx => ?_⟩
  have hm : x ∈ s_law f e := List.mem_of_getElem? hx
  have : lwf x := by
    by_cases n9 : tx_k f e (tx_g f e 0) = 256
    · rw [show s_law f e = [] from tif_t n9] at hm
      cases hm
    · rw [g_w1 n9] at h
      rw [show s_law f e = s_txt f e 12 (tx_g f e 0) from tif_f n9] at hm
      obtain ⟨g1, g2, -⟩ := tx_gb (f := f) he
      exact s_txt_w 12 _ g1 g2 h x hm
  exact this
end W5A
end
/-! 7c00.mx -/
section
/-! THE SAME HEAP, TOLD WITH OTHER NUMBERS: the end told by one judgement, its numbers by another. -/
/-- a cell's numbers, as far as it has any -/
def mx_1 (K : gm_K) (M M' : gm_M) (k : Nat) : Prop := (((K k).1 = 0 ∨ (K k).1 = 1) → ∀ j : Nat, j < (K k).2 → Int32.ofInt (M k j) = Int32.ofInt (M' k j)) ∧ ((K k).1 = 2 → ∀ j : Nat, j < (K k).2 → Int64.ofInt (M k j) = Int64.ofInt (M' k j)) ∧ ∀ c j : Nat, (K k).1 = c + 4 → j < gm_nf c → ¬ gm_isr c j = true → Int32.ofInt (M k j) = Int32.ofInt (M' k j)
theorem mx_fs {α : Nat → Nat} {k c : Nat} {R : gm_R} {M M' : gm_M} (h : ∀ j : Nat, j < gm_nf c → ¬ gm_isr c j = true → Int32.ofInt (M k j) = Int32.ofInt (M' k j)) : gm_fs α R M' k c = gm_fs α R M k c := by
  unfold gm_fs
  refine List.map_congr_left fun j hj => ?_
  by_cases hr : gm_isr c j = true
  · rw [if_pos hr, if_pos hr]
  · rw [if_neg hr, if_neg hr, h j (List.mem_range.mp hj) hr]
theorem mx_at {D : va_G} {ti : Nat → ClassId} {α : Nat → Nat} {k a : Nat} {K : gm_K} {R : gm_R} {M M' : gm_M} {H : Heap} (h : mx_1 K M M' k) (hat : va_at D gm_cs (a, gm_en ti α K R M k) H) : va_at D gm_cs (a, gm_en ti α K R M' k) H := by
  obtain ⟨h1, h2, h3⟩ := h
  by_cases k0 : (K k).1 = 0
  · have e1 : ∀ M : gm_M, gm_en ti α K R M k = .inl (ti 0, (K k).2, .inl fun j => Int32.ofInt (M k j)) := fun M => by unfold gm_en; rw [k0]
    rw [e1] at hat ⊢
    have hat : H[a]? = some (arrV (ti 0) (K k).2 (fun j => .int (Int32.ofInt (M k (j : Int))))) := hat
    show H[a]? = some (arrV (ti 0) (K k).2 (fun j => .int (Int32.ofInt (M' k (j : Int)))))
    rw [hat]
    unfold arrV
    congr 3
    funext j
    show Value.int (Int32.ofInt (M k ((j.val : Nat) : Int))) = Value.int (Int32.ofInt (M' k ((j.val : Nat) : Int)))
    rw [h1 (Or.inl k0) j.val j.isLt]
  by_cases k1 : (K k).1 = 1
  · have e1 : ∀ M : gm_M, gm_en ti α K R M k = .inl (ti 1, (K k).2, .inl fun j => Int32.ofInt (M k j)) := fun M => by unfold gm_en; rw [k1]
    rw [e1] at hat ⊢
    have hat : H[a]? = some (arrV (ti 1) (K k).2 (fun j => .int (Int32.ofInt (M k (j : Int))))) := hat
    show H[a]? = some (arrV (ti 1) (K k).2 (fun j => .int (Int32.ofInt (M' k (j : Int)))))
    rw [hat]
    unfold arrV
    congr 3
    funext j
    show Value.int (Int32.ofInt (M k ((j.val : Nat) : Int))) = Value.int (Int32.ofInt (M' k ((j.val : Nat) : Int)))
    rw [h1 (Or.inr k1) j.val j.isLt]
  by_cases k2 : (K k).1 = 2
  · have e1 : ∀ M : gm_M, gm_en ti α K R M k = .inl (ti 2, (K k).2, .inr (.inl fun j => Int64.ofInt (M k j))) := fun M => by unfold gm_en; rw [k2]
    rw [e1] at hat ⊢
    have hat : H[a]? = some (arrV (ti 2) (K k).2 (fun j => .long (Int64.ofInt (M k (j : Int))))) := hat
    show H[a]? = some (arrV (ti 2) (K k).2 (fun j => .long (Int64.ofInt (M' k (j : Int)))))
    rw [hat]
    unfold arrV
    congr 3
    funext j
    show Value.long (Int64.ofInt (M k ((j.val : Nat) : Int))) = Value.long (Int64.ofInt (M' k ((j.val : Nat) : Int)))
    rw [h2 k2 j.val j.isLt]
  by_cases k3 : (K k).1 = 3
  · have e1 : gm_en ti α K R M' k = gm_en ti α K R M k := by unfold gm_en; rw [k3]
    rw [e1]
    exact hat
  · obtain ⟨c, hc⟩ : ∃ c, (K k).1 = c + 4 := ⟨(K k).1 - 4, by omega⟩
    rw [gm_en_obj hc] at hat ⊢
    rw [mx_fs (fun j hj hr => h3 c j hc hj hr)]
    exact hat
/-- the numbers of the end may be told otherwise -/
theorem gm_Wp_eqM {X : Int → Int} {LX d bc bs mi pc n : Nat} {L : gm_L} {st : List gm_V} {K : gm_K} {R : gm_R} {M : gm_M} {Q Q' : gm_Q} (h : gm_Wp X LX d bc bs mi pc L st n K R M Q') (hq : ∀ o n1 K1 R1 M1, Q' o n1 K1 R1 M1 → ∃ M9 : gm_M, (∀ k, 1 ≤ k → k ≤ n1 → mx_1 K1 M1 M9 k) ∧ Q o n1 K1 R1 M9) : gm_Wp X LX d bc bs mi pc L st n K R M Q := by
  intro p l e Rm s m args below meth c D ti adK adV A α0 n0 mc ms hcx hev hd hd2 hmc hms hA α H locs cells slots ls sv hxt hc1 hc2 hR hL hS T hT Xs
  obtain ⟨t, a1, o, b1, b2, b3⟩ := h p l e Rm s m args below meth c D ti adK adV A α0 n0 mc ms hcx hev hd hd2 hmc hms hA α H locs cells slots ls sv hxt hc1 hc2 hR hL hS T hT Xs
  refine ⟨t, a1, o, b1, b2, ?_⟩
  have mP : ∀ {α' : Nat → Nat} {n' : Nat} {K' : gm_K} {R' : gm_R} {M' M9 : gm_M}, (∀ k, 1 ≤ k → k ≤ n' → mx_1 K' M' M9 k) → va_P D gm_cs (gm_wl ti α' n' K' R' M') t.heap → va_P D gm_cs (gm_wl ti α' n' K' R' M9) t.heap := fun hm hp k q hq => by
    obtain ⟨g1, rfl⟩ := gm_wl_get hq
    exact mx_at (hm (k + 1) (by omega) (by omega)) (hp k _ (gm_wl_at (k := k + 1) (by omega) g1))
  have mD : ∀ {α' : Nat → Nat} {n' : Nat} {K' : gm_K} {R' : gm_R} {M' M9 : gm_M}, va_D A (gm_wl ti α' n' K' R' M') → va_D A (gm_wl ti α' n' K' R' M9) := fun {α' n' K' R' M' M9} hd => ⟨fun i j p q hp hq e => by
    obtain ⟨g1, rfl⟩ := gm_wl_get hp
    obtain ⟨g2, rfl⟩ := gm_wl_get hq
    exact hd.1 i j _ _ (gm_wl_at (k := i + 1) (by omega) g1) (gm_wl_at (k := j + 1) (by omega) g2) e, fun k q hq => by
    obtain ⟨g1, rfl⟩ := gm_wl_get hq
    have := hd.2 k _ (gm_wl_at (ti := ti) (α := α') (K := K') (R := R') (M := M') (k := k + 1) (by omega) g1)
    exact this⟩
  rcases b3 with ⟨⟨⟨v, u, α', n', K', R', M', e1, e2, e3, ex, ek, ep, ed, er⟩, e5⟩, e6⟩ | ⟨q, rfl, E1, ce, L1, ⟨⟨x, α', n', K', R', M', e1, e2, e3, ex, ek, ep, ed, er⟩, e5⟩, e6⟩
  · obtain ⟨M9, g1, g2⟩ := hq _ _ _ _ _ e3
    exact Or.inl ⟨⟨⟨v, u, α', n', K', R', M9, e1, e2, g2, ex, ek, mP g1 ep, mD ed, er⟩, e5⟩, e6⟩
  · obtain ⟨M9, g1, g2⟩ := hq _ _ _ _ _ e3
    exact Or.inr ⟨q, rfl, E1, ce, L1, ⟨⟨x, α', n', K', R', M9, e1, e2, g2, ex, ek, mP g1 ep, mD ed, er⟩, e5⟩, e6⟩
/-- old cells by the one, new ones by the other -/
def mxM (n : Nat) (M2 M1 : gm_M) : gm_M := fun k j => if k ≤ n then M2 k j else M1 k j
theorem mxM_o {n k : Nat} {M2 M1 : gm_M} {j : Int} (h : k ≤ n) : mxM n M2 M1 k j = M2 k j := if_pos h
theorem mxM_n {n k : Nat} {M2 M1 : gm_M} {j : Int} (h : n < k) : mxM n M2 M1 k j = M1 k j := if_neg (by omega)
theorem mxM_1 {n n1 : Nat} {K1 K2 : gm_K} {M1 M2 : gm_M} (hd : dt_m n K1 M1 K2 M2) (hk : ∀ k, 1 ≤ k → k ≤ n → K1 k = K2 k) : ∀ k, 1 ≤ k → k ≤ n1 → mx_1 K1 M1 (mxM n M2 M1) k := fun k h1 _ => by
  by_cases hn : k ≤ n
  · obtain ⟨g1, g2, g3⟩ := hd k h1 hn (hk k h1 hn)
    refine ⟨fun h j hj => ?_, fun h j hj => ?_, fun c j h hj hr => ?_⟩
    · rw [mxM_o hn]; exact g1 h j hj
    · rw [mxM_o hn]; exact g2 h j hj
    · rw [mxM_o hn]; exact g3 c j h hj hr
  · refine ⟨fun h j hj => ?_, fun h j hj => ?_, fun c j h hj hr => ?_⟩ <;> rw [mxM_n (by omega)]
/-- two judgements of one run: how it ends by the first, the numbers by the second -/
theorem gm_Wp_mx {X : Int → Int} {LX d bc bs mi pc n : Nat} {L : gm_L} {st : List gm_V} {K : gm_K} {R : gm_R} {M : gm_M} {Q1 Q2 Q : gm_Q} (h1 : gm_Wp X LX d bc bs mi pc L st n K R M Q1) (h2 : gm_Wp X LX d bc bs mi pc L st n K R M Q2) (hq : ∀ o n1 K1 R1 M1 o2 n2 K2 R2 M2, Q1 o n1 K1 R1 M1 → Q2 o2 n2 K2 R2 M2 → dt_o o o2 → dt_m n K1 M1 K2 M2 → (∀ k, 1 ≤ k → k ≤ n → K1 k = K2 k) ∧ Q o n1 K1 R1 (mxM n M2 M1)) : gm_Wp X LX d bc bs mi pc L st n K R M Q :=
  gm_Wp_eqM (gm_Wp_and h1 h2) (fun o n1 K1 R1 M1 ⟨q1, o2, n2, K2, R2, M2, q2, ho, hm⟩ => ⟨mxM n M2 M1, mxM_1 hm (hq o n1 K1 R1 M1 o2 n2 K2 R2 M2 q1 q2 ho hm).1, (hq o n1 K1 R1 M1 o2 n2 K2 R2 M2 q1 q2 ho hm).2⟩)
end
/-! 7c01.wx -/
section
/-! THE WORLD BETWEEN THE CALLS, told exactly: which law each State holds, which cells stay. -/
theorem vM {la : Nat → Nat} {M : gm_M} {c : Nat} {j : Int} (h : c ≤ 245) : bs_M la M c j = M c j := by unfold bs_M bg_rho; rw [if_pos (by omega)]
theorem vK {la : Nat → Nat} {K : gm_K} {c : Nat} (h : c ≤ 245) : bs_K la K c = K c := by unfold bs_K bg_rho; rw [if_pos (by omega)]
section WX
variable {X : Int → Int} {LX : Nat} {O : gm_Or} {g z g1 c n' : Nat} {la : Nat → Nat} {K K' K1 : gm_K} {R R' : gm_R} {M M' M1 : gm_M} {S : ck_Sum} {L : gm_L} {st : List gm_V} {Q Qf : gm_Q}
theorem bg_oweX {d bc bs mi pc : Nat} {u : Option gm_V} (hb : bg g la K R M) (hz : bs_ok la z g1) (hg : g < 10000) (hr : bs_rt z g1 c (bs_K la K) (bs_M la M) n' K' R' M') (hu : u = none ∨ ∃ x, u = some (gm_vi x)) (hW : bg (g + c) (bg_la la g c R') (bg_K g K K') (bg_R (g + c) (bg_la la g c R')) (bg_M g M M') → gm_Wp X LX d bc bs mi pc L (u.toList ++ st) (245 + 4 * (g + c)) (bg_K g K K') (bg_R (g + c) (bg_la la g c R')) (bg_M g M M') Q) : gm_owe X LX d bc bs mi pc L st (bg_rho (la 3)) (bg_f la) (245 + 4 * g1) (245 + 4 * g) K R M Q (.inl u) n' K' R' M' := by
  have hc : c ≤ 1 := by have := hr.1.1; omega
  exact ⟨u, rfl, hu, 245 + 4 * (g + c), _, _, _, fun ti α α1 hx => ⟨bg_al g c α α1, bg_xt hr.1.2 hc hg, bg_bgw hb hz hr hg hx⟩, bg_Rv (by omega) (bg_dl hb hr), hW (bg_new hb hz hr hg)⟩
/-- what the row says, and all that comes behind, the world told exactly -/
def bc_KX (X : Int → Int) (LX d bc bs mi pc : Nat) (L : gm_L) (st : List gm_V) (Q : gm_Q) (O : gm_Or) (z g1 g : Nat) (la : Nat → Nat) (K : gm_K) (M : gm_M) (S : ck_Sum) : Prop := ∀ oc ∈ S.2.2.2.2.2, ∀ (σ : Nat → Int) (u : Option gm_V) (n' : Nat) (K' : gm_K) (R' : gm_R) (M' : gm_M), (∀ q ∈ O.2.2.nm, σ q.1 = bs_M la M q.2.1 q.2.2) → ck_ho σ oc.1 (.inl u) → ck_gf σ oc.2.2 n' K' R' M' → gm_Fx O n' K' R' M' → ck_fr S.2.2.2.2.1 (245 + 4 * g1) (bs_K la K) (bs_R z g1) (bs_M la M) n' K' R' M' → bg g (bg_la la g 0 R') (bg_K g K K') (bg_R g (bg_la la g 0 R')) (bg_M g M M') → gm_Wp X LX d bc bs mi pc L (u.toList ++ st) (245 + 4 * g) (bg_K g K K') (bg_R g (bg_la la g 0 R')) (bg_M g M M') Q
theorem bc_ownX {d bc bs mi pc mj d' bc' bs' : Nat} {vs : List gm_V} (hb : bg g la K R M) (hz : bs_ok la z g1) (hg : g < 10000) (hnm : ck_nmu O) (hO : ∀ n K R M, gm_Fx O n K R M → gm_Fx p2_O n K R M) (hF : gm_Fx O (245 + 4 * g1) (bs_K la K) (bs_R z g1) (bs_M la M)) (hS : ck_Ok O X LX mj S) (hck : bc_ok O z g1 S = true) (h1 : S.1.1 ≤ d') (h2 : S.1.2.1 ≤ bc') (h3 : S.1.2.2 ≤ bs') (hvs : ∀ σ, ck_gas σ S.2.2.1 vs) (k : bc_KX X LX d bc bs mi pc L st Q O z g1 g la K M S) : gm_Wp X LX d' bc' bs' mj 0 (gm_ent mj vs) [] (245 + 4 * g1) (bs_K la K) (bs_R z g1) (bs_M la M) (gm_owe X LX d bc bs mi pc L st (bg_rho (la 3)) (bg_f la) (245 + 4 * g1) (245 + 4 * g) K R M Q) := by
  have hck2 := hck
  simp only [bc_ok, Bool.and_eq_true, decide_eq_true_eq] at hck2
  have hσ := ck_sn_s (σ := fun _ => 0) (M := bs_M la M) hnm
  refine gm_Wp_wk (Nat.le_refl _) h2 h3 (gm_Wp_mono (fun o n' K' R' M' hq => ?_) (hS d' (ck_sn O (fun _ => 0) (bs_M la M)) vs _ _ _ _ h1 hck2.1.symm (hvs _) hσ hF (bc_f_s hck2.2.1 hF (by omega) hσ)))
  obtain ⟨hrt, oc, hoc, u, rfl, hu, ho, hf⟩ := bc_rt hck hz hO hq
  exact bg_oweX (c := 0) hb hz hg hrt hu (fun hb2 => k oc hoc _ u n' K' R' M' hσ ho hf hq.1 hq.2.1 hb2)
/-- a call on the object k1 itself -/
theorem bc_virtX {ix mj k1 ci mi pc d bc bs : Nat} {xs : List Int} (hb : bg g la K R M) (hz : bs_ok la z g1) (hg : g < 10000) (hnm : ck_nmu O) (hO : ∀ n K R M, gm_Fx O n K R M → gm_Fx p2_O n K R M) (hF : gm_Fx O (245 + 4 * g1) (bs_K la K) (bs_R z g1) (bs_M la M)) (hk1 : 1 ≤ k1 ∧ k1 ≤ 245) (hK1 : (K k1).1 = ci + 4) (h : gm_at mi pc = some (.invokevirtual ix)) (hc : gm_cal (gm_ow mi) ix = some (0, mj)) (hmx : gm_ow mj ≠ gm_mxi) (hci : ci < 12) (hcn : gm_cn ci = (gm_mn mj).cls) (hna : xs.length = gm_na mj) (hlen : xs.length + 1 ≤ gm_ml mj) (hst : (st.map gm_cat).sum ≤ 8) (hS : ck_Ok O X LX mj S) (hck : bc_ok O z g1 S = true) (h1 : S.1.1 + 1 ≤ d) (h2 : S.1.2.1 ≤ bc) (h3 : S.1.2.2 ≤ bs) (hvs : ∀ σ, ck_gas σ S.2.2.1 (gm_vr k1 :: xs.map gm_vi)) (k : bc_KX X LX d (bc - S.1.2.1) (bs - S.1.2.2) mi (pc + 3) L st Q O z g1 g la K M S) : gm_Wp X LX d bc bs mi pc L ((xs.map gm_vi).reverse ++ gm_vr k1 :: st) (245 + 4 * g) K R M Q := by
  have er : bg_rho (la 3) k1 = k1 := by unfold bg_rho; rw [if_pos (by omega)]
  have := gm_c_virtS (k1 := k1) (as := xs.map gm_vi) (d' := S.1.1) (bc' := S.1.2.1) (bs' := S.1.2.2) (fun ti α => bg_sbw hb hz ti α) (fun i j a b c d e => bc_hin hz i j a b c d e) (bs_Rv hz) ⟨hk1.1, by omega⟩ (show (bs_K la K k1).1 = ci + 4 by unfold bs_K; rw [er]; exact hK1) h hc hmx hci hcn (by rw [List.length_map]; exact hna) (fun v hv => by obtain ⟨x, -, rfl⟩ := List.mem_map.mp hv; exact ⟨x, rfl⟩) (by rw [List.length_map]; exact hlen) hst h1 h2 h3 (bc_ownX hb hz hg hnm hO hF hS hck (Nat.le_refl _) (Nat.le_refl _) (Nat.le_refl _) hvs k)
  rw [er] at this
  exact this
theorem bc_arX (xs : List Int) {t n1 : Nat} (hn : 245 ≤ n1) : gm_ar (bg_rho t) n1 (gm_vr 1 :: bc_as xs true) (gm_vr 1 :: bc_as xs true) := by
  refine ⟨_, _, rfl, Or.inr ⟨1, ⟨by decide, by omega⟩, rfl, by rfl⟩, ?_⟩
  induction xs with
  | nil => exact ⟨_, _, rfl, Or.inr ⟨245, ⟨by decide, by omega⟩, rfl, by rfl⟩, rfl⟩
  | cons x xs ih => exact ⟨_, _, rfl, Or.inl ⟨x, rfl, rfl⟩, ih⟩
/-- a call by one of the law's own methods -/
theorem bc_statX {ix mj mi pc d bc bs : Nat} {xs : List Int} (hb : bg g la K R M) (hz : bs_ok la z g1) (hg : g < 10000) (hnm : ck_nmu O) (hO : ∀ n K R M, gm_Fx O n K R M → gm_Fx p2_O n K R M) (hF : gm_Fx O (245 + 4 * g1) (bs_K la K) (bs_R z g1) (bs_M la M)) (h : gm_at mi pc = some (.invokestatic ix)) (hc : gm_cal (gm_ow mi) ix = some (5, mj)) (hmx : gm_ow mj ≠ gm_mxi) (hhj : ¬ gm_hh mj = []) (hna : xs.length + 2 = gm_na mj) (hlen : xs.length + 2 ≤ gm_ml mj) (hst : (st.map gm_cat).sum ≤ 8) (hS : ck_Ok O X LX mj S) (hck : bc_ok O z g1 S = true) (h1 : S.1.1 + 1 ≤ d) (h2 : S.1.2.1 ≤ bc) (h3 : S.1.2.2 ≤ bs) (hvs : ∀ σ, ck_gas σ S.2.2.1 (gm_vr 1 :: bc_as xs true)) (k : bc_KX X LX d (bc - S.1.2.1) (bs - S.1.2.2) mi (pc + 3) L st Q O z g1 g la K M S) : gm_Wp X LX d bc bs mi pc L (gm_vr 245 :: ((xs.map gm_vi).reverse ++ gm_vr 1 :: st)) (245 + 4 * g) K R M Q := by
  have hl : (gm_vr 1 :: bc_as xs true).length = xs.length + 2 := by simp [bc_as]
  have := gm_c_statS (as1 := gm_vr 1 :: bc_as xs true) (as := gm_vr 1 :: bc_as xs true) (d' := S.1.1) (bc' := S.1.2.1) (bs' := S.1.2.2) (st := st) (fun ti α => bg_sbw hb hz ti α) (fun i j a b c d e => bc_hin hz i j a b c d e) (bs_Rv hz) (bc_arX xs (by omega)) h hc hmx hhj (by rw [hl]; exact hna) (by rw [hl]; exact hlen) hst h1 h2 h3 (bc_ownX hb hz hg hnm hO hF hS hck (Nat.le_refl _) (Nat.le_refl _) (Nat.le_refl _) hvs k)
  rw [show (gm_vr 1 :: bc_as xs true).reverse ++ st = gm_vr 245 :: ((xs.map gm_vi).reverse ++ gm_vr 1 :: st) by simp [bc_as]] at this
  exact this
/-- a call by its row and by a judgement of its own: the end by the judgement, the numbers of the old cells by the row -/
def bc_KM (X : Int → Int) (LX d bc bs mi pc : Nat) (L : gm_L) (st : List gm_V) (Q : gm_Q) (O : gm_Or) (z g1 g : Nat) (la : Nat → Nat) (K : gm_K) (R : gm_R) (M : gm_M) (S : ck_Sum) (Qf : gm_Q) : Prop := ∀ (o : gm_O) (n1 : Nat) (K1 : gm_K) (R1 : gm_R) (M1 : gm_M) (σ : Nat → Int) (o2 : gm_O) (n2 : Nat) (K2 : gm_K) (R2 : gm_R) (M2 : gm_M), Qf o n1 K1 R1 M1 → ck_Q O σ S.2.2.2.2.1 (245 + 4 * g1) (bs_K la K) (bs_R z g1) (bs_M la M) S.2.2.2.2.2 o2 n2 K2 R2 M2 → dt_o o o2 → dt_m (245 + 4 * g1) K1 M1 K2 M2 → (∀ k, 1 ≤ k → k ≤ 245 + 4 * g1 → K1 k = K2 k) ∧ gm_owe X LX d bc bs mi pc L st (bg_rho (la 3)) (bg_f la) (245 + 4 * g1) (245 + 4 * g) K R M Q o n1 K1 R1 (mxM (245 + 4 * g1) M2 M1)
theorem bc_ownM {d bc bs mi pc mj d' bc' bs' : Nat} {vs : List gm_V} (hnm : ck_nmu O) (hF : gm_Fx O (245 + 4 * g1) (bs_K la K) (bs_R z g1) (bs_M la M)) (hS : ck_Ok O X LX mj S) (hn : S.2.1 = 245 + 4 * g1) (hf0 : bc_f O z S.2.2.2.1 = true) (h1 : S.1.1 ≤ d') (h2 : S.1.2.1 ≤ bc') (h3 : S.1.2.2 ≤ bs') (hvs : ∀ σ, ck_gas σ S.2.2.1 vs) (hf : gm_Wp X LX d' bc' bs' mj 0 (gm_ent mj vs) [] (245 + 4 * g1) (bs_K la K) (bs_R z g1) (bs_M la M) Qf) (k : bc_KM X LX d bc bs mi pc L st Q O z g1 g la K R M S Qf) : gm_Wp X LX d' bc' bs' mj 0 (gm_ent mj vs) [] (245 + 4 * g1) (bs_K la K) (bs_R z g1) (bs_M la M) (gm_owe X LX d bc bs mi pc L st (bg_rho (la 3)) (bg_f la) (245 + 4 * g1) (245 + 4 * g) K R M Q) := by
  have hσ := ck_sn_s (σ := fun _ => 0) (M := bs_M la M) hnm
  have hrow := gm_Wp_wk (Nat.le_refl _) h2 h3 (hS d' (ck_sn O (fun _ => 0) (bs_M la M)) vs _ _ _ _ h1 hn.symm (hvs _) hσ hF (bc_f_s hf0 hF (by omega) hσ))
  refine gm_Wp_mx hf hrow (fun o n1 K1 R1 M1 o2 n2 K2 R2 M2 q1 q2 ho hm => ?_)
  exact k o n1 K1 R1 M1 _ o2 n2 K2 R2 M2 q1 q2 ho hm
theorem bc_virtM {ix mj k1 ci mi pc d bc bs d' bc' bs' : Nat} {xs : List Int} (hb : bg g la K R M) (hz : bs_ok la z g1) (hnm : ck_nmu O) (hF : gm_Fx O (245 + 4 * g1) (bs_K la K) (bs_R z g1) (bs_M la M)) (hk1 : 1 ≤ k1 ∧ k1 ≤ 245) (hK1 : (K k1).1 = ci + 4) (h : gm_at mi pc = some (.invokevirtual ix)) (hc : gm_cal (gm_ow mi) ix = some (0, mj)) (hmx : gm_ow mj ≠ gm_mxi) (hci : ci < 12) (hcn : gm_cn ci = (gm_mn mj).cls) (hna : xs.length = gm_na mj) (hlen : xs.length + 1 ≤ gm_ml mj) (hst : (st.map gm_cat).sum ≤ 8) (hS : ck_Ok O X LX mj S) (hn : S.2.1 = 245 + 4 * g1) (hf0 : bc_f O z S.2.2.2.1 = true) (h1 : S.1.1 ≤ d') (h2 : S.1.2.1 ≤ bc') (h3 : S.1.2.2 ≤ bs') (hd : d' + 1 ≤ d) (hb1 : bc' ≤ bc) (hb2 : bs' ≤ bs) (hvs : ∀ σ, ck_gas σ S.2.2.1 (gm_vr k1 :: xs.map gm_vi)) (hf : gm_Wp X LX d' bc' bs' mj 0 (gm_ent mj (gm_vr k1 :: xs.map gm_vi)) [] (245 + 4 * g1) (bs_K la K) (bs_R z g1) (bs_M la M) Qf) (k : bc_KM X LX d (bc - bc') (bs - bs') mi (pc + 3) L st Q O z g1 g la K R M S Qf) : gm_Wp X LX d bc bs mi pc L ((xs.map gm_vi).reverse ++ gm_vr k1 :: st) (245 + 4 * g) K R M Q := by
  have er : bg_rho (la 3) k1 = k1 := by unfold bg_rho; rw [if_pos (by omega)]
  have := gm_c_virtS (k1 := k1) (as := xs.map gm_vi) (d' := d') (bc' := bc') (bs' := bs') (fun ti α => bg_sbw hb hz ti α) (fun i j a b c d e => bc_hin hz i j a b c d e) (bs_Rv hz) ⟨hk1.1, by omega⟩ (show (bs_K la K k1).1 = ci + 4 by unfold bs_K; rw [er]; exact hK1) h hc hmx hci hcn (by rw [List.length_map]; exact hna) (fun v hv => by obtain ⟨x, -, rfl⟩ := List.mem_map.mp hv; exact ⟨x, rfl⟩) (by rw [List.length_map]; exact hlen) hst hd hb1 hb2 (bc_ownM hnm hF hS hn hf0 h1 h2 h3 hvs hf k)
  rw [er] at this
  exact this
theorem bc_statM {ix mj mi pc d bc bs d' bc' bs' : Nat} {xs : List Int} (hb : bg g la K R M) (hz : bs_ok la z g1) (hnm : ck_nmu O) (hF : gm_Fx O (245 + 4 * g1) (bs_K la K) (bs_R z g1) (bs_M la M)) (h : gm_at mi pc = some (.invokestatic ix)) (hc : gm_cal (gm_ow mi) ix = some (5, mj)) (hmx : gm_ow mj ≠ gm_mxi) (hhj : ¬ gm_hh mj = []) (hna : xs.length + 2 = gm_na mj) (hlen : xs.length + 2 ≤ gm_ml mj) (hst : (st.map gm_cat).sum ≤ 8) (hS : ck_Ok O X LX mj S) (hn : S.2.1 = 245 + 4 * g1) (hf0 : bc_f O z S.2.2.2.1 = true) (h1 : S.1.1 ≤ d') (h2 : S.1.2.1 ≤ bc') (h3 : S.1.2.2 ≤ bs') (hd : d' + 1 ≤ d) (hb1 : bc' ≤ bc) (hb2 : bs' ≤ bs) (hvs : ∀ σ, ck_gas σ S.2.2.1 (gm_vr 1 :: bc_as xs true)) (hf : gm_Wp X LX d' bc' bs' mj 0 (gm_ent mj (gm_vr 1 :: bc_as xs true)) [] (245 + 4 * g1) (bs_K la K) (bs_R z g1) (bs_M la M) Qf) (k : bc_KM X LX d (bc - bc') (bs - bs') mi (pc + 3) L st Q O z g1 g la K R M S Qf) : gm_Wp X LX d bc bs mi pc L (gm_vr 245 :: ((xs.map gm_vi).reverse ++ gm_vr 1 :: st)) (245 + 4 * g) K R M Q := by
  have hl : (gm_vr 1 :: bc_as xs true).length = xs.length + 2 := by simp [bc_as]
  have := gm_c_statS (as1 := gm_vr 1 :: bc_as xs true) (as := gm_vr 1 :: bc_as xs true) (d' := d') (bc' := bc') (bs' := bs') (st := st) (fun ti α => bg_sbw hb hz ti α) (fun i j a b c d e => bc_hin hz i j a b c d e) (bs_Rv hz) (bc_arX xs (by omega)) h hc hmx hhj (by rw [hl]; exact hna) (by rw [hl]; exact hlen) hst hd hb1 hb2 (bc_ownM hnm hF hS hn hf0 h1 h2 h3 hvs hf k)
  rw [show (gm_vr 1 :: bc_as xs true).reverse ++ st = gm_vr 245 :: ((xs.map gm_vi).reverse ++ gm_vr 1 :: st) by simp [bc_as]] at this
  exact this
/-- which law a State holds by what a call sees -/
theorem bg_dcs {s : Nat} (hz : bs_ok la z g1) (hs : s ∈ bg_ss) : bg_dc la g 0 (bs_R z g1 s 8) = la s := by
  rw [bc_lf hs]
  unfold bg_dc
  by_cases e : s = 3
  · subst e
    rw [if_pos rfl]
    rcases hz with ⟨rfl, -, h0⟩ | ⟨rfl, -⟩ | ⟨rfl, -, h0⟩
    · rw [if_pos rfl, h0]
    · rw [if_neg (by decide), if_neg (by decide)]
    · rw [if_neg (by decide), if_pos rfl, if_neg (by decide)]
  · rw [if_neg e, if_neg (by omega), if_neg (by omega), show 100000 + s - 100000 = s by omega]
/-- references as a call leaves them -/
def rvR (z g1 : Nat) (R' : gm_R) : Prop := (∀ k j, ¬ (k ∈ bg_ss ∧ j = 8) → R' k j = bs_R z g1 k j) ∧ ∀ s ∈ bg_ss, R' s 8 = 0 ∨ (R' s 8 = 246 ∧ g1 = 1) ∨ ∃ s' ∈ bg_ss, R' s 8 = 100000 + s'
theorem rvR_0 (hz : bs_ok la z g1) : rvR z g1 (bs_R z g1) := by
  refine ⟨fun _ _ _ => rfl, fun s hs => ?_⟩
  rw [bc_lf hs]
  by_cases e3 : s = 3
  · rw [if_pos e3]
    rcases hz with h | h | h
    · exact Or.inl h.1
    · exact Or.inr (Or.inr ⟨3, by decide, h.1⟩)
    · exact Or.inr (Or.inl ⟨h.1, h.2.1⟩)
  · rw [if_neg e3]
    exact Or.inr (Or.inr ⟨s, hs, rfl⟩)
theorem rvR_u {s s' : Nat} (h : rvR z g1 R') (hs : s ∈ bg_ss) (hs' : s' ∈ bg_ss) : rvR z g1 (gm_uR R' s 8 (R' s' 8)) := by
  refine ⟨fun k j hk => ?_, fun t ht => ?_⟩
  · unfold gm_uR
    rw [if_neg (fun e => hk ⟨by rw [e.1]; exact hs, e.2⟩)]
    exact h.1 k j hk
  · unfold gm_uR
    by_cases e : t = s ∧ (8 : Int) = 8
    · rw [if_pos e]
      exact h.2 s' hs'
    · rw [if_neg e]
      exact h.2 t ht
/-- the world that a call hands back, without a new law -/
theorem rt_of {n2 : Nat} {Ka K2 : gm_K} {R2 : gm_R} {Ma M2 : gm_M} {W : List (Nat × Int × Int) × List (Nat × Int)} (hg1 : g1 ≤ 1) (hr : rvR z g1 R') (hF : gm_Fx p2_O n2 K2 R2 M2) (hfr : ck_fr W (245 + 4 * g1) K1 (bs_R z g1) M1 n2 K2 R2 M2) (hW : W.1.all (fun w => decide (w.1 ≤ 245)) = true) (hk : ∀ k, k ≤ 245 + 4 * g1 → Ka k = K1 k) : bs_rt z g1 0 K1 M1 (245 + 4 * g1) Ka R' (mxM (245 + 4 * g1) M2 Ma) := by
  have eK : ∀ k, k ≤ 245 → Ka k = K2 k := fun k h => (hk k (by omega)).trans (hfr.2.1 k (by omega)).symm
  have eM : ∀ k, k ≤ 245 → mxM (245 + 4 * g1) M2 Ma k = M2 k := fun k h => funext fun j => mxM_o (by omega)
  refine ⟨⟨Or.inl rfl, rfl⟩, ⟨fun k q hq => ?_, fun k j r hq => ?_, fun k r hq => ?_, fun k r hq => ?_, ?_⟩, hk, fun k j k1 k2 => ?_, fun k j _ hj => hr.1 k j hj, fun s hs => (hr.2 s hs).imp_right (Or.imp_left fun e => ⟨e.1, Or.inl e.2⟩), fun h => absurd h (by decide)⟩
  · obtain ⟨a1, a2, a3⟩ := hF.1 k q hq
    have := bg_O1 hq
    exact ⟨a1, by omega, (eK k (by omega)).trans a3⟩
  · obtain ⟨-, a2, a3⟩ := bg_rfo hq
    refine ⟨by omega, (hr.1 k j a3).trans ?_⟩
    unfold bs_R
    rw [hq]
  · obtain ⟨a1, a2⟩ := hF.2.2.1 k r hq
    have := bg_tyk hq
    refine ⟨by omega, fun j j1 j2 => ?_⟩
    rw [eM k (by omega)]
    exact a2 j j1 j2
  · have := jfp_b hq
    by_cases hk9 : k ≤ 245
    · omega
    · have hq : r ∈ j_fp k := hq
      rw [show j_fp k = [] by unfold j_fp; rw [if_neg (by omega), if_neg (by omega), if_neg (by omega), if_neg (by omega)]] at hq
      cases hq
  · have hJ : jP p2_ty (M2 227) (M2 228) (M2 229) (M2 230) := hF.2.2.2.2
    show jP p2_ty (mxM (245 + 4 * g1) M2 Ma 227) (mxM (245 + 4 * g1) M2 Ma 228) (mxM (245 + 4 * g1) M2 Ma 229) (mxM (245 + 4 * g1) M2 Ma 230)
    rw [eM 227 (by decide), eM 228 (by decide), eM 229 (by decide), eM 230 (by decide)]
    exact hJ
  · rw [mxM_o k2]
    refine hfr.2.2.1 k j k2 fun w hw hh => ?_
    have := of_decide_eq_true (List.all_eq_true.mp hW w hw)
    omega
end WX
end
/-! 7c02.ab -/
section
/-! THE ABSTRACT VALLEY: FLOW, OPEN, ends as functions of what is told, the same for class and reference. -/
/-- numbers are ints -/
def irN (N : Int → Int) : Prop := ∀ i, gm_ir (N i)
def GJ (N : Int → Int) : Prop := GI N ∧ irN N
/-- the lines of a law, laid as the reference lays them -/
def gcl (ls : List lln) : Int → Int := fun j => match ls[((j - 396) / 4).toNat]? with
  | none => 0
  | some x => if (j - 396) % 4 = 0 then x.1 else if x.1 = 2 then 1 else x.2.1
theorem gcl_0 {ls : List lln} {k : Nat} {x : lln} (hx : ls[k]? = some x) : gcl ls (396 + 4 * (k : Int)) = x.1 := by
  unfold gcl
  rw [show ((396 + 4 * (k : Int) - 396) / 4).toNat = k by omega, hx]
  show (if (396 + 4 * (k : Int) - 396) % 4 = 0 then x.1 else _) = x.1
  rw [if_pos (by omega)]
theorem gcl_1 {ls : List lln} {k : Nat} {x : lln} (hx : ls[k]? = some x) : gcl ls (396 + 4 * (k : Int) + 1) = if x.1 = 2 then 1 else x.2.1 := by
  unfold gcl
  rw [show ((396 + 4 * (k : Int) + 1 - 396) / 4).toNat = k by omega, hx]
  show (if (396 + 4 * (k : Int) + 1 - 396) % 4 = 0 then x.1 else _) = _
  rw [if_neg (by omega)]
theorem rsum_gcl {ls : List lln} {G F : Int → Int} {kd : Int} (hR : LR ls G) : ∀ k : Nat, k ≤ ls.length → rsum (HH ls) F G kd k = rsum (HH ls) F (gcl ls) kd k := by
  intro k
  induction k with
  | zero => intro _; rfl
  | succ k ih =>
    intro hk
    obtain ⟨x, hx⟩ := lq_at (ls := ls) (k := k) (by omega)
    obtain ⟨a0, a1, -⟩ := hR k x hx
    show rsum (HH ls) F G kd k + @ite Int (G (396 + 4 * (k : Int)) = kd ∧ HH ls F (k : Int)) (Classical.propDecidable _) (G (396 + 4 * (k : Int) + 1)) 0 = rsum (HH ls) F (gcl ls) kd k + @ite Int (gcl ls (396 + 4 * (k : Int)) = kd ∧ HH ls F (k : Int)) (Classical.propDecidable _) (gcl ls (396 + 4 * (k : Int) + 1)) 0
    rw [ih (by omega), a0, a1, gcl_0 hx, gcl_1 hx]
theorem rphi_gcl {ls : List lln} {G N h : Int → Int} {l r y : Int} (hR : LR ls G) : rphi N h (HH ls) G (ls.length : Int) l r y = rphi N h (HH ls) (gcl ls) (ls.length : Int) l r y := by
  have e : ((ls.length : Int)).toNat = ls.length := by omega
  unfold rphi
  rw [e, rsum_gcl hR _ (Nat.le_refl _), rsum_gcl hR _ (Nat.le_refl _)]
/-- FLOW -/
noncomputable def aphi (lw : Option (List lln)) (N h : Int → Int) (l r y : Int) : Int := if 0 ≤ l ∧ l < 6 then (match lw with
  | none => rphi0 N l r y
  | some ls => rphi N h (HH ls) (gcl ls) (ls.length : Int) l r y) else 0
/-- FLOW as the class reckons it, beyond the valley's LANES and ROWS too -/
noncomputable def aphx (lw : Option (List lln)) (N h : Int → Int) (l r y : Int) : Int := if 0 ≤ l then (match lw with
  | none => 0
  | some ls => max 0 (min 30 ((spd N l r + rsum (HH ls) (fcts N h l r y (spd N l r) 0 0 0) (gcl ls) 0 ls.length) - rsum (HH ls) (fcts N h l r y (spd N l r) 0 0 0) (gcl ls) 1 ls.length))) else 0
theorem aphx_s {ls : List lln} {N h : Int → Int} {l r y : Int} (hl : 0 ≤ l) : aphx (some ls) N h l r y = max 0 (min 30 ((spd N l r + rsum (HH ls) (fcts N h l r y (spd N l r) 0 0 0) (gcl ls) 0 ls.length) - rsum (HH ls) (fcts N h l r y (spd N l r) 0 0 0) (gcl ls) 1 ls.length)) := by
  unfold aphx
  rw [if_pos hl]
/-- OPEN -/
noncomputable def apsi (lw : Option (List lln)) (N h : Int → Int) (p lane age deep : Int) : Prop := ∃ ls, lw = some ls ∧ rpsi N h (HH ls) (gcl ls) (ls.length : Int) p lane age deep
theorem aphi_n {N h : Int → Int} {l r y : Int} (hl : 0 ≤ l ∧ l < 6) : aphi none N h l r y = rphi0 N l r y := by
  unfold aphi
  rw [if_pos hl]
theorem aphi_s {ls : List lln} {N h : Int → Int} {l r y : Int} (hl : 0 ≤ l ∧ l < 6) : aphi (some ls) N h l r y = rphi N h (HH ls) (gcl ls) (ls.length : Int) l r y := by
  unfold aphi
  rw [if_pos hl]
theorem aphi_b {lw : Option (List lln)} {N h : Int → Int} (l r y : Int) : 0 ≤ aphi lw N h l r y ∧ aphi lw N h l r y ≤ 30 := by
  by_cases hl : 0 ≤ l ∧ l < 6
  · cases lw with
    | none =>
      rw [aphi_n hl]
      unfold rphi0
      omega
    | some ls =>
      rw [aphi_s hl]
      unfold rphi
      omega
  · unfold aphi
    rw [if_neg hl]
    decide
/-- the same valley -/
def hgeo (N N2 : Int → Int) : Prop := ∀ i, 0 ≤ i → i < 95 → ¬ (i = 4 ∨ i = 9 ∨ i = 14) → N2 i = N i
theorem hgeo_r {N : Int → Int} : hgeo N N := fun _ _ _ _ => rfl
theorem hgeo_t {N N2 N3 : Int → Int} (a : hgeo N N2) (b : hgeo N2 N3) : hgeo N N3 := fun i h0 h1 h2 => (b i h0 h1 h2).trans (a i h0 h1 h2)
theorem hgeo_s {N N2 : Int → Int} (a : hgeo N N2) : hgeo N2 N := fun i h0 h1 h2 => (a i h0 h1 h2).symm
theorem hgeo_g {N N2 : Int → Int} (a : geo N N2) : hgeo N N2 := fun i h0 h1 h2 => a.1 i h0 h1 (fun e => h2 (Or.inr (Or.inl e))) (fun e => h2 (Or.inr (Or.inr e)))
theorem hg_rsp {N N2 : Int → Int} (a : hgeo N N2) {l r : Int} (hl : 0 ≤ l ∧ l < 6) : ∀ t : Nat, t ≤ 8 → rsp N2 l r t = rsp N l r t := by
  intro t
  induction t with
  | zero => intro _; rfl
  | succ t ih =>
    intro ht
    show (if N2 (15 + 7 * (t : Int)) ≤ r then N2 (15 + 7 * (t : Int) + 1 + l) else rsp N2 l r t) = (if N (15 + 7 * (t : Int)) ≤ r then N (15 + 7 * (t : Int) + 1 + l) else rsp N l r t)
    rw [ih (by omega), a (15 + 7 * (t : Int)) (by omega) (by omega) (by omega), a (15 + 7 * (t : Int) + 1 + l) (by omega) (by omega) (by omega)]
theorem hg_nsp {N N2 : Int → Int} (a : hgeo N N2) (h2 : 0 ≤ N 2 ∧ N 2 ≤ 8) {l r : Int} (hl : 0 ≤ l ∧ l < 6) : nsp N2 l r = nsp N l r := by
  unfold nsp
  rw [a 2 (by decide) (by decide) (by decide)]
  exact hg_rsp a hl _ (by omega)
theorem hg_fcts {N N2 h : Int → Int} (a : hgeo N N2) {l r y s p ag dp : Int} : fcts N2 h l r y s p ag dp = fcts N h l r y s p ag dp := by
  unfold fcts
  rw [a 0 (by decide) (by decide) (by decide), a 12 (by decide) (by decide) (by decide)]
theorem hg_hts {N N2 : Int → Int} (a : hgeo N N2) : hts (N2 13) = hts (N 13) := by rw [a 13 (by decide) (by decide) (by decide)]
theorem hg_aphi {N N2 h : Int → Int} {lw : Option (List lln)} (a : hgeo N N2) (h2 : 0 ≤ N 2 ∧ N 2 ≤ 8) : aphi lw N2 h = aphi lw N h := by
  funext l r y
  by_cases hl : 0 ≤ l ∧ l < 6
  · cases lw with
    | none =>
      rw [aphi_n hl, aphi_n hl]
      unfold rphi0
      rw [hg_nsp a h2 hl]
    | some ls =>
      rw [aphi_s hl, aphi_s hl]
      unfold rphi
      rw [hg_nsp a h2 hl, hg_fcts a]
  · unfold aphi
    rw [if_neg hl, if_neg hl]
theorem hg_fbit {N N2 : Int → Int} (a : hgeo N N2) {y b : Int} (h : fbit N y b) : fbit N2 y b := by
  intro f hf
  rw [h f hf, a 5 (by decide) (by decide) (by decide), a (71 + ((f : Int) * 3 + 0)) (by omega) (by omega) (by omega)]
theorem hg_spd {N N2 : Int → Int} (a : hgeo N N2) (hN : NR N) {l r : Int} (h0 : 0 ≤ l) : spd N2 l r = spd N l r := by
  have n2 := hN.2.1.1
  have n0 := hN.1.1
  unfold spd
  rw [a 0 (by decide) (by decide) (by decide), a 1 (by decide) (by decide) (by decide)]
  by_cases h : l < N 0 ∧ r < N 1
  · rw [if_pos h, if_pos h, hg_nsp a n2 ⟨h0, by omega⟩]
  · rw [if_neg h, if_neg h]
theorem hg_kfl {N N2 : Int → Int} {φ : Int → Int → Int → Int} {M : gm_M} (a : hgeo N N2) (h : KFL N φ M) : KFL N2 φ M := h
theorem hg_kfr {N N2 : Int → Int} {φ : Int → Int → Int → Int} {M : gm_M} (a : hgeo N N2) (h : KFR N φ M) : KFR N2 φ M := h
theorem hg_aphx {N N2 h : Int → Int} {lw : Option (List lln)} (a : hgeo N N2) (hN : NR N) : aphx lw N2 h = aphx lw N h := by
  funext l r y
  by_cases hl : 0 ≤ l
  · cases lw with
    | none => rfl
    | some ls => rw [aphx_s hl, aphx_s hl, hg_spd a hN hl, hg_fcts a]
  · unfold aphx
    rw [if_neg hl, if_neg hl]
/-- what is told, by other numbers of letters or watches: heats, speeds, floods stay -/
theorem hg_ti {N N2 : Int → Int} {M M2 : gm_M} (hN : NR N) (a : hgeo N N2) (hT : TI N (hts (N 13)) (spd N) M) (hC : CST M2) (hc : cs M2 3 = N2) (e : ∀ (k : Nat) (j : Int), 201 ≤ k → k ≤ 203 → M2 k j = M k j) : TI N2 (hts (N2 13)) (spd N2) M2 := by
  refine ⟨hC, hc, fun y y0 y1 => ?_, fun l r l0 l1 r0 r1 => ?_⟩
  · obtain ⟨b1, b2, b3, b4⟩ := hT.2.2.1 y y0 y1
    rw [hg_hts a, e 201 y (by decide) (by decide), e 203 y (by decide) (by decide)]
    exact ⟨b1, b2, b3, hg_fbit a b4⟩
  · rw [e 202 _ (by decide) (by decide), hg_spd a hN l0]
    exact hT.2.2.2 l r l0 l1 r0 r1
/-- ways and ends by another FLOW that is the same -/
theorem outr_g {N N2 h : Int → Int} {lw : Option (List lln)} {l o d : Int} (a : geo N N2) (hN : NR N) (hl : 0 ≤ l ∧ l < 24) (ho : OUTR N h (aphi lw N h) l o d) : OUTR N2 h (aphi lw N2 h) l o d := by
  rw [hg_aphi (hgeo_g a) hN.2.1.1]
  exact OUTR_geo a hN.2.1.2.1 hl ho
theorem ends_g {N N2 h : Int → Int} {lw : Option (List lln)} {M M2 : gm_M} (a : geo N N2) (hN : NR N) (h4 : N2 4 = N 4) (he : ENDS N h (aphi lw N h) M) (e : ∀ (k : Nat) (j : Int), k = 220 ∨ k = 221 → M2 k j = M k j) : ENDS N2 h (aphi lw N2 h) M2 := by
  refine ⟨by rw [e 220 3 (Or.inl rfl), h4]; exact he.1, fun l l0 l1 => ?_⟩
  rw [e 221 _ (Or.inr rfl), e 221 _ (Or.inr rfl)]
  exact outr_g a hN ⟨l0, by have := hN.2.1.2.2.2.1; omega⟩ (he.2 l l0 (by rw [h4] at l1; exact l1))
/-- a first one -/
theorem nat_first {P : Nat → Prop} : ∀ n : Nat, (∀ j, j < n → ¬ P j) ∨ ∃ j, j < n ∧ P j ∧ ∀ i, i < j → ¬ P i := by
  intro n
  induction n with
  | zero => exact Or.inl fun j h => absurd h (Nat.not_lt_zero _)
  | succ n ih =>
    rcases ih with h | ⟨j, h1, h2, h3⟩
    · by_cases hp : P n
      · exact Or.inr ⟨n, Nat.lt_succ_self _, hp, h⟩
      · refine Or.inl fun j hj => ?_
        by_cases e : j = n
        · rw [e]; exact hp
        · exact h j (by omega)
    · exact Or.inr ⟨j, by omega, h2, h3⟩
/-- how each ends -/
theorem outr_ex {N h : Int → Int} {φ : Int → Int → Int → Int} (l : Int) : ∃ q : Int × Int, OUTR N h φ l q.1 q.2 := by
  rcases nat_first (P := fun j => N 1 ≤ (nwy N h φ ((N (119 + (l * 7 + 2)))) (if (N (119 + (l * 7 + 0))) = -1 then 1 else 0) (-1) ((N (119 + (l * 7 + 3)))) ((N (119 + (l * 7 + 4)))) j).1) (300 - (N (119 + (l * 7 + 3)))).toNat with h1 | ⟨j, h1, h2, h3⟩
  · exact ⟨(-1, 0), Or.inl ⟨rfl, fun j hj => by have := h1 j (by omega); omega⟩⟩
  · exact ⟨((N (119 + (l * 7 + 3))) + (j : Int), _), Or.inr ⟨j, by omega, rfl, h2, fun i hi => by have := h3 i hi; omega, rfl⟩⟩
noncomputable def aout (N h : Int → Int) (φ : Int → Int → Int → Int) (l : Int) : Int := (Classical.choose (outr_ex (N := N) (h := h) (φ := φ) l)).1
noncomputable def adp (N h : Int → Int) (φ : Int → Int → Int → Int) (l : Int) : Int := (Classical.choose (outr_ex (N := N) (h := h) (φ := φ) l)).2
theorem aout_s {N h : Int → Int} {φ : Int → Int → Int → Int} (l : Int) : OUTR N h φ l (aout N h φ l) (adp N h φ l) := Classical.choose_spec (outr_ex (N := N) (h := h) (φ := φ) l)
end
/-! 7c03.fi -/
section
/-! FLOW AND OPEN of class and reference, by the abstract ones. -/
section FI3
variable {X : Int → Int} {LX n : Nat} {K : gm_K} {R : gm_R} {N N2 h : Int → Int} {sp : Int → Int → Int} {FI FI2 : gm_M → Prop} {φ φ2 : Int → Int → Int → Int} {ψ ψ2 : Int → Int → Int → Int → Prop} {lw : Option (List lln)} {M : gm_M} {NC : Nat} {C Ln G : Int → Int}
theorem flw_cg (hf : FLW X LX n K R N h sp FI φ) (hb : ∀ l r y, 0 ≤ φ2 l r y ∧ φ2 l r y ≤ 30) (he : ∀ l r y, 0 ≤ l ∧ l < N 0 → 0 ≤ r ∧ r < N 1 → 0 ≤ y ∧ y < 300 → φ2 l r y = φ l r y) (hI : ∀ M, FI2 M ↔ FI M) : FLW X LX n K R N h sp FI2 φ2 := by
  obtain ⟨-, h2, h3⟩ := hf
  refine ⟨hb, fun W M M2 hw hf hI2 => (hI M2).mpr (h2 W M M2 hw hf ((hI M).mp hI2)), fun d bc bs M Q lane row year hd hl hr hy hT hI2 hq => h3 d bc bs M Q lane row year hd hl hr hy hT ((hI M).mp hI2) (fun M2 hf hI3 => ?_)⟩
  rw [← he lane row year hl hr hy]
  exact hq M2 hf ((hI M2).mpr hI3)
theorem flr_cg (hf : FLR X LX n K R N h FI φ) (hb : ∀ l r y, 0 ≤ φ2 l r y ∧ φ2 l r y ≤ 30) (he : ∀ l r y, 0 ≤ l ∧ l < N 0 → 0 ≤ r ∧ r < N 1 → 0 ≤ y ∧ y < 300 → φ2 l r y = φ l r y) (hI : ∀ M, FI2 M ↔ FI M) : FLR X LX n K R N h FI2 φ2 := by
  obtain ⟨-, h2, h3⟩ := hf
  refine ⟨hb, fun W M M2 hw hf hI2 => (hI M2).mpr (h2 W M M2 hw hf ((hI M).mp hI2)), fun d bc bs M Q lane row year hd hl hr hy hT hI2 hq => h3 d bc bs M Q lane row year hd hl hr hy hT ((hI M).mp hI2) (fun M2 hf hI3 => ?_)⟩
  rw [← he lane row year hl hr hy]
  exact hq M2 hf ((hI M2).mpr hI3)
theorem mow_cg (hf : MOW X LX n K R N h sp FI ψ) (hI : ∀ M, FI2 M → FI M) (hp : ∀ p l a d, ψ2 p l a d ↔ ψ p l a d) : MOW X LX n K R N h sp FI2 ψ2 := fun d bc bs M Q p l a dp hd hl hT hI2 q1 q0 => hf d bc bs M Q p l a dp hd hl hT (hI M hI2) (fun hh => q1 ((hp p l a dp).mpr hh)) (fun hh => q0 (fun h2 => hh ((hp p l a dp).mp h2)))
theorem mor_cg (hf : MOR X LX n K R N h FI ψ) (hI : ∀ M, FI2 M → FI M) (hp : ∀ p l a d, ψ2 p l a d ↔ ψ p l a d) : MOR X LX n K R N h FI2 ψ2 := fun d bc bs M Q p l dp hd hl hT hI2 h29 hdp q1 q0 => hf d bc bs M Q p l dp hd hl hT (hI M hI2) h29 hdp (fun hh => q1 ((hp _ _ _ _).mpr hh)) (fun hh => q0 (fun h2 => hh ((hp _ _ _ _).mp h2)))
theorem kfl_cg (he : ∀ l r y, 0 ≤ l ∧ l < 6 → 0 ≤ r ∧ r < 99 → 0 ≤ y ∧ y < 300 → φ2 l r y = φ l r y) : KFL N φ2 M ↔ KFL N φ M := by
  refine ⟨fun hk => ⟨hk.1, fun l r y l0 l1 r0 r1 y0 y1 => ?_⟩, fun hk => ⟨hk.1, fun l r y l0 l1 r0 r1 y0 y1 => ?_⟩⟩
  · rw [← he l r y ⟨l0, l1⟩ ⟨r0, r1⟩ ⟨y0, y1⟩]; exact hk.2 l r y l0 l1 r0 r1 y0 y1
  · rw [he l r y ⟨l0, l1⟩ ⟨r0, r1⟩ ⟨y0, y1⟩]; exact hk.2 l r y l0 l1 r0 r1 y0 y1
theorem kfr_cg (he : ∀ l r y, 0 ≤ l ∧ l < 6 → 0 ≤ r ∧ r < 99 → 0 ≤ y ∧ y < 300 → φ2 l r y = φ l r y) : KFR N φ2 M ↔ KFR N φ M := by
  refine ⟨fun hk => ⟨hk.1, hk.2.1, fun r y l0 l1 r0 r1 y0 y1 => ?_⟩, fun hk => ⟨hk.1, hk.2.1, fun r y l0 l1 r0 r1 y0 y1 => ?_⟩⟩
  · rw [← he _ r y ⟨l0, l1⟩ ⟨r0, r1⟩ ⟨y0, y1⟩]; exact hk.2.2 r y l0 l1 r0 r1 y0 y1
  · rw [he _ r y ⟨l0, l1⟩ ⟨r0, r1⟩ ⟨y0, y1⟩]; exact hk.2.2 r y l0 l1 r0 r1 y0 y1
/-- FLOW by the class's codes -/
theorem lphi_ax {ls : List lln} (hW : LW ls) (hC : LC ls C Ln) (hR : LR ls G) {l r y : Int} (hl : 0 ≤ l) : lphi N h (spd N) C Ln (ls.length : Int) l r y = aphx (some ls) N h l r y := by
  rw [aphx_s hl]
  unfold lphi
  rw [show ((ls.length : Int)).toNat = ls.length from Int.toNat_natCast _, lsum_x hW hC hR fb_fcts _ (Nat.le_refl _), rsum_gcl hR _ (Nat.le_refl _), rsum_gcl hR _ (Nat.le_refl _)]
  congr 2
  omega
/-- what the class's law is: no law, or one that stands at 246 -/
def CC (n : Nat) (K : gm_K) (R : gm_R) (NC : Nat) (C Ln G : Int → Int) (lw : Option (List lln)) : Prop := (lw = none → R 3 ((8 : Nat) : Int) = 0) ∧ ∀ ls, lw = some ls → R 3 ((8 : Nat) : Int) = 246 ∧ LE n K R NC ∧ LW ls ∧ LC ls C Ln ∧ LR ls G
noncomputable def FIC (NC : Nat) (C Ln : Int → Int) (lw : Option (List lln)) (N h : Int → Int) : gm_M → Prop := fun M => ∀ ls, lw = some ls → LB NC C Ln (ls.length : Int) M ∧ KFL N (aphx lw N h) M
theorem cc_u {k v : Nat} (hc : CC n K R NC C Ln G lw) (hk : ¬ k = 3) (hk2 : k < 246) : CC n K (gm_uR R k 8 v) NC C Ln G lw := by
  have e3 : gm_uR R k 8 v 3 ((8 : Nat) : Int) = R 3 ((8 : Nat) : Int) := uR_ne (fun e => hk e.1.symm)
  refine ⟨fun e => e3.trans (hc.1 e), fun ls e => ?_⟩
  obtain ⟨a, ⟨b1, b2, b3⟩, c⟩ := hc.2 ls e
  exact ⟨e3.trans a, ⟨b1, ⟨(uR_ne (by omega)).trans b2.1, (uR_ne (by omega)).trans b2.2.1, (uR_ne (by omega)).trans b2.2.2⟩, b3⟩, c⟩
theorem flw_a (hE : E0 n K R) (hc : CC n K R NC C Ln G lw) (hN : NR N) (hS : NS N) : FLW X LX n K R N h (spd N) (FIC NC C Ln lw N h) (aphi lw N h) := by
  have hsp : ∀ l r, 0 ≤ l → l < 6 → 0 ≤ r → r < 99 → 0 ≤ spd N l r ∧ spd N l r ≤ 20 := fun l r l0 _ _ _ => spd_b hN hS l0
  have h06 := hN.1.1
  have es : ∀ l r, 0 ≤ l ∧ l < N 0 → 0 ≤ r ∧ r < N 1 → spd N l r = nsp N l r := fun l r hl hr => if_pos ⟨hl.2, hr.2⟩
  cases lw with
  | none =>
    refine flw_cg (ic_flw0 hE (hc.1 rfl) hN hsp) aphi_b (fun l r y hl hr _ => ?_) (fun M => ⟨fun _ => trivial, fun _ ls e => nomatch e⟩)
    rw [aphi_n ⟨hl.1, by omega⟩]
    exact (nphi_x (es l r hl hr)).symm
  | some ls =>
    obtain ⟨h8, hL, hW, hC, hR⟩ := hc.2 ls rfl
    have he : ∀ l r y, 0 ≤ l ∧ l < N 0 → 0 ≤ r ∧ r < N 1 → 0 ≤ y ∧ y < 300 → aphi (some ls) N h l r y = lphi N h (spd N) C Ln (ls.length : Int) l r y := fun l r y hl hr _ => by
      rw [aphi_s ⟨hl.1, by omega⟩, ← rphi_gcl hR]
      exact (lphi_x hW hC hR (es l r hl hr)).symm
    have hx : ∀ l r y, 0 ≤ l ∧ l < 6 → 0 ≤ r ∧ r < 99 → 0 ≤ y ∧ y < 300 → aphx (some ls) N h l r y = lphi N h (spd N) C Ln (ls.length : Int) l r y := fun l r y hl _ _ => (lphi_ax hW hC hR hl.1).symm
    refine flw_cg (ic_flw hE hL h8 hN hsp) aphi_b he (fun M => ⟨fun hh => ⟨(hh ls rfl).1, (kfl_cg (N := N) hx).mp (hh ls rfl).2⟩, fun hh ls2 e => ?_⟩)
    cases e
    exact ⟨hh.1, (kfl_cg (N := N) hx).mpr hh.2⟩
theorem mow_a (hE : E0 n K R) (hc : CC n K R NC C Ln G lw) (hN : NR N) (hg : geo N N2) (hN2 : NR N2) : MOW X LX n K R N2 h (spd N) (FIC NC C Ln lw N h) (apsi lw N2 h) := by
  cases lw with
  | none => exact mow_cg (ic_mow0 hE (hc.1 rfl)) (fun _ _ => trivial) (fun p l a d => ⟨(fun ⟨ls, e, _⟩ => nomatch e), fun hh => False.elim hh⟩)
  | some ls =>
    obtain ⟨h8, hL, hW, hC, hR⟩ := hc.2 ls rfl
    have hgg := hgeo_g hg
    have h06 := hN2.1.1
    have he : ∀ l r y, 0 ≤ l ∧ l < 6 → 0 ≤ r ∧ r < 99 → 0 ≤ y ∧ y < 300 → aphx (some ls) N h l r y = lphi N2 h (spd N) C Ln (ls.length : Int) l r y := fun l r y hl _ _ => by
      rw [← lphi_ax hW hC hR hl.1]
      unfold lphi
      rw [hg_fcts hgg]
    refine mow_cg (ic_mow hE hL h8 hN2) (fun M hh => ⟨(hh ls rfl).1, (kfl_cg (N := N) he).mp (hh ls rfl).2⟩) (fun p l a d => ?_)
    have hl := lopn_x (F := fcts N2 h l (N2 1) (N2 9) 0 p a d) hW hC hR fb_fcts
    rw [rsum_gcl hR _ (Nat.le_refl _)] at hl
    have e : ((ls.length : Int)).toNat = ls.length := by omega
    refine ⟨fun ⟨ls2, e2, hh⟩ => ?_, fun hh => ⟨ls, rfl, ?_⟩⟩
    · cases e2
      unfold rpsi at hh
      rw [e] at hh
      exact hl.mpr hh
    · unfold rpsi
      rw [e]
      exact hl.mp hh
/-- what the reference's law is -/
def LAWG (lw : Option (List lln)) (G : Int → Int) : Prop := (lw = none → G 8 = 0) ∧ ∀ ls, lw = some ls → LW ls ∧ LR ls G ∧ LG G (ls.length : Int)
noncomputable def FIR (G : Int → Int) (lw : Option (List lln)) (N h : Int → Int) : gm_M → Prop := fun M => KFR N (aphi lw N h) M ∧ ∀ j, (395 ≤ j ∨ j = 8) → M 227 j = G j
theorem flr_a (hE : E0 n K R) (hG : LAWG lw G) (hg : hgeo N N2) (hN : NR N) (hN2 : NR N2) (hS2 : NSb 6 N2) : FLR X LX n K R N2 h (FIR G lw N h) (aphi lw N h) := by
  have h06 := hN2.1.1
  have e0 := hg 0 (by decide) (by decide) (by decide)
  have e1 := hg 1 (by decide) (by decide) (by decide)
  have k12 : ∀ (φ : Int → Int → Int → Int) (M : gm_M), KFR N φ M ↔ KFR N2 φ M := fun φ M => ⟨hg_kfr hg, hg_kfr (hgeo_s hg)⟩
  cases lw with
  | none =>
    have he : ∀ l r y, 0 ≤ l ∧ l < 6 → 0 ≤ r ∧ r < 99 → 0 ≤ y ∧ y < 300 → aphi none N h l r y = rphi0 N2 l r y := fun l r y hl hr _ => by
      rw [← hg_aphi (lw := none) hg hN.2.1.1, aphi_n hl]
    exact flr_cg (re_flr0 hE hN2 hS2 (hG.1 rfl)) aphi_b (fun l r y hl hr hy => he l r y ⟨hl.1, by omega⟩ ⟨hr.1, by have := hN2.1.2.1; omega⟩ hy) (fun M => and_congr ((k12 _ M).trans (kfr_cg he)) Iff.rfl)
  | some ls =>
    obtain ⟨hW, hR, hL⟩ := hG.2 ls rfl
    have he : ∀ l r y, 0 ≤ l ∧ l < 6 → 0 ≤ r ∧ r < 99 → 0 ≤ y ∧ y < 300 → aphi (some ls) N h l r y = rphi N2 h (HH ls) G (ls.length : Int) l r y := fun l r y hl hr _ => by
      rw [← hg_aphi (lw := some ls) hg hN.2.1.1, aphi_s hl, ← rphi_gcl hR]
    exact flr_cg (re_flr hE hN2 hS2 hL (hhl_x hW hR)) aphi_b (fun l r y hl hr hy => he l r y ⟨hl.1, by omega⟩ ⟨hr.1, by have := hN2.1.2.1; omega⟩ hy) (fun M => and_congr ((k12 _ M).trans (kfr_cg he)) Iff.rfl)
theorem mor_a (hE : E0 n K R) (hG : LAWG lw G) (hN2 : NR N2) : MOR X LX n K R N2 h (FIR G lw N h) (apsi lw N2 h) := by
  cases lw with
  | none => exact mor_cg (re_mor0 hE hN2 (hG.1 rfl)) (fun _ hh => hh.2) (fun p l a d => ⟨(fun ⟨ls, e, _⟩ => nomatch e), fun hh => False.elim hh⟩)
  | some ls =>
    obtain ⟨hW, hR, hL⟩ := hG.2 ls rfl
    have e : ((ls.length : Int)).toNat = ls.length := by omega
    refine mor_cg (re_mor hE hN2 hL (hhl_x hW hR)) (fun _ hh => hh.2) (fun p l a d => ⟨fun ⟨ls2, e2, hh⟩ => ?_, fun hh => ⟨ls, rfl, ?_⟩⟩)
    · cases e2
      unfold rpsi at hh ⊢
      rw [e] at hh ⊢
      rw [rsum_gcl hR _ (Nat.le_refl _)]
      exact hh
    · unfold rpsi at hh ⊢
      rw [e] at hh ⊢
      rw [rsum_gcl hR _ (Nat.le_refl _)] at hh
      exact hh
end FI3
/-- the lines of the reference's law, bounds and all -/
theorem lg_of {ls : List lln} {W : Int → Int} (hW : LW ls) (hR : LR ls W) (h8 : W 8 = 1) (h5 : W 395 = (ls.length : Int)) (hT : jT fun j => W (395 + j)) : LG W (ls.length : Int) := by
  have h12 := hW.1
  refine ⟨⟨h8, h5, by omega, by omega⟩, fun k k0 k1 => ?_⟩
  obtain ⟨u, rfl⟩ : ∃ u : Nat, k = (u : Int) := ⟨k.toNat, by omega⟩
  obtain ⟨x, hx⟩ := lq_at (ls := ls) (k := u) (by omega)
  obtain ⟨w0, w1, w2⟩ := hW.2 u x hx
  obtain ⟨r0, r1, r2, r3⟩ := hR u x hx
  have ht := (hT (u : Int) k0 (by omega) (by show (u : Int) < W (395 + 0); rw [show (395 : Int) + 0 = 395 by decide, h5]; exact k1)).1
  have ht : 0 ≤ W (395 + (3 + 4 * (u : Int))) ∧ W (395 + (3 + 4 * (u : Int))) ≤ W (395 + (4 + 4 * (u : Int))) ∧ W (395 + (4 + 4 * (u : Int))) ≤ 400 := ht
  rw [show 395 + (3 + 4 * (u : Int)) = 396 + 4 * (u : Int) + 2 by omega, show 395 + (4 + 4 * (u : Int)) = 396 + 4 * (u : Int) + 3 by omega] at ht
  refine ⟨by rw [r0]; exact w0, by rw [r1]; split <;> omega, ht, ?_⟩
  cases hc : x.2.2 with
  | none =>
    rw [r2 hc, show (W (396 + 4 * (u : Int) + 2) - W (396 + 4 * (u : Int) + 2)).toNat = 0 by omega]
    exact ⟨by decide, by decide⟩
  | some t =>
    obtain ⟨c1, c2⟩ := r3 t hc
    have hs := w2 t hc
    rw [show (W (396 + 4 * (u : Int) + 3) - W (396 + 4 * (u : Int) + 2)).toNat = (srds t).length by omega]
    refine hok_l (srds t) _ 0 (fun j v hv => (c2 j v hv).1) ?_
    have := hokl_s t 0 1 hs [] (by decide) ⟨by decide, by decide⟩
    rw [List.append_nil] at this
    exact this
end
/-! 7c04.cv -/
section
/-! WHAT THE CLASS HOLDS, what the reference holds, of one abstract state: N told, lw the law, A remembered, im the image, t and f the TAPE, w the wrong byte. -/
noncomputable def CLV (N : Int → Int) (lw : Option (List lln)) (A : List (Int → Int)) (im : Option ((Int → Int) × Option (List lln))) (t w : Int) (f : Int → Int) (M : gm_M) : Prop := (TI N (hts (N 13)) (spd N) M ∧ HIS A M) ∧ (M 1 15 = 0 ∨ (M 1 15 = 1 ∧ ENDS N (hts (N 13)) (aphi lw N (hts (N 13))) M)) ∧ (¬ lw = none → KFL N (aphx lw N (hts (N 13))) M) ∧ ((M 1 6 = 0 ∧ im = none) ∨ (M 1 6 = 1 ∧ ∃ NI lI, im = some (NI, lI) ∧ cs M 29 = NI)) ∧ (M 1 1 = t ∧ M 1 2 = w) ∧ ∀ j, 0 ≤ j → j < 400 → M 2 j = f j
/-- the law that the reference holds -/
def LAWR (lw : Option (List lln)) (W : Int → Int) : Prop := (lw = none → W 8 = 0) ∧ ∀ ls, lw = some ls → (W 8 = 1 ∧ W 395 = (ls.length : Int)) ∧ LW ls ∧ LR ls W ∧ LRb ls W
noncomputable def RFV (N : Int → Int) (lw : Option (List lln)) (A : List (Int → Int)) (im : Option ((Int → Int) × Option (List lln))) (t w : Int) (f : Int → Int) (M : gm_M) : Prop := (TR N (hts (N 13)) M ∧ LAWR lw (M 227) ∧ HISR A (M 227 8) M) ∧ KFR N (aphi lw N (hts (N 13))) M ∧ ((M 226 5 = 0 ∧ im = none) ∨ (M 226 5 = 1 ∧ ∃ NI lI, im = some (NI, lI) ∧ ws (M 228) = NI ∧ LAWR lI (M 228))) ∧ (M 226 8 = t ∧ M 226 13 = w) ∧ ∀ j, 0 ≤ j → j < 400 → M 231 j = f j
/-- what the abstract state always is -/
def RA (N : Int → Int) (lw : Option (List lln)) (A : List (Int → Int)) (im : Option ((Int → Int) × Option (List lln))) (t w : Int) (f : Int → Int) : Prop := GJ N ∧ (∀ ls, lw = some ls → LW ls) ∧ (∀ N1 ∈ A, GJ N1 ∧ hgeo N N1) ∧ (∀ NI lI, im = some (NI, lI) → GJ NI ∧ ∀ ls, lI = some ls → LW ls) ∧ (0 ≤ t ∧ t ≤ 400) ∧ (-1 ≤ w ∧ w ≤ 400) ∧ ∀ j, 0 ≤ j → j < 400 → -128 ≤ f j ∧ f j ≤ 127
section CV4
variable {n : Nat} {K : gm_K} {R : gm_R} {M M2 : gm_M} {N N' : Int → Int} {lw : Option (List lln)} {A A' : List (Int → Int)} {im : Option ((Int → Int) × Option (List lln))} {t w : Int} {f : Int → Int}
theorem kfl_e {φ : Int → Int → Int → Int} (hk : KFL N φ M) (e6 : M2 200 6 = M 200 6) (e5 : ∀ j, M2 205 j = M 205 j) : KFL N φ M2 := by
  refine ⟨by rw [e6]; exact hk.1, fun l r y l0 l1 r0 r1 y0 y1 => ?_⟩
  rw [kv_e e6 e5]
  exact hk.2 l r y l0 l1 r0 r1 y0 y1
theorem ends_x {φ : Int → Int → Int → Int} {h : Int → Int} (he : ENDS N h φ M) (e : ∀ (k : Nat) (j : Int), k = 220 ∨ k = 221 → M2 k j = M k j) : ENDS N h φ M2 := ⟨by rw [e 220 3 (Or.inl rfl)]; exact he.1, fun l l0 l1 => by rw [e 221 _ (Or.inr rfl), e 221 _ (Or.inr rfl)]; exact he.2 l l0 l1⟩
/-- the class's cells -/
def cK (k : Nat) (j : Int) : Prop := (k = 1 ∧ (j = 1 ∨ j = 2 ∨ j = 6 ∨ j = 15)) ∨ k = 2 ∨ (3 ≤ k ∧ k ≤ 15) ∨ (29 ≤ k ∧ k ≤ 199) ∨ (k = 200 ∧ j = 6) ∨ (201 ≤ k ∧ k ≤ 203) ∨ k = 205 ∨ k = 220 ∨ k = 221
theorem clv_e (hV : CLV N lw A im t w f M) (hC : CST M2) (e : ∀ k j, cK k j → M2 k j = M k j) : CLV N lw A im t w f M2 := by
  obtain ⟨⟨hT, hH⟩, h15, hk, hi, ht, hf⟩ := hV
  have e15 : M2 1 15 = M 1 15 := e 1 15 (by unfold cK; omega)
  have e6 : M2 1 6 = M 1 6 := e 1 6 (by unfold cK; omega)
  refine ⟨⟨⟨hC, ?_, fun y y0 y1 => ?_, fun l r l0 l1 r0 r1 => ?_⟩, his_fr hH (fun x j h1 h2 => e x j (by unfold cK; omega))⟩, ?_, fun hn => kfl_e (hk hn) (e 200 6 (by unfold cK; omega)) (fun j => e 205 j (by unfold cK; omega)), ?_, ⟨?_, ?_⟩, fun j j0 j1 => ?_⟩
  · rw [← hT.2.1]
    exact cs_same fun x j h1 h2 => e x j (by unfold cK; omega)
  · rw [e 201 y (by unfold cK; omega), e 203 y (by unfold cK; omega)]
    exact hT.2.2.1 y y0 y1
  · rw [e 202 _ (by unfold cK; omega)]
    exact hT.2.2.2 l r l0 l1 r0 r1
  · rw [e15]
    exact h15.imp_right fun h => ⟨h.1, ends_x h.2 (fun k j hk => e k j (by unfold cK; omega))⟩
  · rw [e6]
    refine hi.imp_right fun ⟨h1, NI, lI, h2, h3⟩ => ⟨h1, NI, lI, h2, ?_⟩
    rw [← h3]
    exact cs_same fun x j h1 h2 => e x j (by unfold cK; omega)
  · rw [e 1 1 (by unfold cK; omega)]; exact ht.1
  · rw [e 1 2 (by unfold cK; omega)]; exact ht.2
  · rw [e 2 j (by unfold cK; omega)]; exact hf j j0 j1
/-- the reference's cells -/
def rK (k : Nat) (j : Int) : Prop := k = 227 ∨ k = 228 ∨ k = 230 ∨ k = 231 ∨ k = 234 ∨ k = 235 ∨ (k = 226 ∧ (j = 5 ∨ j = 6 ∨ j = 8 ∨ j = 13 ∨ j = 26))
theorem kfr_e {φ : Int → Int → Int → Int} (hk : KFR N φ M) (e6 : M2 226 26 = M 226 26) (e5 : ∀ j, M2 235 j = M 235 j) : KFR N φ M2 := by
  refine ⟨by rw [e6]; exact hk.1, fun j j0 j1 => by rw [e5]; exact hk.2.1 j j0 j1, fun r y => ?_⟩
  rw [e6, e5]
  exact hk.2.2 r y
theorem rfv_e (hV : RFV N lw A im t w f M) (e : ∀ k j, rK k j → M2 k j = M k j) : RFV N lw A im t w f M2 := by
  obtain ⟨⟨hT, hL, hH⟩, hk, hi, ht, hf⟩ := hV
  have e7 : M2 227 = M 227 := funext fun j => e 227 j (by unfold rK; omega)
  have e8 : M2 228 = M 228 := funext fun j => e 228 j (by unfold rK; omega)
  refine ⟨⟨⟨by rw [e7]; exact hT.1, fun y y0 y1 => ?_⟩, by rw [e7]; exact hL, ?_⟩, kfr_e hk (e 226 26 (by unfold rK; omega)) (fun j => e 235 j (by unfold rK; omega)), ?_, ⟨?_, ?_⟩, fun j j0 j1 => ?_⟩
  · rw [e 234 y (by unfold rK; omega)]
    exact hT.2 y y0 y1
  · rw [e7]
    exact hisr_e hH (e 226 6 (by unfold rK; omega)) (fun j => e 230 j (by unfold rK; omega))
  · rw [e 226 5 (by unfold rK; omega), e8]
    exact hi
  · rw [e 226 8 (by unfold rK; omega)]; exact ht.1
  · rw [e 226 13 (by unfold rK; omega)]; exact ht.2
  · rw [e 231 j (by unfold rK; omega)]; exact hf j j0 j1
/-- another valley of the same kind in the class -/
theorem clv_up (hV : CLV N lw A im t w f M) (hN : NR N) (hg : hgeo N N') (hC : CST M2) (hc : cs M2 3 = N') (hH : HIS A' M2) (h15 : M2 1 15 = 0 ∨ (M2 1 15 = 1 ∧ ENDS N' (hts (N' 13)) (aphi lw N' (hts (N' 13))) M2)) (hk : ¬ lw = none → KFL N (aphx lw N (hts (N 13))) M2) (e1 : ∀ j, j = 1 ∨ j = 2 ∨ j = 6 → M2 1 j = M 1 j) (e : ∀ (k : Nat) (j : Int), k = 2 ∨ (29 ≤ k ∧ k ≤ 41) ∨ (201 ≤ k ∧ k ≤ 203) → M2 k j = M k j) : CLV N' lw A' im t w f M2 := by
  obtain ⟨⟨hT, -⟩, -, -, hi, ht, hf⟩ := hV
  refine ⟨⟨hg_ti hN hg hT hC hc (fun k j h1 h2 => e k j (by omega)), hH⟩, h15, fun hn => ?_, ?_, ⟨?_, ?_⟩, fun j j0 j1 => ?_⟩
  · rw [hg_hts hg, hg_aphx hg hN]
    exact hg_kfl hg (hk hn)
  · rw [e1 6 (by decide)]
    refine hi.imp_right fun ⟨h1, NI, lI, h2, h3⟩ => ⟨h1, NI, lI, h2, ?_⟩
    rw [← h3]
    exact cs_same fun x j h1 h2 => e x j (by omega)
  · rw [e1 1 (by decide)]; exact ht.1
  · rw [e1 2 (by decide)]; exact ht.2
  · rw [e 2 j (by omega)]; exact hf j j0 j1
/-- another valley of the same kind in the reference -/
theorem rfv_up (hV : RFV N lw A im t w f M) (hN : NR N) (hg : hgeo N N') (hw : ws (M2 227) = N') (h395 : ∀ j, 395 ≤ j → M2 227 j = M 227 j) (h8 : M2 227 8 = M 227 8) (hH : HISR A' (M 227 8) M2) (hk : KFR N (aphi lw N (hts (N 13))) M2) (e1 : ∀ j, j = 5 ∨ j = 8 ∨ j = 13 → M2 226 j = M 226 j) (e : ∀ (k : Nat) (j : Int), k = 228 ∨ k = 231 ∨ k = 234 → M2 k j = M k j) (hb : ∀ ls, lw = some ls → ∀ k : Nat, k < ls.length → 0 ≤ M 227 (396 + 4 * (k : Int) + 2)) : RFV N' lw A' im t w f M2 := by
  obtain ⟨⟨hT, hL, -⟩, -, hi, ht, hf⟩ := hV
  have e8 : M2 228 = M 228 := funext fun j => e 228 j (by omega)
  refine ⟨⟨⟨hw, fun y y0 y1 => ?_⟩, ⟨fun hn => by rw [h8]; exact hL.1 hn, fun ls hs => ?_⟩, by rw [h8]; exact hH⟩, ?_, ?_, ⟨?_, ?_⟩, fun j j0 j1 => ?_⟩
  · rw [hg_hts hg, e 234 y (by omega)]
    exact hT.2 y y0 y1
  · obtain ⟨⟨a1, a2⟩, a3, a4, a5⟩ := hL.2 ls hs
    refine ⟨⟨by rw [h8]; exact a1, by rw [h395 395 (by decide)]; exact a2⟩, a3, fun k x hx => ?_, fun k x hx => ?_⟩
    · have hk9 := hb ls hs k (List.getElem?_eq_some_iff.mp hx).1
      obtain ⟨b0, b1, b2, b3⟩ := a4 k x hx
      rw [h395 (396 + 4 * (k : Int)) (by omega), h395 (396 + 4 * (k : Int) + 1) (by omega), h395 (396 + 4 * (k : Int) + 2) (by omega), h395 (396 + 4 * (k : Int) + 3) (by omega)]
      refine ⟨b0, b1, b2, fun t ht => ⟨(b3 t ht).1, fun j v hv => ?_⟩⟩
      rw [h395 _ (by omega), h395 _ (by omega)]
      exact (b3 t ht).2 j v hv
    · have hk9 := hb ls hs k (List.getElem?_eq_some_iff.mp hx).1
      rw [h395 (396 + 4 * (k : Int) + 2) (by omega)]
      exact a5 k x hx
  · rw [hg_hts hg, hg_aphi hg hN.2.1.1]
    exact hg_kfr hg hk
  · rw [e1 5 (by decide), e8]
    exact hi
  · rw [e1 8 (by decide)]; exact ht.1
  · rw [e1 13 (by decide)]; exact ht.2
  · rw [e 231 j (by omega)]; exact hf j j0 j1
end CV4
end
/-! 7c05.ca -/
section
/-! THE ACTS OF THE CLASS upon the abstract state. -/
/-- post: how it ends (0, or which refusal), the answer, what is told, what is remembered -/
noncomputable def ap_post (N : Int → Int) (A : List (Int → Int)) (a b : Int) : Int × Int × (Int → Int) × List (Int → Int) :=
  tif (¬ ((0 ≤ a ∧ a < N 3) ∧ (0 ≤ b ∧ b < N 3))) (1, 0, N, A) (tif (a = b) (2, 0, N, A) (tif (N 4 = 24) (3, 0, N, A) (0, N 4, nthr N a b ((N (95 + (a * 3 + 0)))) ((N (95 + (a * 3 + 1)))), (N :: A).take 12)))
noncomputable def ap_watch (N : Int → Int) (A : List (Int → Int)) (p l : Int) : Int × Int × (Int → Int) × List (Int → Int) :=
  tif (¬ ((0 ≤ p ∧ p < N 3) ∧ (l = -1 ∨ (0 ≤ l ∧ l < N 0)))) (1, 0, N, A) (0, (N (95 + (p * 3 + 2))), nwat N p l, (N :: A).take 12)
noncomputable def ap_open (lw : Option (List lln)) (N : Int → Int) (A : List (Int → Int)) (l : Int) : Int × Int × (Int → Int) × List (Int → Int) :=
  tif (¬ (0 ≤ l ∧ l < N 4)) (1, 0, N, A) (tif (¬ WTS N l (aout N (hts (N 13)) (aphi lw N (hts (N 13))) l)) (2, 0, N, A) (0, N 9 - (N (119 + (l * 7 + 3))), nopn N l ((N (119 + (l * 7 + 1)))), (N :: A).take 12))
noncomputable def ap_yrs (lw : Option (List lln)) (N : Int → Int) (y : Int) : (Int → Int) × Int := yrs (fun N2 => apsi lw N2 (hts (N 13))) (aout N (hts (N 13)) (aphi lw N (hts (N 13)))) (adp N (hts (N 13)) (aphi lw N (hts (N 13)))) (N, 0) y.toNat
noncomputable def ap_years (lw : Option (List lln)) (N : Int → Int) (A : List (Int → Int)) (y : Int) : Int × Int × (Int → Int) × List (Int → Int) :=
  tif (¬ (1 ≤ y ∧ y ≤ 50 ∧ y ≤ 299 - N 9)) (1, 0, N, A) (0, (ap_yrs lw N y).2, (ap_yrs lw N y).1, (N :: A).take 12)
/-- how the references change: not, or one more is remembered, or one less -/
def STEP (R R1 : gm_R) (M M1 : gm_M) (A A' : List (Int → Int)) : Prop := (R1 = R ∧ M1 42 1 = M 42 1 ∧ A' = A) ∨ (∃ p : Nat, p < 12 ∧ (M 42 1 = (p : Int) ∧ M1 42 1 = ((p : Int) + 1) % 12) ∧ R1 = gm_uR R (44 + 13 * p) 8 (R 3 8) ∧ ∃ N0, A' = (N0 :: A).take 12) ∨ (∃ p : Nat, p < 12 ∧ (M1 42 1 = (p : Int) ∧ M 42 1 = ((p : Int) + 1) % 12) ∧ R1 = gm_uR R 3 8 (R (44 + 13 * p) 8) ∧ ∃ N0, A = N0 :: A')
/-- what one of the law's own methods hands back -/
noncomputable def AQ (n : Nat) (K : gm_K) (R : gm_R) (M : gm_M) (r : Int × Int × (Int → Int) × List (Int → Int)) (lw : Option (List lln)) (im : Option ((Int → Int) × Option (List lln))) (t w : Int) (f : Int → Int) (A : List (Int → Int)) : gm_Q := fun o n1 K1 R1 M1 => (n1 = n ∧ K1 = K ∧ ∀ (k : Nat) (j : Int), 246 ≤ k → M1 k j = M k j) ∧ o = .inl (some (gm_vi r.1)) ∧ (r.1 = 0 → M1 245 0 = gm_w r.2.1) ∧ CLV r.2.2.1 lw r.2.2.2 im t w f M1 ∧ STEP R R1 M M1 A r.2.2.2
/-- behind a call that the law's own method makes: the answer, or which refusal -/
def hQ (l : List (Nat × Int)) (Q : gm_Q) : gm_Q := fun o n1 K1 R1 M1 => (245 ≤ n1 ∧ K1 245 = (2, 1)) ∧ ((∃ v, o = .inl (some (gm_vi v)) ∧ Q (.inl (some (gm_vi 0))) n1 K1 R1 (gm_uM M1 245 0 (gm_w v))) ∨ ∃ i ∈ l, o = .inr i.1 ∧ Q (.inl (some (gm_vi i.2))) n1 K1 R1 M1)
theorem hQ_v {l : List (Nat × Int)} {Q : gm_Q} {n1 : Nat} {K1 : gm_K} {R1 : gm_R} {M1 : gm_M} {v : Int} (hn : 245 ≤ n1) (hK : K1 245 = (2, 1)) (h : Q (.inl (some (gm_vi 0))) n1 K1 R1 (gm_uM M1 245 0 (gm_w v))) : hQ l Q (.inl (some (gm_vi v))) n1 K1 R1 M1 := ⟨⟨hn, hK⟩, Or.inl ⟨v, rfl, h⟩⟩
theorem hQ_x {l : List (Nat × Int)} {Q : gm_Q} {n1 x : Nat} {K1 : gm_K} {R1 : gm_R} {M1 : gm_M} {c : Int} (hn : 245 ≤ n1) (hK : K1 245 = (2, 1)) (hm : (x, c) ∈ l) (h : Q (.inl (some (gm_vi c))) n1 K1 R1 M1) : hQ l Q (.inr x) n1 K1 R1 M1 := ⟨⟨hn, hK⟩, Or.inr ⟨(x, c), hm, rfl, h⟩⟩
theorem hgeo_thr {N : Int → Int} {a b l r : Int} (h0 : 0 ≤ N 4) : hgeo N (nthr N a b l r) := fun i i0 i1 i2 => nthr_o ⟨i0, by omega⟩ (fun e => i2 (Or.inl e)) h0
theorem hgeo_wat {N : Int → Int} {p l : Int} (h0 : 0 ≤ p) : hgeo N (nwat N p l) := fun i i0 i1 i2 => nwat_o (by omega)
section CA5
variable {X : Int → Int} {LX d bc bs n : Nat} {K : gm_K} {R : gm_R} {M : gm_M} {N : Int → Int} {lw : Option (List lln)} {A : List (Int → Int)} {im : Option ((Int → Int) × Option (List lln))} {t w : Int} {f : Int → Int} {a b p l y : Int} {NC : Nat} {C Ln G : Int → Int}
theorem aq_0 {r : Int × Int × (Int → Int) × List (Int → Int)} {c : Int} (hr : r = (c, 0, N, A)) (hc : ¬ c = 0) (hV : CLV N lw A im t w f M) : AQ n K R M r lw im t w f A (.inl (some (gm_vi c))) n K R M := by
  subst hr
  exact ⟨⟨rfl, rfl, fun _ _ _ => rfl⟩, rfl, fun e => absurd e hc, hV, Or.inl ⟨rfl, rfl, rfl⟩⟩
theorem clv_245 {v : Int} (hV : CLV N lw A im t w f M) (hC : CST M) : CLV N lw A im t w f (gm_uM M 245 0 v) := clv_e hV (cst_fr (W := [(245, some 0)]) hC (fr_p fr_0 (Or.inr (by decide))) (by decide +kernel)) (fun k j hk => uM_ne (by unfold cK at hk; omega))
/-- post -/
theorem ca_post (hd : 12 ≤ d) (hbc : 4 ≤ bc) (hbs : 24 ≤ bs) (hE : E0 n K R) (hn : 245 ≤ n) (hK : K 245 = (2, 1)) (hG : GJ N) (hV : CLV N lw A im t w f M) (ha : gm_ir a) (hb : gm_ir b) : gm_Wp X LX d bc bs 152 0 (gm_ent 152 [gm_vr 1, gm_vi a, gm_vi b]) [] n K R M (hQ [(3, 1), (0, 2), (1, 3)] (AQ n K R M (ap_post N A a b) lw im t w f A)) := by
  have h4 := hG.1.1.2.1.2.2.2.1
  refine ac_152 hd hbc hbs hE hV.1.1 hG.1.1 hV.1.2 ha hb (fun h => ?_) (fun h1 h2 h3 => ?_) (fun h1 h2 h3 h5 => ?_) (fun h1 h2 h3 h5 p M2 hp hk hH hC hc h15 hx => ?_)
  · exact hQ_x hn hK (c := 1) (by decide) (aq_0 (tif_t h) (by decide) hV)
  · exact hQ_x hn hK (c := 2) (by decide) (aq_0 ((tif_f (fun hh => hh ⟨h1, h2⟩)).trans (tif_t h3)) (by decide) hV)
  · exact hQ_x hn hK (c := 3) (by decide) (aq_0 ((tif_f (fun hh => hh ⟨h1, h2⟩)).trans ((tif_f h3).trans (tif_t h5))) (by decide) hV)
  · refine hQ_v hn hK ?_
    have er : ap_post N A a b = (0, N 4, nthr N a b ((N (95 + (a * 3 + 0)))) ((N (95 + (a * 3 + 1)))), (N :: A).take 12) := (tif_f (fun hh => hh ⟨h1, h2⟩)).trans ((tif_f h3).trans (tif_f (by omega)))
    rw [er]
    have e1 : ∀ j, j = 1 ∨ j = 2 ∨ j = 6 → M2 1 j = M 1 j := fun j hj => hx 1 j (Or.inl (by decide)) (by decide) (by decide) (by omega)
    have e9 : ∀ (k : Nat) (j : Int), k = 2 ∨ (29 ≤ k ∧ k ≤ 41) ∨ (200 ≤ k) → M2 k j = M k j := fun k j hk => hx k j (by omega) (by omega) (by omega) (by omega)
    have hV2 := clv_up hV hG.1.1 (hgeo_thr h4.1) hC hc hH (Or.inl h15) (fun hn => kfl_e (hV.2.2.1 hn) (e9 200 6 (by omega)) (fun j => e9 205 j (by omega))) e1 (fun k j hk => e9 k j (by omega))
    exact ⟨⟨rfl, rfl, fun k j hk9 => (uM_ne (by omega)).trans (e9 k j (by omega))⟩, rfl, fun _ => uM_at, clv_245 hV2 hC, Or.inr (Or.inl ⟨p, hp, ⟨hk.1, (uM_ne (by decide)).trans hk.2⟩, rfl, N, rfl⟩)⟩
/-- watch -/
theorem ca_watch (hd : 12 ≤ d) (hbc : 4 ≤ bc) (hbs : 24 ≤ bs) (hE : E0 n K R) (hn : 245 ≤ n) (hK : K 245 = (2, 1)) (hG : GJ N) (hV : CLV N lw A im t w f M) (ha : gm_ir p) (hb : gm_ir l) : gm_Wp X LX d bc bs 156 0 (gm_ent 156 [gm_vr 1, gm_vi p, gm_vi l]) [] n K R M (hQ [(3, 1)] (AQ n K R M (ap_watch N A p l) lw im t w f A)) := by
  have h3 := hG.1.1.2.1.2.2.1
  refine ac_156 hd hbc hbs hE hV.1.1 hG.1.1 hV.1.2 ha hb (fun h => ?_) (fun h1 h2 q M2 hp hk hH hC hc hx => ?_)
  · exact hQ_x hn hK (c := 1) (by decide) (aq_0 (tif_t h) (by decide) hV)
  · refine hQ_v hn hK ?_
    have er : ap_watch N A p l = (0, (N (95 + (p * 3 + 2))), nwat N p l, (N :: A).take 12) := tif_f (fun hh => hh ⟨h1, h2⟩)
    rw [er]
    have e9 : ∀ (k : Nat) (j : Int), k = 1 ∨ k = 2 ∨ (29 ≤ k ∧ k ≤ 41) ∨ (200 ≤ k) → M2 k j = M k j := fun k j hk => hx k j (by omega) (by omega)
    have hg : geo N (nwat N p l) := geo_nwat ⟨h1.1, by omega⟩
    have h15 : M2 1 15 = 0 ∨ (M2 1 15 = 1 ∧ ENDS (nwat N p l) (hts (nwat N p l 13)) (aphi lw (nwat N p l) (hts (nwat N p l 13))) M2) := by
      rw [e9 1 15 (Or.inl rfl), hg_hts (hgeo_g hg)]
      exact hV.2.1.imp_right fun h => ⟨h.1, ends_g hg hG.1.1 (nwat_o (by omega)) h.2 (fun k j hk => e9 k j (by omega))⟩
    have hV2 := clv_up hV hG.1.1 (hgeo_g hg) hC hc hH h15 (fun hn => kfl_e (hV.2.2.1 hn) (e9 200 6 (by omega)) (fun j => e9 205 j (by omega))) (fun j _ => e9 1 j (by omega)) (fun k j hk => e9 k j (by omega))
    exact ⟨⟨rfl, rfl, fun k j hk9 => (uM_ne (by omega)).trans (e9 k j (by omega))⟩, rfl, fun _ => uM_at, clv_245 hV2 hC, Or.inr (Or.inl ⟨q, hp, ⟨hk.1, (uM_ne (by decide)).trans hk.2⟩, rfl, N, rfl⟩)⟩
/-- the class's law in what a call sees -/
def LBX (NC : Nat) (C Ln : Int → Int) (lw : Option (List lln)) (M : gm_M) : Prop := ∀ ls, lw = some ls → LB NC C Ln (ls.length : Int) M
theorem fic_of (hL : LBX NC C Ln lw M) (hV : CLV N lw A im t w f M) : FIC NC C Ln lw N (hts (N 13)) M := fun ls e => ⟨hL ls e, hV.2.2.1 (by rw [e]; exact fun hh => nomatch hh)⟩
/-- open -/
theorem ca_open (hd : 24 ≤ d) (hbc : 4 ≤ bc) (hbs : 24 ≤ bs) (hE : E0 n K R) (hn : 245 ≤ n) (hK : K 245 = (2, 1)) (hc : CC n K R NC C Ln G lw) (hL : LBX NC C Ln lw M) (hG : GJ N) (hV : CLV N lw A im t w f M) (hl : gm_ir l) : gm_Wp X LX d bc bs 158 0 (gm_ent 158 [gm_vr 1, gm_vi l]) [] n K R M (hQ [(3, 1), (2, 2)] (AQ n K R M (ap_open lw N A l) lw im t w f A)) := by
  have h4 := hG.1.1.2.1.2.2.2.1
  have ou : ∀ {o9 d9 : Int}, OUTR N (hts (N 13)) (aphi lw N (hts (N 13))) l o9 d9 → o9 = aout N (hts (N 13)) (aphi lw N (hts (N 13))) l := fun h => (OUTR_u h (aout_s l)).1
  refine ac_158 hd hbc hbs hE hV.1.1 hG.1.1 hG.1.2.2 hV.1.2 (flw_a hE hc hG.1.1 hG.1.2.1) (fic_of hL hV) hV.2.1 hl (fun h => ?_) (fun h1 o9 d9 M2 ho hw hf hI h15 he => ?_) (fun h1 o9 d9 p M1 M2 ho hw hf hI h15 he hp hk hH hC hc2 hx => ?_)
  · exact hQ_x hn hK (c := 1) (by decide) (aq_0 (tif_t h) (by decide) hV)
  · refine hQ_x hn hK (c := 2) (by decide) ?_
    rw [ou ho] at hw
    have er : ap_open lw N A l = (2, 0, N, A) := (tif_f (fun hh => hh h1)).trans (tif_t hw)
    rw [er]
    have hC2 : CST M2 := cst_fr hV.1.1.1 hf (by decide +kernel)
    have e1 : ∀ j, j = 1 ∨ j = 2 ∨ j = 6 → M2 1 j = M 1 j := fun j hj => by rcases hj with rfl | rfl | rfl <;> exact fr_j hf (by decide)
    refine ⟨⟨rfl, rfl, fun k j hk9 => hf k j (by intro hm; simp at hm; omega) (by intro hm; simp at hm; omega)⟩, rfl, fun e => absurd (show (2 : Int) = 0 from e) (by decide), ?_, Or.inl ⟨rfl, fr_c hf (by decide), rfl⟩⟩
    exact clv_up hV hG.1.1 hgeo_r hC2 ((cs_fr hf (by decide)).trans hV.1.1.2.1) (his_w hV.1.2 hf (by decide)) (Or.inr ⟨h15, he⟩) (fun hn => by
      cases hlw : lw with
      | none => exact absurd hlw hn
      | some ls => rw [← hlw]; exact (hI ls hlw).2) e1 (fun k j hk => hf k j (by intro hm; simp at hm; omega) (by intro hm; simp at hm; omega))
  · refine hQ_v hn hK ?_
    have hw9 := hw
    rw [ou ho] at hw
    have er : ap_open lw N A l = (0, N 9 - (N (119 + (l * 7 + 3))), nopn N l ((N (119 + (l * 7 + 1)))), (N :: A).take 12) := (tif_f (fun hh => hh h1)).trans (tif_f (fun hh => hh hw))
    rw [er]
    have h14 := logi_lt hG.1.1 hG.1.2.2 h1 hw.2.1
    have hl24 : 0 ≤ l ∧ l < 24 := ⟨h1.1, by omega⟩
    have hg : geo N (nopn N l ((N (119 + (l * 7 + 1))))) := geo_nopn hl24 h14
    have e1 : ∀ j, j = 1 ∨ j = 2 ∨ j = 6 → M2 1 j = M 1 j := fun j hj => (hx 1 j (Or.inl (by decide)) (by decide) (by decide) (by decide)).trans (by rcases hj with rfl | rfl | rfl <;> exact fr_j hf (by decide))
    have e9 : ∀ (k : Nat) (j : Int), (k = 1 ∧ j = 15) ∨ k = 2 ∨ (29 ≤ k ∧ k ≤ 41) ∨ (200 ≤ k) → M2 k j = M1 k j := fun k j hk => hx k j (by omega) (by omega) (by omega) (by omega)
    have h15b : M2 1 15 = 0 ∨ (M2 1 15 = 1 ∧ ENDS (nopn N l ((N (119 + (l * 7 + 1))))) (hts (nopn N l ((N (119 + (l * 7 + 1)))) 13)) (aphi lw (nopn N l ((N (119 + (l * 7 + 1))))) (hts (nopn N l ((N (119 + (l * 7 + 1)))) 13))) M2) := by
      rw [hg_hts (hgeo_g hg)]
      exact Or.inr ⟨(e9 1 15 (by decide)).trans h15, ends_g hg hG.1.1 (nopn_o ⟨by decide, by decide⟩ (by decide) hl24 h14) he (fun k j hk => e9 k j (by omega))⟩
    have hV2 := clv_up hV hG.1.1 (hgeo_g hg) hC hc2 hH h15b (fun hn => by
      cases hlw : lw with
      | none => exact absurd hlw hn
      | some ls => rw [← hlw]; exact kfl_e (hI ls hlw).2 (e9 200 6 (by omega)) (fun j => e9 205 j (by omega))) e1 (fun k j hk => (e9 k j (by omega)).trans (hf k j (by intro hm; simp at hm; omega) (by intro hm; simp at hm; omega)))
    exact ⟨⟨rfl, rfl, fun k j hk9 => (uM_ne (by omega)).trans ((e9 k j (by omega)).trans (hf k j (by intro hm; simp at hm; omega) (by intro hm; simp at hm; omega)))⟩, rfl, fun _ => uM_at, clv_245 hV2 hC, Or.inr (Or.inl ⟨p, hp, ⟨(fr_c hf (by decide)).symm.trans hk.1, (uM_ne (by decide)).trans hk.2⟩, rfl, N, rfl⟩)⟩
/-- years -/
theorem ca_years (hd : 24 ≤ d) (hbc : 4 ≤ bc) (hbs : 24 ≤ bs) (hE : E0 n K R) (hn : 245 ≤ n) (hK : K 245 = (2, 1)) (hc : CC n K R NC C Ln G lw) (hL : LBX NC C Ln lw M) (hG : GJ N) (hV : CLV N lw A im t w f M) (hy : gm_ir y) : gm_Wp X LX d bc bs 161 0 (gm_ent 161 [gm_vr 1, gm_vi y]) [] n K R M (hQ [(0, 1)] (AQ n K R M (ap_years lw N A y) lw im t w f A)) := by
  have hE2 : ∀ p : Nat, p < 12 → E0 n K (gm_uR R (44 + 13 * p) 8 (R 3 8)) := fun p hp => e0h hE hp
  have hc2 : ∀ p : Nat, p < 12 → CC n K (gm_uR R (44 + 13 * p) 8 (R 3 8)) NC C Ln G lw := fun p hp => cc_u hc (by omega) (by omega)
  refine ac_161 (Ψ := fun N2 => apsi lw N2 (hts (N 13))) (o := aout N (hts (N 13)) (aphi lw N (hts (N 13)))) (dd := adp N (hts (N 13)) (aphi lw N (hts (N 13)))) hd hbc hbs hE hV.1.1 hG.1.1 hG.1.2.2 hV.1.2 (flw_a hE hc hG.1.1 hG.1.2.1) (fic_of hL hV) hV.2.1 (fun M M2 hx hI ls e => ?_) (fun p hp => flw_a (hE2 p hp) (hc2 p hp) hG.1.1 hG.1.2.1) (fun p hp N2 hg hN2 => mow_a (hE2 p hp) (hc2 p hp) hG.1.1 hg hN2) hy (fun l _ _ => aout_s l) (fun h => ?_) (fun h p M1 M2 hp hk hH hI h15 h220 he hC hc9 hx hf => ?_)
  · obtain ⟨⟨i1, i2, i3, i4⟩, i5⟩ := hI ls e
    have e9 : ∀ (k : Nat) (j : Int), 199 < k → M2 k j = M k j := fun k j hk => hx k j (Or.inr hk)
    have e7 : M2 247 = M 247 := funext fun j => e9 247 j (by decide)
    have e8 : M2 248 = M 248 := funext fun j => e9 248 j (by decide)
    have e0 : M2 249 = M 249 := funext fun j => e9 249 j (by decide)
    refine ⟨⟨?_, fun j => (e9 247 j (by decide)).trans (i2 j), fun j => (e9 249 j (by decide)).trans (i3 j), (e9 248 3 (by decide)).trans i4⟩, kfl_e i5 (e9 200 6 (by decide)) (fun j => e9 205 j (by decide))⟩
    unfold LM at i1 ⊢
    rw [e7, e8, e0]
    exact i1
  · exact hQ_x hn hK (c := 1) (by decide) (aq_0 (tif_t h) (by decide) hV)
  · refine hQ_v hn hK ?_
    have er : ap_years lw N A y = (0, (ap_yrs lw N y).2, (ap_yrs lw N y).1, (N :: A).take 12) := tif_f (fun hh => hh h)
    rw [er]
    have hh9 : N 9 + (y.toNat : Int) ≤ 299 := by omega
    obtain ⟨-, -, hg, h4, -⟩ := yrs_i (Ψ := fun N2 => apsi lw N2 (hts (N 13))) (o := aout N (hts (N 13)) (aphi lw N (hts (N 13)))) (dd := adp N (hts (N 13)) (aphi lw N (hts (N 13)))) hG.1.1 hG.1.2.2 y.toNat hh9
    have hg : geo N (ap_yrs lw N y).1 := hg
    have h4 : (ap_yrs lw N y).1 4 = N 4 := h4
    have hc9 : cs M2 3 = (ap_yrs lw N y).1 := hc9
    have e1 : ∀ j, j = 1 ∨ j = 2 ∨ j = 6 → M2 1 j = M 1 j := fun j hj => Eq.trans (by rcases hj with rfl | rfl | rfl <;> exact fr_j hf (by decide)) (hx 1 j (Or.inl (by decide)))
    have e9 : ∀ (k : Nat) (j : Int), k = 2 ∨ (29 ≤ k ∧ k ≤ 41) ∨ (201 ≤ k ∧ k ≤ 203) ∨ 246 ≤ k → M2 k j = M k j := fun k j hk => (hf k j (by intro hm; simp at hm; omega) (by intro hm; simp at hm; omega)).trans (hx k j (by omega))
    have h15b : M2 1 15 = 0 ∨ (M2 1 15 = 1 ∧ ENDS (ap_yrs lw N y).1 (hts ((ap_yrs lw N y).1 13)) (aphi lw (ap_yrs lw N y).1 (hts ((ap_yrs lw N y).1 13))) M2) := by
      rw [hg_hts (hgeo_g hg)]
      exact Or.inr ⟨h15, ends_g hg hG.1.1 h4 ⟨h220, he⟩ (fun _ _ _ => rfl)⟩
    have hV2 := clv_up hV hG.1.1 (hgeo_g hg) hC hc9 hH h15b (fun hn => by
      cases hlw : lw with
      | none => exact absurd hlw hn
      | some ls => rw [← hlw]; exact (hI ls hlw).2) e1 (fun k j hk => e9 k j (by omega))
    exact ⟨⟨rfl, rfl, fun k j hk9 => (uM_ne (by omega)).trans (e9 k j (by omega))⟩, rfl, fun _ => uM_at, clv_245 hV2 hC, Or.inr (Or.inl ⟨p, hp, ⟨hk.1, (uM_ne (by decide)).trans hk.2⟩, rfl, N, rfl⟩)⟩
end CA5
end
/-! 7c06.cd -/
section
/-! UNDO, THE IMAGE, BACK, a text of the valley, a law: the class upon the abstract state. -/
/-- what a call on the class itself leaves -/
noncomputable def CQ (n : Nat) (K : gm_K) (M : gm_M) (o9 : gm_O) (RR : gm_R → gm_M → Prop) (N : Int → Int) (lw : Option (List lln)) (A : List (Int → Int)) (im : Option ((Int → Int) × Option (List lln))) (t w : Int) (f : Int → Int) : gm_Q := fun o n1 K1 R1 M1 => (n1 = n ∧ K1 = K ∧ ∀ (k : Nat) (j : Int), 246 ≤ k → M1 k j = M k j) ∧ o = o9 ∧ CLV N lw A im t w f M1 ∧ RR R1 M1
def ap_undo (N : Int → Int) : List (Int → Int) → Int × (Int → Int) × List (Int → Int)
  | [] => (0, N, [])
  | N0 :: A1 => (1, N0, A1)
def ap_back (N : Int → Int) (lw : Option (List lln)) (A : List (Int → Int)) : Option ((Int → Int) × Option (List lln)) → Int × (Int → Int) × Option (List lln) × List (Int → Int)
  | none => (0, N, lw, A)
  | some q => (1, q.1, q.2, [])
noncomputable def ap_valley (f : Int → Int) (t : Int) (N : Int → Int) (A : List (Int → Int)) : Int × Int × (Int → Int) × List (Int → Int) × Int :=
  tif (¬ (v_val f t N).1 = true) (1, 0, N, A, (v_val f t N).2.1) (tif (N 7 = 12) (2, 0, N, A, -1) (0, N 7 + 1, nup (v_val f t N).2.2 7 (N 7 + 1), [], -1))
/-- what the law's own method for a text of the valley hands back -/
noncomputable def VQ (n : Nat) (K : gm_K) (R : gm_R) (M : gm_M) (r : Int × Int × (Int → Int) × List (Int → Int) × Int) (lw : Option (List lln)) (im : Option ((Int → Int) × Option (List lln))) (f : Int → Int) : gm_Q := fun o n1 K1 R1 M1 => (n1 = n ∧ K1 = K ∧ ∀ (k : Nat) (j : Int), 246 ≤ k → M1 k j = M k j) ∧ o = .inl (some (gm_vi r.1)) ∧ (r.1 = 0 → M1 245 0 = gm_w r.2.1) ∧ CLV r.2.2.1 lw r.2.2.2.1 im 0 r.2.2.2.2 f M1 ∧ M1 42 1 = M 42 1 ∧ (R1 = gm_uR R 16 8 (R 3 8) ∨ R1 = gm_uR (gm_uR R 16 8 (R 3 8)) 3 8 ((gm_uR R 16 8 (R 3 8)) 16 8))
section CD6
variable {X : Int → Int} {LX d bc bs n : Nat} {K : gm_K} {R : gm_R} {M M2 : gm_M} {N NI : Int → Int} {lw lI : Option (List lln)} {A : List (Int → Int)} {im : Option ((Int → Int) × Option (List lln))} {t w : Int} {f : Int → Int}
theorem kfl_new {φ : Int → Int → Int → Int} (h : M 200 6 = 1) : KFL N φ M := by
  refine ⟨by rw [h]; decide, fun l r y _ _ _ _ _ _ => Or.inl ?_⟩
  unfold kv
  rw [h]
  rfl
theorem his_nil {nx : Int} (h0 : 0 ≤ nx ∧ nx < 12) (h1 : M 42 1 = nx) (h2 : M 42 2 = 0) : HIS [] M := ⟨nx, h0, h1, h2, by decide, fun i N1 h => by simp at h⟩
theorem his_nx (h : HIS A M) : 0 ≤ M 42 1 ∧ M 42 1 < 12 := by
  obtain ⟨nx, h0, h1, -⟩ := h
  omega
theorem ca_undo (hd : 8 ≤ d) (hE : E0 n K R) (hG : GJ N) (hA : ∀ N1 ∈ A, GJ N1 ∧ hgeo N N1) (hV : CLV N lw A im t w f M) : gm_Wp X LX d bc bs 54 0 (gm_ent 54 [gm_vr 1]) [] n K R M (CQ n K M (.inl (some (gm_vi (ap_undo N A).1))) (fun R1 M1 => STEP R R1 M M1 A (ap_undo N A).2.2) (ap_undo N A).2.1 lw (ap_undo N A).2.2 im t w f) := by
  refine ac_54 hd hE hV.1.1 hG.1.1 hV.1.2 (fun N1 h => (hA N1 h).1.1.1) (fun hA0 M2 hf h15 => ?_) (fun N0 A1 p M2 hA0 hp hk hH hC hc h15 hx => ?_)
  · subst hA0
    have hC2 : CST M2 := cst_fr hV.1.1.1 hf (by decide +kernel)
    exact ⟨⟨rfl, rfl, fun k j hk => hf k j (by intro hm; simp at hm) (by intro hm; simp at hm; omega)⟩, rfl, clv_up hV hG.1.1 hgeo_r hC2 ((cs_fr hf (by decide)).trans hV.1.1.2.1) (his_w hV.1.2 hf (by decide)) (Or.inl h15) (fun hn => kfl_e (hV.2.2.1 hn) (fr_c hf (by decide)) (fun j => fr_c hf (by decide))) (fun j hj => by rcases hj with rfl | rfl | rfl <;> exact fr_j hf (by decide)) (fun k j hk => hf k j (by intro hm; simp at hm) (by intro hm; simp at hm; omega)), Or.inl ⟨rfl, fr_c hf (by decide), rfl⟩⟩
  · subst hA0
    have hg := (hA N0 List.mem_cons_self).2
    have e9 : ∀ (k : Nat) (j : Int), (k = 1 ∧ ¬ j = 15) ∨ k = 2 ∨ (29 ≤ k ∧ k ≤ 41) ∨ (200 ≤ k) → M2 k j = M k j := fun k j hk => hx k j (by omega) (by omega)
    exact ⟨⟨rfl, rfl, fun k j hk => e9 k j (by omega)⟩, rfl, clv_up hV hG.1.1 hg hC hc hH (Or.inl h15) (fun hn => kfl_e (hV.2.2.1 hn) (e9 200 6 (by omega)) (fun j => e9 205 j (by omega))) (fun j hj => e9 1 j (by omega)) (fun k j hk => e9 k j (by omega)), Or.inr (Or.inr ⟨p, hp, hk, rfl, N0, rfl⟩)⟩
theorem ca_image (hd : 5 ≤ d) (hE : E0 n K R) (hG : GJ N) (hV : CLV N lw A im t w f M) : gm_Wp X LX d bc bs 59 0 (gm_ent 59 [gm_vr 1]) [] n K R M (CQ n K M (.inl none) (fun R1 M1 => R1 = gm_uR R 29 8 (R 3 8) ∧ M1 42 1 = M 42 1) N lw A (some (N, lw)) t w f) := by
  refine im_t59 hd hE hV.1.1 hG.1.1 (fun M2 hT hc h6 hx => ?_)
  have e9 : ∀ (k : Nat) (j : Int), ¬ (k = 1 ∧ j = 6) → k < 29 ∨ 41 < k → M2 k j = M k j := hx
  refine ⟨⟨rfl, rfl, fun k j hk => e9 k j (by omega) (by omega)⟩, rfl, ⟨⟨hT, his_fr hV.1.2 (fun x j h1 h2 => e9 x j (by omega) (by omega))⟩, ?_, fun hn => kfl_e (hV.2.2.1 hn) (e9 200 6 (by omega) (by omega)) (fun j => e9 205 j (by omega) (by omega)), Or.inr ⟨h6, N, lw, rfl, hc⟩, ⟨(e9 1 1 (by omega) (by omega)).trans hV.2.2.2.2.1.1, (e9 1 2 (by omega) (by omega)).trans hV.2.2.2.2.1.2⟩, fun j j0 j1 => (e9 2 j (by omega) (by omega)).trans (hV.2.2.2.2.2 j j0 j1)⟩, rfl, e9 42 1 (by omega) (by omega)⟩
  rw [e9 1 15 (by omega) (by omega)]
  exact hV.2.1.imp_right fun h => ⟨h.1, ends_x h.2 (fun k j hk => e9 k j (by omega) (by omega))⟩
theorem ca_back (hd : 8 ≤ d) (hE : E0 n K R) (hG : GJ N) (hI : ∀ NI lI, im = some (NI, lI) → GJ NI) (hV : CLV N lw A im t w f M) : gm_Wp X LX d bc bs 60 0 (gm_ent 60 [gm_vr 1]) [] n K R M (CQ n K M (.inl (some (gm_vi (ap_back N lw A im).1))) (fun R1 M1 => M1 42 1 = M 42 1 ∧ ((im = none ∧ R1 = R) ∨ ((∃ q, im = some q) ∧ R1 = gm_uR R 3 8 (R 29 8)))) (ap_back N lw A im).2.1 (ap_back N lw A im).2.2.1 (ap_back N lw A im).2.2.2 im t w f) := by
  rcases hV.2.2.2.1 with ⟨h6, hi⟩ | ⟨h6, NI, lI, hi, hc⟩
  · subst hi
    exact ac_60 (NI := N) hd hE hV.1.1 hG.1.1 (Or.inl h6) (fun _ => ⟨⟨rfl, rfl, fun _ _ _ => rfl⟩, rfl, hV, rfl, Or.inl ⟨rfl, rfl⟩⟩) (fun h => absurd (h6.symm.trans h) (by decide)) (fun h => absurd (h6.symm.trans h) (by decide))
  · subst hi
    have gi := hI NI lI rfl
    refine ac_60 (NI := NI) hd hE hV.1.1 hG.1.1 (Or.inr h6) (fun h => absurd (h6.symm.trans h) (by decide)) (fun _ => ⟨hc, gi.1.1, gi.1.2.1⟩) (fun _ M2 hT h200 h42 h15 hx => ?_)
    have e9 : ∀ (k : Nat) (j : Int), (k = 1 ∧ ¬ j = 15) ∨ k = 2 ∨ (16 ≤ k ∧ ¬ (201 ≤ k ∧ k ≤ 203) ∧ ¬ (k = 200 ∧ j = 6) ∧ ¬ (k = 42 ∧ j = 2)) → M2 k j = M k j := fun k j hk => hx k j (by omega) (by omega) (by omega) (by omega) (by omega) (by omega) (by omega)
    refine ⟨⟨rfl, rfl, fun k j hk => e9 k j (by omega)⟩, rfl, ⟨⟨hT, his_nil (his_nx hV.1.2) (e9 42 1 (by omega)) h42⟩, Or.inl h15, fun _ => kfl_new h200, Or.inr ⟨(e9 1 6 (by omega)).trans h6, NI, lI, rfl, ?_⟩, ⟨(e9 1 1 (by omega)).trans hV.2.2.2.2.1.1, (e9 1 2 (by omega)).trans hV.2.2.2.2.1.2⟩, fun j j0 j1 => (e9 2 j (by omega)).trans (hV.2.2.2.2.2 j j0 j1)⟩, e9 42 1 (by omega), Or.inr ⟨⟨_, rfl⟩, rfl⟩⟩
    rw [← hc]
    exact cs_same fun x j h1 h2 => e9 x j (by omega)
/-- a text of the valley -/
theorem ca_valley (hd : 14 ≤ d) (hbc : 4 ≤ bc) (hbs : 24 ≤ bs) (hE : E0 n K R) (hn : 245 ≤ n) (hK : K 245 = (2, 1)) (hF : VF f t) (hf : M 2 = f) (h4 : M 214 1 = 4) (h13 : M 213 1 = 14) (hG : GJ N) (hV : CLV N lw A im t w f M) : gm_Wp X LX d bc bs 71 0 (gm_ent 71 [gm_vr 1]) [] n K R M (hQ [(0, 1), (1, 2)] (VQ n K R M (ap_valley f t N A) lw im f)) := by
  have ht := hV.2.2.2.2.1.1
  have hsame : ∀ {M2 : gm_M} {w2 : Int}, (∀ (x : Nat) (j : Int), x < 16 ∨ 28 < x → ¬ x = 214 → ¬ (x = 1 ∧ (j = 1 ∨ j = 2)) → M2 x j = M x j) → CST M2 → cs M2 3 = N → M2 1 1 = 0 → M2 1 2 = w2 → CLV N lw A im 0 w2 f M2 := fun {M2 w2} hx hC hc h1 h2 => by
    have e9 : ∀ (k : Nat) (j : Int), (k = 1 ∧ ¬ (j = 1 ∨ j = 2)) ∨ k = 2 ∨ (29 ≤ k ∧ ¬ k = 214) → M2 k j = M k j := fun k j hk => hx k j (by omega) (by omega) (by omega)
    refine ⟨⟨hg_ti hG.1.1 hgeo_r hV.1.1 hC hc (fun k j h1 h2 => e9 k j (by omega)), his_fr hV.1.2 (fun x j h1 h2 => e9 x j (by omega))⟩, ?_, fun hn => kfl_e (hV.2.2.1 hn) (e9 200 6 (by omega)) (fun j => e9 205 j (by omega)), ?_, ⟨h1, h2⟩, fun j j0 j1 => (e9 2 j (by omega)).trans (hV.2.2.2.2.2 j j0 j1)⟩
    · rw [e9 1 15 (by omega)]
      exact hV.2.1.imp_right fun h => ⟨h.1, ends_x h.2 (fun k j hk => e9 k j (by omega))⟩
    · rw [e9 1 6 (by omega)]
      refine hV.2.2.2.1.imp_right fun ⟨h1, NI, lI, h2, h3⟩ => ⟨h1, NI, lI, h2, ?_⟩
      rw [← h3]
      exact cs_same fun x j h1 h2 => e9 x j (by omega)
  refine vy_71 hd hbc hbs hE hV.1.1.1 (by rw [hf, ht]; exact hF) h4 h13 hV.1.1.2.1 hG.1 (fun M2 hx hC hc hv h2 h1 => ?_) (fun M2 hx hC hc hv h7 h2 h1 => ?_) (fun M2 hv h7 hGI hT h200 h42 h15 h2 h1 hx => ?_)
  · rw [hf, ht] at hv h2
    have er : ap_valley f t N A = (1, 0, N, A, (v_val f t N).2.1) := tif_t hv
    rw [er]
    exact hQ_x hn hK (c := 1) (by decide) ⟨⟨rfl, rfl, fun k j hk => hx k j (by omega) (by omega) (by omega)⟩, rfl, fun e => absurd (show (1 : Int) = 0 from e) (by decide), hsame hx hC hc h1 h2, hx 42 1 (by omega) (by omega) (by omega), Or.inl rfl⟩
  · rw [hf, ht] at hv
    have er : ap_valley f t N A = (2, 0, N, A, -1) := (tif_f (fun hh => hh hv)).trans (tif_t h7)
    rw [er]
    exact hQ_x hn hK (c := 2) (by decide) ⟨⟨rfl, rfl, fun k j hk => hx k j (by omega) (by omega) (by omega)⟩, rfl, fun e => absurd (show (2 : Int) = 0 from e) (by decide), hsame hx hC hc h1 h2, hx 42 1 (by omega) (by omega) (by omega), Or.inl rfl⟩
  · rw [hf, ht] at hv hT
    have er : ap_valley f t N A = (0, N 7 + 1, nup (v_val f t N).2.2 7 (N 7 + 1), [], -1) := (tif_f (fun hh => hh hv)).trans (tif_f (by omega))
    rw [er]
    have e9 : ∀ (k : Nat) (j : Int), (k = 1 ∧ ¬ (j = 1 ∨ j = 2 ∨ j = 15)) ∨ k = 2 ∨ (29 ≤ k ∧ ¬ k = 214 ∧ ¬ (201 ≤ k ∧ k ≤ 203) ∧ ¬ (k = 200 ∧ j = 6) ∧ ¬ (k = 42 ∧ j = 2)) → M2 k j = M k j := fun k j hk => hx k j (by omega) (by omega) (by omega) (by omega) (by omega) (by omega) (by omega) (by omega)
    have hV2 : CLV (nup (v_val f t N).2.2 7 (N 7 + 1)) lw [] im 0 (-1) f M2 := by
      refine ⟨⟨hT, his_nil (his_nx hV.1.2) (e9 42 1 (by omega)) h42⟩, Or.inl h15, fun _ => kfl_new h200, ?_, ⟨h1, h2⟩, fun j j0 j1 => (e9 2 j (by omega)).trans (hV.2.2.2.2.2 j j0 j1)⟩
      rw [e9 1 6 (by omega)]
      refine hV.2.2.2.1.imp_right fun ⟨h1, NI, lI, h2, h3⟩ => ⟨h1, NI, lI, h2, ?_⟩
      rw [← h3]
      exact cs_same fun x j h1 h2 => e9 x j (by omega)
    exact hQ_v hn hK ⟨⟨rfl, rfl, fun k j hk => (uM_ne (by omega)).trans (e9 k j (by omega))⟩, rfl, fun _ => uM_at, clv_245 hV2 hT.1, (uM_ne (by decide)).trans (e9 42 1 (by omega)), Or.inr rfl⟩
/-- the codes of a right law -/
theorem scds_b {B : Nat} : ∀ (ls : List lst) (h k : Nat), shg B ls h k → ∀ c ∈ scds ls, -17 ≤ c ∧ c ≤ 999 := by
  intro ls
  induction ls with
  | nil => intro h k _ c hc; cases hc
  | cons s r ih =>
    intro h k hs c hc
    have hc : c ∈ scd s ++ scds r := hc
    have pb : ∀ {ps : List (Int × Int)}, (∀ p ∈ ps, pwf p) → c ∈ ps.map pcd → -17 ≤ c ∧ c ≤ 999 := fun {ps} hp hm => by
      obtain ⟨p, hp2, rfl⟩ := List.mem_map.mp hm
      have := hp p hp2
      unfold pwf at this
      unfold pcd
      split <;> omega
    rcases List.mem_append.mp hc with hc | hc
    · unfold scd at hc
      rcases hs with ⟨h1, -⟩ | ⟨h1, -⟩ | ⟨h1, -⟩
      · rcases h1 with ⟨h0, hw⟩ | h0 | h0
        · rw [if_pos h0] at hc
          rcases List.mem_append.mp hc with hc | hc
          · exact pb hw.1 hc
          · rcases List.mem_cons.mp hc with rfl | hc
            · decide
            · rcases List.mem_append.mp hc with hc | hc
              · exact pb hw.2.1 hc
              · rw [List.mem_singleton.mp hc]
                split <;> decide
        · rw [h0] at hc
          have hc : c ∈ [(-2 - 8 : Int)] := hc
          rw [List.mem_singleton.mp hc]
          decide
        · rw [h0] at hc
          have hc : c ∈ [(-2 - 9 : Int)] := hc
          rw [List.mem_singleton.mp hc]
          decide
      · rw [h1] at hc
        have hc : c ∈ [(-15 : Int)] := hc
        rw [List.mem_singleton.mp hc]
        decide
      · rcases h1 with h1 | h1
        · rw [h1] at hc
          have hc : c ∈ [(-16 : Int)] := hc
          rw [List.mem_singleton.mp hc]
          decide
        · rw [h1] at hc
          have hc : c ∈ [(-17 : Int)] := hc
          rw [List.mem_singleton.mp hc]
          decide
    · rcases hs with ⟨-, -, h2⟩ | ⟨-, -, h2⟩ | ⟨-, -, h2⟩
      · exact ih _ _ h2 c hc
      · exact ih _ _ h2 c hc
      · exact ih _ _ h2 c hc
theorem lb_of {ls : List lln} {us : Int} (hW : LW ls) (h8 : M 248 0 = 12 ∧ M 248 1 = 4 ∧ M 248 3 = (ls.length : Int)) (hu : 0 ≤ us ∧ us ≤ 400) (hc : cdl ls us (M 249) (M 247)) : LB us.toNat (M 247) (M 249) (ls.length : Int) M := by
  have h12 := hW.1
  refine ⟨⟨⟨h8.1, h8.2.1, by omega, by omega⟩, fun i i0 i1 => ?_, fun k k0 k1 => ?_⟩, fun _ => rfl, fun _ => rfl, h8.2.2⟩
  · obtain ⟨k, x, t, j, a1, a2, a3⟩ := hc.2.1 i i0 (by omega)
    exact scds_b t 0 1 ((hW.2 k x a1).2.2 t a2) _ (List.mem_of_getElem? a3)
  · rw [h8.2.2] at k1
    obtain ⟨u, rfl⟩ : ∃ u : Nat, k = (u : Int) := ⟨k.toNat, by omega⟩
    obtain ⟨⟨b1, b2, b3⟩, b4, b5⟩ := hc.2.2 u (by omega)
    exact ⟨b4, b5, ⟨b1, b2, by omega⟩⟩
end CD6
end
/-! 7c07.en -/
section
/-! END: of both. -/
section EN7
variable {X : Int → Int} {LX d bc bs n : Nat} {K : gm_K} {R : gm_R} {M : gm_M} {Q : gm_Q} {x : Int}
theorem ce_21 (hE : E0 n K R) (hx : gm_ir x) (ht : gm_ir (M 1 1)) (q0 : x < 0 → Q (.inl (some (gm_vi 0))) n K R (M)) (q1 : ¬ x < 0 → x ≤ (M 1 1) → Q (.inl (some (gm_vi 1))) n K R (gm_uM M 1 1 x)) (q2 : ¬ x < 0 → ¬ x ≤ (M 1 1) → Q (.inl (some (gm_vi 0))) n K R (M)) : gm_Wp X LX d bc bs 21 0 (gm_ent 21 [gm_vr 1, gm_vi x]) [] n K R M Q := by
  refine gm_sz (gm_p_load (pc := 0) (i := .iload_n 1) (sr := 0) (j := 1) (by decide +kernel) rfl rfl rfl) ?_
  refine fw_if (cc := .lt) (pc := 1) (off := 11) (by decide +kernel) (by decide) hx (fun h1 => ?_) (fun h1 => ?_)
  · have h1 : x < 0 := h1
    refine gm_sz (gm_p_const (pc := 12) (i := .iconst 0) (v := gm_vi 0) (by decide +kernel) (by decide +kernel)) ?_
    exact gm_r_int (pc := 13) (by decide +kernel) (Or.inr ⟨(by decide +kernel), Or.inl rfl⟩) (q0 h1)
  · have h1 : ¬ x < 0 := h1
    refine gm_sz (gm_p_load (pc := 4) (i := .iload_n 1) (sr := 0) (j := 1) (by decide +kernel) rfl rfl rfl) ?_
    refine gm_sz (gm_p_load (pc := 5) (i := .aload_n 0) (sr := 2) (j := 0) (by decide +kernel) rfl rfl rfl) ?_
    refine gm_sz (fw_gi (pc := 6) (ix := 13) (ci := 0) (j := 1) (x := M 1 1) (by decide +kernel) (e0k hE (k := 1) (c := 0) (by decide +kernel)) (by decide +kernel) (by decide +kernel) rfl) ?_
    refine fw_ic (cc := .le) (pc := 9) (off := 5) (by decide +kernel) (by decide) hx ht (fun h9 => ?_) (fun h9 => ?_)
    · have h9 : x ≤ (M 1 1) := h9
      refine gm_sz (gm_p_load (pc := 14) (i := .aload_n 0) (sr := 2) (j := 0) (by decide +kernel) rfl rfl rfl) ?_
      refine gm_sz (gm_p_load (pc := 15) (i := .iload_n 1) (sr := 0) (j := 1) (by decide +kernel) rfl rfl rfl) ?_
      refine gm_sz (fw_pi (pc := 16) (ix := 13) (ci := 0) (j := 1) (M' := gm_uM M 1 1 x) (by decide +kernel) (e0k hE (k := 1) (c := 0) (by decide +kernel)) (by decide +kernel) (by decide +kernel) (by decide +kernel) rfl) ?_
      refine gm_sz (gm_p_const (pc := 19) (i := .iconst 1) (v := gm_vi 1) (by decide +kernel) (by decide +kernel)) ?_
      exact gm_r_int (pc := 20) (by decide +kernel) (Or.inr ⟨(by decide +kernel), Or.inr rfl⟩) (q1 h1 h9)
    · have h9 : ¬ x ≤ (M 1 1) := h9
      refine gm_sz (gm_p_const (pc := 12) (i := .iconst 0) (v := gm_vi 0) (by decide +kernel) (by decide +kernel)) ?_
      exact gm_r_int (pc := 13) (by decide +kernel) (Or.inr ⟨(by decide +kernel), Or.inl rfl⟩) (q2 h1 h9)
theorem re_240 (hE : E0 n K R) (hx : gm_ir x) (ht : gm_ir (M 226 8)) (q0 : x < 0 → Q (.inl (some (gm_vi 0))) n K R (gm_uM M 226 0 0)) (q1 : ¬ x < 0 → x ≤ (M 226 8) → Q (.inl (some (gm_vi 1))) n K R (gm_uM (gm_uM M 226 0 0) 226 8 x)) (q2 : ¬ x < 0 → ¬ x ≤ (M 226 8) → Q (.inl (some (gm_vi 0))) n K R (gm_uM M 226 0 0)) : gm_Wp X LX d bc bs 240 0 (gm_ent 240 [gm_vr 226, gm_vi x]) [] n K R M Q := by
  refine gm_sz (gm_p_load (pc := 0) (i := .aload_n 0) (sr := 2) (j := 0) (by decide +kernel) rfl rfl rfl) ?_
  refine gm_sz (gm_p_const (pc := 1) (i := .iconst 0) (v := gm_vi 0) (by decide +kernel) (by decide +kernel)) ?_
  refine gm_sz (fw_pi (pc := 2) (ix := 3) (ci := 11) (j := 0) (M' := gm_uM M 226 0 0) (by decide +kernel) (e0k hE (k := 226) (c := 11) (by decide +kernel)) (by decide +kernel) (by decide +kernel) (by decide +kernel) rfl) ?_
  refine gm_sz (gm_p_load (pc := 5) (i := .iload_n 1) (sr := 0) (j := 1) (by decide +kernel) rfl rfl rfl) ?_
  refine fw_if (cc := .lt) (pc := 6) (off := 11) (by decide +kernel) (by decide) hx (fun h6 => ?_) (fun h6 => ?_)
  · have h6 : x < 0 := h6
    refine gm_sz (gm_p_const (pc := 17) (i := .iconst 0) (v := gm_vi 0) (by decide +kernel) (by decide +kernel)) ?_
    exact gm_r_int (pc := 18) (by decide +kernel) (Or.inr ⟨(by decide +kernel), Or.inl rfl⟩) (q0 h6)
  · have h6 : ¬ x < 0 := h6
    refine gm_sz (gm_p_load (pc := 9) (i := .iload_n 1) (sr := 0) (j := 1) (by decide +kernel) rfl rfl rfl) ?_
    refine gm_sz (gm_p_load (pc := 10) (i := .aload_n 0) (sr := 2) (j := 0) (by decide +kernel) rfl rfl rfl) ?_
    refine gm_sz (fw_gi (pc := 11) (ix := 103) (ci := 11) (j := 8) (x := M 226 8) (by decide +kernel) (e0k hE (k := 226) (c := 11) (by decide +kernel)) (by decide +kernel) (by decide +kernel) (uM_ne (by omega))) ?_
    refine fw_ic (cc := .le) (pc := 14) (off := 5) (by decide +kernel) (by decide) hx ht (fun h14 => ?_) (fun h14 => ?_)
    · have h14 : x ≤ (M 226 8) := h14
      refine gm_sz (gm_p_load (pc := 19) (i := .aload_n 0) (sr := 2) (j := 0) (by decide +kernel) rfl rfl rfl) ?_
      refine gm_sz (gm_p_load (pc := 20) (i := .iload_n 1) (sr := 0) (j := 1) (by decide +kernel) rfl rfl rfl) ?_
      refine gm_sz (fw_pi (pc := 21) (ix := 103) (ci := 11) (j := 8) (M' := gm_uM (gm_uM M 226 0 0) 226 8 x) (by decide +kernel) (e0k hE (k := 226) (c := 11) (by decide +kernel)) (by decide +kernel) (by decide +kernel) (by decide +kernel) rfl) ?_
      refine gm_sz (gm_p_const (pc := 24) (i := .iconst 1) (v := gm_vi 1) (by decide +kernel) (by decide +kernel)) ?_
      exact gm_r_int (pc := 25) (by decide +kernel) (Or.inr ⟨(by decide +kernel), Or.inr rfl⟩) (q1 h6 h14)
    · have h14 : ¬ x ≤ (M 226 8) := h14
      refine gm_sz (gm_p_const (pc := 17) (i := .iconst 0) (v := gm_vi 0) (by decide +kernel) (by decide +kernel)) ?_
      exact gm_r_int (pc := 18) (by decide +kernel) (Or.inr ⟨(by decide +kernel), Or.inl rfl⟩) (q2 h6 h14)
end EN7
end
