/-! THE REFERENCE'S law(), whole, with its lines (laid by wip/core/w4.py). -/
section W4A
variable {X : Int → Int} {LX d bc bs n : Nat} {K : gm_K} {R : gm_R} {M : gm_M} {Q : gm_Q} {f : Int → Int} {e y : Int} {N h : Int → Int}
theorem rm_fr {pt bg dp st : Int} {W : Int → Int} : fr [(226, some 9), (226, some 11), (226, some 12), (226, some 15), (227, none)] M (rm M pt bg dp st W) := by
  intro c j h1 h2
  unfold rm
  by_cases hc : c = 226
  · subst hc
    simp at h2
    rw [if_pos rfl, if_neg (by omega), if_neg (by omega), if_neg (by omega), if_neg (by omega)]
  · rw [if_neg hc, if_neg (fun hh => by subst hh; simp at h1)]
theorem rdl_LR2a {ls : List lln} {L : List (Int × Int)} {W0 W H : Int → Int} {st : Int} (h : rdl ls L W0 st W) (hs : st ≤ 400) (hl : ls.length ≤ 12) (hG : ∀ j, 396 ≤ j → j < 1244 → H j = W (j + 849)) : LR ls H := by
  intro k x hx
  have hk : k < ls.length := (List.getElem?_eq_some_iff.mp hx).1
  obtain ⟨a0, a1, a2, a3⟩ := rdl_LR h k x hx
  obtain ⟨-, -, b2, -, b4⟩ := h.2.2 k x hx
  have hst : st = (L.length : Int) := h.2.1.1
  rw [hG (396 + 4 * (k : Int)) (by omega) (by omega), hG (396 + 4 * (k : Int) + 1) (by omega) (by omega), hG (396 + 4 * (k : Int) + 2) (by omega) (by omega), hG (396 + 4 * (k : Int) + 3) (by omega) (by omega)]
  refine ⟨a0, a1, a2, fun t ht => ?_⟩
  obtain ⟨c1, c2⟩ := a3 t ht
  refine ⟨c1, fun j v hv => ?_⟩
  have hj := (List.getElem?_eq_some_iff.mp ((b4 t ht).2 j v hv)).1
  have e9 : (396 + 4 * (k : Int) + 2 + 849) = 1245 + 4 * (k : Int) + 2 := by omega
  have c3 := c2 j v hv
  have c3 : W (444 + 2 * (W (396 + 4 * (k : Int) + 2 + 849) + (j : Int)) + 849) = v.1 ∧ W (444 + 2 * (W (396 + 4 * (k : Int) + 2 + 849) + (j : Int)) + 1 + 849) = v.2 := c3
  rw [e9] at c3 ⊢
  generalize W (1245 + 4 * (k : Int) + 2) = z at b2 hj c3 ⊢
  rw [hG (444 + 2 * (z + (j : Int))) (by omega) (by omega), hG (444 + 2 * (z + (j : Int)) + 1) (by omega) (by omega)]
  exact c3
/-- where its steps lie -/
def LRb (ls : List lln) (G : Int → Int) : Prop := ∀ (k : Nat) (x : lln), ls[k]? = some x → 0 ≤ G (396 + 4 * (k : Int) + 2) ∧ ∀ t, x.2.2 = some t → ∀ (j : Nat) (v : Int × Int), (srds t)[j]? = some v → G (396 + 4 * (k : Int) + 2) + (j : Int) < 400
theorem rdl_LR2 {ls : List lln} {L : List (Int × Int)} {W0 W H : Int → Int} {st : Int} (h : rdl ls L W0 st W) (hs : st ≤ 400) (hl : ls.length ≤ 12) (hG : ∀ j, 396 ≤ j → j < 1244 → H j = W (j + 849)) : LR ls H ∧ LRb ls H := by
  refine ⟨rdl_LR2a h hs hl hG, fun k x hx => ?_⟩
  have hk : k < ls.length := (List.getElem?_eq_some_iff.mp hx).1
  obtain ⟨-, -, b2, -, b4⟩ := h.2.2 k x hx
  have hst : st = (L.length : Int) := h.2.1.1
  have e9 : (396 + 4 * (k : Int) + 2 + 849) = 1245 + 4 * (k : Int) + 2 := by omega
  rw [hG (396 + 4 * (k : Int) + 2) (by omega) (by omega), e9]
  refine ⟨b2, fun t ht j v hv => ?_⟩
  have hj := (List.getElem?_eq_some_iff.mp ((b4 t ht).2 j v hv)).1
  omega
theorem rl_243 (hd : 34 ≤ d) (hE : E0 n K R) (hF : VF f e) (hf : M 231 = f) (he : M 226 8 = e) (q1 : ∀ (W2 : Int → Int) (L2 : List (Int × Int)) (st2 : Int) M2, rdl (s_law f e) L2 (M 227) st2 W2 → 0 ≤ st2 ∧ st2 ≤ e → (g_law f e).1 = true → M2 227 = W2 → fr [(226, some 0), (226, some 10), (226, some 8), (226, some 15), (226, some 9), (226, some 11), (226, some 12), (227, none)] M M2 → M2 226 8 = 0 → M2 226 0 = 0 → Q (.inl (some (gm_vi (g_law f e).2))) n K R M2) (q0 : ∀ M2, (∀ j, j < 1245 → M2 227 j = M 227 j) → M2 226 11 = (g_law f e).2 → ¬ (g_law f e).1 = true → fr [(226, some 0), (226, some 10), (226, some 8), (226, some 15), (226, some 9), (226, some 11), (226, some 12), (227, none)] M M2 → M2 226 8 = 0 → M2 226 0 = 0 → Q (.inl (some (gm_vi (-1)))) n K R M2) : gm_Wp X LX d bc bs 243 0 (gm_ent 243 [gm_vr 226, gm_vi 0]) [] n K R M Q := by
  refine gm_sz (gm_p_load (pc := 0) (i := .aload_n 0) (sr := 2) (j := 0) (by decide +kernel) rfl rfl rfl) ?_
  refine gm_c_virt (k := 226) (ci := 11) (mj := 244) (ix := 289) (pc := 1) (as := []) (st := []) (d' := d - 1) (bc' := 0) (bs' := 0) (by decide +kernel) (by decide +kernel) (by decide +kernel) (by decide +kernel) (e0k hE (k := 226) (c := 11) (by decide +kernel)).1 (e0k hE (k := 226) (c := 11) (by decide +kernel)).2 (by decide) (by decide +kernel) (show 0 = gm_na 244 by decide +kernel) fw_c0 (show 1 ≤ gm_ml 244 by decide +kernel) (Nat.le_of_ble_eq_true rfl) (by omega) (Nat.zero_le _) (Nat.zero_le _) ?_
  refine rv_244 hE he ?_
  show gm_Wp X LX d _ _ 243 4 _ [] n K _ _ Q
  refine gm_sz (gm_p_load (pc := 4) (i := .aload_n 0) (sr := 2) (j := 0) (by decide +kernel) rfl rfl rfl) ?_
  refine gm_sz (gm_p_const (pc := 5) (i := .iconst 0) (v := gm_vi 0) (by decide +kernel) (by decide +kernel)) ?_
  refine gm_sz (fw_pi (pc := 6) (ix := 224) (ci := 11) (j := 15) (M' := gm_uM (gm_uM (gm_uM (gm_uM (gm_uM M 226 0 0) 226 10 e) 226 8 0) 226 9 0) 226 15 0) (by decide +kernel) (e0k hE (k := 226) (c := 11) (by decide +kernel)) (by decide +kernel) (by decide +kernel) (by decide +kernel) rfl) ?_
  have z9 : (gm_uM (gm_uM (gm_uM (gm_uM (gm_uM M 226 0 0) 226 10 e) 226 8 0) 226 9 0) 226 15 0) 226 9 = 0 := ((uM_ne (by omega)).trans uM_at)
  have z15 : (gm_uM (gm_uM (gm_uM (gm_uM (gm_uM M 226 0 0) 226 10 e) 226 8 0) 226 9 0) 226 15 0) 226 15 = 0 := uM_at
  have z10 : (gm_uM (gm_uM (gm_uM (gm_uM (gm_uM M 226 0 0) 226 10 e) 226 8 0) 226 9 0) 226 15 0) 226 10 = e := ((uM_ne (by omega)).trans ((uM_ne (by omega)).trans ((uM_ne (by omega)).trans uM_at)))
  have z8 : (gm_uM (gm_uM (gm_uM (gm_uM (gm_uM M 226 0 0) 226 10 e) 226 8 0) 226 9 0) 226 15 0) 226 8 = 0 := ((uM_ne (by omega)).trans ((uM_ne (by omega)).trans uM_at))
  have z0 : (gm_uM (gm_uM (gm_uM (gm_uM (gm_uM M 226 0 0) 226 10 e) 226 8 0) 226 9 0) 226 15 0) 226 0 = 0 := ((uM_ne (by omega)).trans ((uM_ne (by omega)).trans ((uM_ne (by omega)).trans ((uM_ne (by omega)).trans uM_at))))
  have z231 : (gm_uM (gm_uM (gm_uM (gm_uM (gm_uM M 226 0 0) 226 10 e) 226 8 0) 226 9 0) 226 15 0) 231 = f := (funext fun j => (uM_ne (by omega)).trans ((uM_ne (by omega)).trans ((uM_ne (by omega)).trans ((uM_ne (by omega)).trans (uM_ne (by omega)))))).trans hf
  have z227 : (gm_uM (gm_uM (gm_uM (gm_uM (gm_uM M 226 0 0) 226 10 e) 226 8 0) 226 9 0) 226 15 0) 227 = M 227 := (funext fun j => (uM_ne (by omega)).trans ((uM_ne (by omega)).trans ((uM_ne (by omega)).trans ((uM_ne (by omega)).trans (uM_ne (by omega))))))
  have zf : fr [(226, some 0), (226, some 10), (226, some 8), (226, some 15), (226, some 9), (226, some 11), (226, some 12), (227, none)] M (gm_uM (gm_uM (gm_uM (gm_uM (gm_uM M 226 0 0) 226 10 e) 226 8 0) 226 9 0) 226 15 0) := (fr_p (fr_p (fr_p (fr_p (fr_p fr_0 (Or.inr (by decide))) (Or.inr (by decide))) (Or.inr (by decide))) (Or.inr (by decide))) (Or.inr (by decide)))
  generalize (gm_uM (gm_uM (gm_uM (gm_uM (gm_uM M 226 0 0) 226 10 e) 226 8 0) 226 9 0) 226 15 0) = m5 at z9 z15 z10 z8 z0 z231 z227 zf ⊢
  have hT5 := rv_E hE hF (⟨z231, z10, z9⟩ : RW f e 0 m5)
  have ei : rm m5 0 (m5 226 11) (m5 226 12) 0 (m5 227) = m5 := by
    have a := rm_id (M := m5)
    rw [z9, z15] at a
    exact a
  rw [← ei]
  refine sr_a243 (by omega) hT5 none (fun p2 bg2 dp2 st2 W2 L2 a1 a2 a3 => ?_) (fun p2 dp2 st2 W2 a1 a2 => ?_)
  · rw [z231] at a1 a3 ⊢
    rw [z227] at a1
    exact q1 W2 L2 st2 _ a1 a2 a3 rfl (fr_t zf rm_fr (by decide)) z8 z0
  · rw [z231] at a2 ⊢
    rw [z227] at a1
    exact q0 _ a1 rfl a2 (fr_t zf rm_fr (by decide)) z8 z0
theorem cp_283 (hE : E0 n K R) (hq : gm_Wp X LX d bc bs 283 85 [some (gm_vr 226), some (gm_vi y), some (gm_vi 849)] [] n K R (cpk M 227 227 1244 395 849) Q) : ∀ (u : Nat) (k : Int), k + (u : Int) = 849 → 0 ≤ k → gm_Wp X LX d bc bs 283 52 [some (gm_vr 226), some (gm_vi y), some (gm_vi k)] [] n K R (cpk M 227 227 1244 395 k) Q := by
  intro u
  induction u with
  | zero =>
    intro k hk k0
    have ek : k = 849 := by omega
    subst ek
    refine gm_sz (gm_p_load (pc := 52) (i := .iload_n 2) (sr := 0) (j := 2) (by decide +kernel) rfl rfl rfl) ?_
    refine gm_sz (gm_p_const (pc := 53) (i := .sipush 849) (v := gm_vi 849) (by decide +kernel) (by decide +kernel)) ?_
    refine fw_ictd (cc := .ge) (pc := 56) (off := 29) (by decide +kernel) (by decide) ⟨by decide, by decide⟩ ⟨by decide, by decide⟩ (by decide) ?_
    exact hq
  | succ u ih =>
    intro k hk k0
    refine gm_sz (gm_p_load (pc := 52) (i := .iload_n 2) (sr := 0) (j := 2) (by decide +kernel) rfl rfl rfl) ?_
    refine gm_sz (gm_p_const (pc := 53) (i := .sipush 849) (v := gm_vi 849) (by decide +kernel) (by decide +kernel)) ?_
    refine fw_icf (cc := .ge) (pc := 56) (off := 29) (by decide +kernel) (by decide) ⟨by omega, by omega⟩ ⟨by decide, by decide⟩ (show ¬ 849 ≤ k by omega) ?_
    refine gm_sz (gm_p_load (pc := 59) (i := .aload_n 0) (sr := 2) (j := 0) (by decide +kernel) rfl rfl rfl) ?_
    refine gm_sz (fw_gr (pc := 60) (ix := 13) (ci := 11) (j := 1) (r := 227) (by decide +kernel) (e0k hE (k := 226) (c := 11) (by decide +kernel)) (by decide +kernel) (by decide +kernel) (e0r hE (k := 226) (j := 1) (r := 227) (by decide +kernel))) ?_
    refine gm_sz (gm_p_const (pc := 63) (i := .sipush 395) (v := gm_vi 395) (by decide +kernel) (by decide +kernel)) ?_
    refine gm_sz (gm_p_load (pc := 66) (i := .iload_n 2) (sr := 0) (j := 2) (by decide +kernel) rfl rfl rfl) ?_
    refine gm_sz (gm_p_bin (pc := 67) (i := .iadd) (f := fun x y => x + y) (by decide +kernel) rfl) ?_
    refine gm_sz (gm_p_load (pc := 68) (i := .aload_n 0) (sr := 2) (j := 0) (by decide +kernel) rfl rfl rfl) ?_
    refine gm_sz (fw_gr (pc := 69) (ix := 13) (ci := 11) (j := 1) (r := 227) (by decide +kernel) (e0k hE (k := 226) (c := 11) (by decide +kernel)) (by decide +kernel) (by decide +kernel) (e0r hE (k := 226) (j := 1) (r := 227) (by decide +kernel))) ?_
    refine gm_sz (gm_p_const (pc := 72) (i := .sipush 1244) (v := gm_vi 1244) (by decide +kernel) (by decide +kernel)) ?_
    refine gm_sz (gm_p_load (pc := 75) (i := .iload_n 2) (sr := 0) (j := 2) (by decide +kernel) rfl rfl rfl) ?_
    refine gm_sz (gm_p_bin (pc := 76) (i := .iadd) (f := fun x y => x + y) (by decide +kernel) rfl) ?_
    refine gm_sz (fw_ia (pc := 77) (k := 227) (len := 2093) (e0 := 1244 + k) (x := M 227 (1244 + k)) (by decide +kernel) (e0a hE (k := 227) (q := (0, 2093)) (by decide +kernel)).1 (e0a hE (k := 227) (q := (0, 2093)) (by decide +kernel)).2 (by decide) ⟨by omega, by omega⟩ (cpk_o (by omega))) ?_
    refine gm_sz (fw_is (pc := 78) (k := 227) (len := 2093) (e0 := 395 + k) (x := M 227 (1244 + k)) (M' := cpk M 227 227 1244 395 (k + 1)) (by decide +kernel) (e0a hE (k := 227) (q := (0, 2093)) (by decide +kernel)).1 (e0a hE (k := 227) (q := (0, 2093)) (by decide +kernel)).2 (by decide) ⟨by omega, by omega⟩ (cpk_s k0 (by omega) (congrArg (M 227) (by omega)))) ?_
    refine gm_sz (gm_p_iinc (pc := 79) (j := 2) (z := 1) (by decide +kernel) rfl) ?_
    refine gm_sz (gm_p_goto (pc := 82) (off := (-30)) (by decide +kernel) (by decide)) ?_
    exact ih (k + 1) (by omega) (by omega)
theorem cp_283z (hE : E0 n K R) (hq : gm_Wp X LX d bc bs 283 85 [some (gm_vr 226), some (gm_vi y), some (gm_vi 849)] [] n K R (cpk M 227 227 1244 395 849) Q) : gm_Wp X LX d bc bs 283 52 [some (gm_vr 226), some (gm_vi y), some (gm_vi 0)] [] n K R M Q := by
  have h9 := cp_283 hE  hq 849 0 (by omega) (Int.le_refl _)
  rw [cpk_0] at h9
  exact h9
theorem rl_283 (hd : 36 ≤ d) (hE : E0 n K R) (hF : VF f e) (hf : M 231 = f) (he : M 226 8 = e) (hT : TR N h M) (q0 : ∀ M2, fr [(226, some 13), (226, some 0), (226, some 10), (226, some 8), (226, some 15), (226, some 9), (226, some 11), (226, some 12), (227, none)] M M2 → (∀ j, j < 1244 → M2 227 j = M 227 j) → ¬ (g_law f e).1 = true → M2 226 13 = (g_law f e).2 → M2 226 8 = 0 → M2 226 0 = 1 → Q (.inl (some (gm_vi 0))) n K R M2) (hq : ∀ M2, fr [(234, none), (226, some 26), (226, some 6), (226, some 13), (226, some 0), (226, some 10), (226, some 8), (226, some 15), (226, some 9), (226, some 11), (226, some 12), (227, none)] M M2 → (g_law f e).1 = true → ((s_law f e).length ≤ 12 → LR (s_law f e) (M2 227) ∧ LRb (s_law f e) (M2 227)) → M2 227 395 = (g_law f e).2 → M2 227 8 = 1 → TR N (hts (N 13)) M2 → M2 226 13 = -1 → M2 226 8 = 0 → M2 226 0 = 0 → M2 226 6 = 0 → M2 226 26 = -1 → Q (.inl (some (gm_vi (g_law f e).2))) n K R M2) : gm_Wp X LX d bc bs 283 0 (gm_ent 283 [gm_vr 226]) [] n K R M Q := by
  have he9 := hF.1
  obtain ⟨b0, b1, b2⟩ := g_law_b (f := f) hF.1.1
  refine gm_sz (gm_p_load (pc := 0) (i := .aload_n 0) (sr := 2) (j := 0) (by decide +kernel) rfl rfl rfl) ?_
  refine gm_sz (gm_p_const (pc := 1) (i := .iconst 0) (v := gm_vi 0) (by decide +kernel) (by decide +kernel)) ?_
  refine gm_c_virt (k := 226) (ci := 11) (mj := 243) (ix := 296) (pc := 2) (as := [gm_vi 0]) (st := []) (d' := d - 1) (bc' := 0) (bs' := 0) (by decide +kernel) (by decide +kernel) (by decide +kernel) (by decide +kernel) (e0k hE (k := 226) (c := 11) (by decide +kernel)).1 (e0k hE (k := 226) (c := 11) (by decide +kernel)).2 (by decide) (by decide +kernel) (show 1 = gm_na 243 by decide +kernel) (fw_c1 fw_si) (show 2 ≤ gm_ml 243 by decide +kernel) (Nat.le_of_ble_eq_true rfl) (by omega) (Nat.zero_le _) (Nat.zero_le _) ?_
  refine rl_243 (by omega) hE hF hf he (fun W2 L2 st2 M5 hrd hst2 hg hw5 hf5 z8 z0 => ?_) (fun M5 hw5 z11 hg hf5 z8 z0 => ?_)
  · show gm_Wp X LX d _ _ 283 5 _ [gm_vi ((g_law f e).2)] n K _ _ Q
    have hg12 := b1 hg
    refine gm_sz (gm_p_stor (pc := 5) (i := .istore_n 1) (sr := 0) (j := 1) (by decide +kernel) rfl (show 2 ≤ _ from Nat.le_of_ble_eq_true rfl) rfl) ?_
    refine gm_sz (gm_p_load (pc := 6) (i := .aload_n 0) (sr := 2) (j := 0) (by decide +kernel) rfl rfl rfl) ?_
    refine gm_sz (gm_p_load (pc := 7) (i := .iload_n 1) (sr := 0) (j := 1) (by decide +kernel) rfl rfl rfl) ?_
    refine fw_if (cc := .ge) (pc := 8) (off := 10) (by decide +kernel) (by decide) ⟨by omega, by omega⟩ (fun h8 => ?_) (fun h8 => ?_)
    · have h8 : 0 ≤ ((g_law f e).2) := h8
      refine gm_sz (gm_p_const (pc := 18) (i := .iconst (-1)) (v := gm_vi (-1)) (by decide +kernel) (by decide +kernel)) ?_
      refine gm_sz (fw_pi (pc := 19) (ix := 30) (ci := 11) (j := 13) (M' := gm_uM M5 226 13 (-1)) (by decide +kernel) (e0k hE (k := 226) (c := 11) (by decide +kernel)) (by decide +kernel) (by decide +kernel) (by decide +kernel) rfl) ?_
      refine gm_sz (gm_p_load (pc := 22) (i := .aload_n 0) (sr := 2) (j := 0) (by decide +kernel) rfl rfl rfl) ?_
      refine gm_sz (gm_p_load (pc := 23) (i := .iload_n 1) (sr := 0) (j := 1) (by decide +kernel) rfl rfl rfl) ?_
      refine fw_if (cc := .ge) (pc := 24) (off := 7) (by decide +kernel) (by decide) ⟨by omega, by omega⟩ (fun h24 => ?_) (fun h24 => ?_)
      · have h24 : 0 ≤ ((g_law f e).2) := h24
        refine gm_sz (gm_p_const (pc := 31) (i := .iconst 0) (v := gm_vi 0) (by decide +kernel) (by decide +kernel)) ?_
        refine gm_sz (gm_p_const (pc := 32) (i := .iconst 1) (v := gm_vi 1) (by decide +kernel) (by decide +kernel)) ?_
        refine gm_c_virt (k := 226) (ci := 11) (mj := 282) (ix := 300) (pc := 33) (as := [gm_vi 0, gm_vi 1]) (st := []) (d' := d - 1) (bc' := 0) (bs' := 0) (by decide +kernel) (by decide +kernel) (by decide +kernel) (by decide +kernel) (e0k hE (k := 226) (c := 11) (by decide +kernel)).1 (e0k hE (k := 226) (c := 11) (by decide +kernel)).2 (by decide) (by decide +kernel) (show 2 = gm_na 282 by decide +kernel) (fw_c2 fw_si fw_si) (show 3 ≤ gm_ml 282 by decide +kernel) (Nat.le_of_ble_eq_true rfl) (by omega) (Nat.zero_le _) (Nat.zero_le _) ?_
        refine tf_0 hE ?_
        show gm_Wp X LX d _ _ 283 36 _ [gm_vi 0] n K _ _ Q
        refine fw_iftd (cc := .eq) (pc := 36) (off := 5) (by decide +kernel) (by decide) ⟨by decide, by decide⟩ (by decide) ?_
        refine gm_sz (gm_p_load (pc := 41) (i := .aload_n 0) (sr := 2) (j := 0) (by decide +kernel) rfl rfl rfl) ?_
        refine gm_sz (fw_gr (pc := 42) (ix := 13) (ci := 11) (j := 1) (r := 227) (by decide +kernel) (e0k hE (k := 226) (c := 11) (by decide +kernel)) (by decide +kernel) (by decide +kernel) (e0r hE (k := 226) (j := 1) (r := 227) (by decide +kernel))) ?_
        refine gm_sz (gm_p_const (pc := 45) (i := .sipush 1244) (v := gm_vi 1244) (by decide +kernel) (by decide +kernel)) ?_
        refine gm_sz (gm_p_load (pc := 48) (i := .iload_n 1) (sr := 0) (j := 1) (by decide +kernel) rfl rfl rfl) ?_
        refine gm_sz (fw_is (pc := 49) (k := 227) (len := 2093) (e0 := 1244) (x := (g_law f e).2) (M' := gm_uM (gm_uM M5 226 13 (-1)) 227 1244 ((g_law f e).2)) (by decide +kernel) (e0a hE (k := 227) (q := (0, 2093)) (by decide +kernel)).1 (e0a hE (k := 227) (q := (0, 2093)) (by decide +kernel)).2 (by decide) ⟨by omega, by omega⟩ rfl) ?_
        refine gm_sz (gm_p_const (pc := 50) (i := .iconst 0) (v := gm_vi 0) (by decide +kernel) (by decide +kernel)) ?_
        refine gm_sz (gm_p_stor (pc := 51) (i := .istore_n 2) (sr := 0) (j := 2) (by decide +kernel) rfl (show 3 ≤ _ from Nat.le_of_ble_eq_true rfl) rfl) ?_
        have y13 : (gm_uM (gm_uM M5 226 13 (-1)) 227 1244 ((g_law f e).2)) 226 13 = -1 := ((uM_ne (by omega)).trans uM_at)
        have y8 : (gm_uM (gm_uM M5 226 13 (-1)) 227 1244 ((g_law f e).2)) 226 8 = 0 := ((uM_ne (by omega)).trans ((uM_ne (by omega)).trans z8))
        have y0 : (gm_uM (gm_uM M5 226 13 (-1)) 227 1244 ((g_law f e).2)) 226 0 = 0 := ((uM_ne (by omega)).trans ((uM_ne (by omega)).trans z0))
        have yf : fr [(226, some 13), (226, some 0), (226, some 10), (226, some 8), (226, some 15), (226, some 9), (226, some 11), (226, some 12), (227, none)] M (gm_uM (gm_uM M5 226 13 (-1)) 227 1244 ((g_law f e).2)) := (fr_p (fr_p (fr_t fr_0 hf5 (by decide)) (Or.inr (by decide))) (Or.inl (by decide)))
        have yw : (gm_uM (gm_uM M5 226 13 (-1)) 227 1244 ((g_law f e).2)) 227 1244 = (g_law f e).2 := uM_at
        have yo : ∀ j, ¬ j = 1244 → (gm_uM (gm_uM M5 226 13 (-1)) 227 1244 ((g_law f e).2)) 227 j = W2 j := fun j hj => (uM_ne (by omega)).trans ((uM_ne (by omega)).trans (congrFun hw5 j))
        generalize (gm_uM (gm_uM M5 226 13 (-1)) 227 1244 ((g_law f e).2)) = m6 at y13 y8 y0 yf yw yo ⊢
        refine cp_283z (M := m6) (Q := Q) hE ?_
        refine gm_sz (gm_p_load (pc := 85) (i := .aload_n 0) (sr := 2) (j := 0) (by decide +kernel) rfl rfl rfl) ?_
        refine gm_sz (fw_gr (pc := 86) (ix := 13) (ci := 11) (j := 1) (r := 227) (by decide +kernel) (e0k hE (k := 226) (c := 11) (by decide +kernel)) (by decide +kernel) (by decide +kernel) (e0r hE (k := 226) (j := 1) (r := 227) (by decide +kernel))) ?_
        refine gm_sz (gm_p_const (pc := 89) (i := .bipush 8) (v := gm_vi 8) (by decide +kernel) (by decide +kernel)) ?_
        refine gm_sz (gm_p_const (pc := 91) (i := .iconst 1) (v := gm_vi 1) (by decide +kernel) (by decide +kernel)) ?_
        refine gm_sz (fw_is (pc := 92) (k := 227) (len := 2093) (e0 := 8) (x := 1) (M' := gm_uM (cpk m6 227 227 1244 395 849) 227 8 1) (by decide +kernel) (e0a hE (k := 227) (q := (0, 2093)) (by decide +kernel)).1 (e0a hE (k := 227) (q := (0, 2093)) (by decide +kernel)).2 (by decide) ⟨by omega, by omega⟩ rfl) ?_
        refine gm_sz (gm_p_load (pc := 93) (i := .aload_n 0) (sr := 2) (j := 0) (by decide +kernel) rfl rfl rfl) ?_
        refine gm_sz (gm_p_const (pc := 94) (i := .iconst 0) (v := gm_vi 0) (by decide +kernel) (by decide +kernel)) ?_
        refine gm_sz (fw_pi (pc := 95) (ix := 79) (ci := 11) (j := 6) (M' := gm_uM (gm_uM (cpk m6 227 227 1244 395 849) 227 8 1) 226 6 0) (by decide +kernel) (e0k hE (k := 226) (c := 11) (by decide +kernel)) (by decide +kernel) (by decide +kernel) (by decide +kernel) rfl) ?_
        have h98 : ws ((gm_uM (gm_uM (cpk m6 227 227 1244 395 849) 227 8 1) 226 6 0) 227) = N := by
          rw [← hT.1]
          funext i
          unfold ws
          by_cases hi : 0 ≤ i ∧ i < 395 ∧ ¬ i = 8
          · rw [if_pos hi, if_pos hi]
            exact (uM_ne (by omega)).trans ((uM_ne (by omega)).trans ((cpk_o (by omega)).trans ((yo i (by omega)).trans (hrd.1 i (by omega)))))
          · rw [if_neg hi, if_neg hi]
        refine gm_sz (gm_p_load (pc := 98) (i := .aload_n 0) (sr := 2) (j := 0) (by decide +kernel) rfl rfl rfl) ?_
        refine gm_c_virt (k := 226) (ci := 11) (mj := 235) (ix := 72) (pc := 99) (as := []) (st := []) (d' := d - 1) (bc' := 0) (bs' := 0) (by decide +kernel) (by decide +kernel) (by decide +kernel) (by decide +kernel) (e0k hE (k := 226) (c := 11) (by decide +kernel)).1 (e0k hE (k := 226) (c := 11) (by decide +kernel)).2 (by decide) (by decide +kernel) (show 0 = gm_na 235 by decide +kernel) fw_c0 (show 1 ≤ gm_ml 235 by decide +kernel) (Nat.le_of_ble_eq_true rfl) (by omega) (Nat.zero_le _) (Nat.zero_le _) ?_
        refine wa_c235 hE h98 (fun M99 hf99 hh99 h26 => ?_)
        show gm_Wp X LX d _ _ 283 102 _ [] n K _ _ Q
        refine gm_sz (gm_p_load (pc := 102) (i := .iload_n 1) (sr := 0) (j := 1) (by decide +kernel) rfl rfl rfl) ?_
        have f9 : fr [(234, none), (226, some 26), (226, some 6), (226, some 13), (226, some 0), (226, some 10), (226, some 8), (226, some 15), (226, some 9), (226, some 11), (226, some 12), (227, none)] (cpk m6 227 227 1244 395 849) M99 := (fr_t (fr_p (fr_p fr_0 (Or.inl (by decide))) (Or.inr (by decide))) hf99 (by decide))
        refine gm_r_int (pc := 103) (by decide +kernel) (Or.inl (by decide +kernel)) (hq _ (fr_t (fr_t (fr_t fr_0 yf (by decide)) cpk_fr (by decide)) f9 (by decide)) hg (fun h12 => rdl_LR2 hrd (by omega) h12 (fun j j0 j1 => ?_)) ?_ ((fr_c hf99 (by decide)).trans ((uM_ne (by omega)).trans uM_at)) ⟨(congrArg ws (funext fun j => fr_c hf99 (by decide))).trans h98, fun y9 y0 y1 => ⟨hh99 y9 y0 y1, hts_b⟩⟩ ((fr_j hf99 (by decide)).trans ((uM_ne (by omega)).trans ((uM_ne (by omega)).trans ((cpk_o (by omega)).trans y13)))) ((fr_j hf99 (by decide)).trans ((uM_ne (by omega)).trans ((uM_ne (by omega)).trans ((cpk_o (by omega)).trans y8)))) ((fr_j hf99 (by decide)).trans ((uM_ne (by omega)).trans ((uM_ne (by omega)).trans ((cpk_o (by omega)).trans y0)))) ((fr_j hf99 (by decide)).trans uM_at) h26)
        · exact (fr_c hf99 (by decide)).trans ((uM_ne (by omega)).trans ((uM_ne (by omega)).trans ((cpk_i (by omega) (by omega)).trans ((yo _ (by omega)).trans (congrArg W2 (by omega))))))
        · exact (fr_c hf99 (by decide)).trans ((uM_ne (by omega)).trans ((uM_ne (by omega)).trans ((cpk_i (by omega) (by omega)).trans yw)))
      · have h24 : ¬ 0 ≤ ((g_law f e).2) := h24
        exact absurd b0 (by omega)
    · have h8 : ¬ 0 ≤ ((g_law f e).2) := h8
      exact absurd b0 (by omega)
  · show gm_Wp X LX d _ _ 283 5 _ [gm_vi (-1)] n K _ _ Q
    have hge := b2 hg
    refine gm_sz (gm_p_stor (pc := 5) (i := .istore_n 1) (sr := 0) (j := 1) (by decide +kernel) rfl (show 2 ≤ _ from Nat.le_of_ble_eq_true rfl) rfl) ?_
    refine gm_sz (gm_p_load (pc := 6) (i := .aload_n 0) (sr := 2) (j := 0) (by decide +kernel) rfl rfl rfl) ?_
    refine gm_sz (gm_p_load (pc := 7) (i := .iload_n 1) (sr := 0) (j := 1) (by decide +kernel) rfl rfl rfl) ?_
    refine fw_iffd (cc := .ge) (pc := 8) (off := 10) (by decide +kernel) (by decide) ⟨by decide, by decide⟩ (by decide) ?_
    refine gm_sz (gm_p_load (pc := 11) (i := .aload_n 0) (sr := 2) (j := 0) (by decide +kernel) rfl rfl rfl) ?_
    refine gm_sz (fw_gi (pc := 12) (ix := 116) (ci := 11) (j := 11) (x := (g_law f e).2) (by decide +kernel) (e0k hE (k := 226) (c := 11) (by decide +kernel)) (by decide +kernel) (by decide +kernel) z11) ?_
    refine gm_sz (gm_p_goto (pc := 15) (off := 4) (by decide +kernel) (by decide)) ?_
    refine gm_sz (fw_pi (pc := 19) (ix := 30) (ci := 11) (j := 13) (M' := gm_uM M5 226 13 ((g_law f e).2)) (by decide +kernel) (e0k hE (k := 226) (c := 11) (by decide +kernel)) (by decide +kernel) (by decide +kernel) (by decide +kernel) rfl) ?_
    refine gm_sz (gm_p_load (pc := 22) (i := .aload_n 0) (sr := 2) (j := 0) (by decide +kernel) rfl rfl rfl) ?_
    refine gm_sz (gm_p_load (pc := 23) (i := .iload_n 1) (sr := 0) (j := 1) (by decide +kernel) rfl rfl rfl) ?_
    refine fw_iffd (cc := .ge) (pc := 24) (off := 7) (by decide +kernel) (by decide) ⟨by decide, by decide⟩ (by decide) ?_
    refine gm_sz (gm_p_const (pc := 27) (i := .iconst 1) (v := gm_vi 1) (by decide +kernel) (by decide +kernel)) ?_
    refine gm_sz (gm_p_goto (pc := 28) (off := 4) (by decide +kernel) (by decide)) ?_
    refine gm_sz (gm_p_const (pc := 32) (i := .iconst 1) (v := gm_vi 1) (by decide +kernel) (by decide +kernel)) ?_
    refine gm_c_virt (k := 226) (ci := 11) (mj := 282) (ix := 300) (pc := 33) (as := [gm_vi 1, gm_vi 1]) (st := []) (d' := d - 1) (bc' := 0) (bs' := 0) (by decide +kernel) (by decide +kernel) (by decide +kernel) (by decide +kernel) (e0k hE (k := 226) (c := 11) (by decide +kernel)).1 (e0k hE (k := 226) (c := 11) (by decide +kernel)).2 (by decide) (by decide +kernel) (show 2 = gm_na 282 by decide +kernel) (fw_c2 fw_si fw_si) (show 3 ≤ gm_ml 282 by decide +kernel) (Nat.le_of_ble_eq_true rfl) (by omega) (Nat.zero_le _) (Nat.zero_le _) ?_
    refine tf_1 hE ?_
    show gm_Wp X LX d _ _ 283 36 _ [gm_vi 1] n K _ _ Q
    refine fw_iffd (cc := .eq) (pc := 36) (off := 5) (by decide +kernel) (by decide) ⟨by decide, by decide⟩ (by decide) ?_
    refine gm_sz (gm_p_const (pc := 39) (i := .iconst 0) (v := gm_vi 0) (by decide +kernel) (by decide +kernel)) ?_
    exact gm_r_int (pc := 40) (by decide +kernel) (Or.inl (by decide +kernel)) (q0 _ (fr_p (fr_p (fr_t fr_0 hf5 (by decide)) (Or.inr (by decide))) (Or.inr (by decide))) (fun j hj => (uM_ne (by omega)).trans ((uM_ne (by omega)).trans (hw5 j (by omega)))) hg ((uM_ne (by omega)).trans uM_at) ((uM_ne (by omega)).trans ((uM_ne (by omega)).trans z8)) uM_at)
end W4A
