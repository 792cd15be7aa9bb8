/-! 7a34.k2brx -/
section
/-! THE REFERENCE'S READER OF A LAW, with the lines that it lays down (laid by wip/core/k2b.py out of p5's texts). -/
/-- the lines laid down so far, with their steps -/
noncomputable def rdl (ls : List lln) (L : List (Int × Int)) (W0 : Int → Int) (st : Int) (W : Int → Int) : Prop := (∀ j, j < 1245 → W j = W0 j) ∧ RL L W st W ∧ ∀ (k : Nat) (x : lln), ls[k]? = some x → W (1245 + 4 * (k : Int)) = x.1 ∧ W (1245 + 4 * (k : Int) + 1) = (if x.1 = 2 then 1 else x.2.1) ∧ 0 ≤ W (1245 + 4 * (k : Int) + 2) ∧ (x.2.2 = none → W (1245 + 4 * (k : Int) + 3) = W (1245 + 4 * (k : Int) + 2)) ∧ ∀ t, x.2.2 = some t → W (1245 + 4 * (k : Int) + 3) = W (1245 + 4 * (k : Int) + 2) + ((srds t).length : Int) ∧ ∀ (j : Nat) (v : Int × Int), (srds t)[j]? = some v → L[(W (1245 + 4 * (k : Int) + 2)).toNat + j]? = some v
theorem rdl_0 {W : Int → Int} : rdl [] [] W 0 W := ⟨fun _ _ => rfl, ⟨rfl, fun _ _ => rfl, fun i p h => by simp at h⟩, fun k x h => by simp at h⟩
section RD
variable {ls : List lln} {L L2 : List (Int × Int)} {W W0 W2 W3 : Int → Int} {st st2 ln k9 m9 m1 a x : Int} {c9 : Option (List lst)}
theorem fr_up (h : ∀ j, j < 1245 → W j = W0 j) (ha : 1245 ≤ a) (h2 : W2 = fun t9 => if t9 = a then x else W t9) : ∀ j, j < 1245 → W2 j = W0 j := by
  subst h2
  intro j hj
  show (if j = a then x else W j) = W0 j
  rw [if_neg (by omega)]
  exact h j hj
theorem rdl_add (h : rdl ls L W0 st W) (hls : ln = (ls.length : Int)) (hl : ln < 12) (hR : RL L2 W2 st2 W2) (hf : ∀ j, j < 1293 → j < 1245 + 4 * ln ∨ 1245 + 4 * ln + 4 ≤ j → W2 j = W j) (v0 : W2 (1245 + 4 * ln) = k9) (v1 : W2 (1245 + 4 * ln + 1) = (if k9 = 2 then 1 else m9)) (v2 : W2 (1245 + 4 * ln + 2) = st) (v3 : W2 (1245 + 4 * ln + 3) = st2) (c0 : c9 = none → L2 = L) (c1 : ∀ t, c9 = some t → L2 = L ++ srds t) : rdl (ls ++ [(k9, m9, c9)]) L2 W0 st2 W2 := by
  obtain ⟨h1, h2, h3⟩ := h
  have s0 : st = (L.length : Int) := h2.1
  have s2 : st2 = (L2.length : Int) := hR.1
  have hL : ∀ (i : Nat) (p : Int × Int), L[i]? = some p → L2[i]? = some p := by
    intro i p hi
    cases hc : c9 with
    | none => rw [c0 hc]; exact hi
    | some t =>
      rw [c1 t hc, List.getElem?_append_left (List.getElem?_eq_some_iff.mp hi).1]
      exact hi
  refine ⟨fun j hj => ?_, hR, fun k x hx => ?_⟩
  · rw [hf j (by omega) (Or.inl (by omega))]
    exact h1 j hj
  · by_cases hk : k < ls.length
    · rw [List.getElem?_append_left hk] at hx
      obtain ⟨a0, a1, a2, a3, a4⟩ := h3 k x hx
      rw [hf (1245 + 4 * (k : Int)) (by omega) (Or.inl (by omega)), hf (1245 + 4 * (k : Int) + 1) (by omega) (Or.inl (by omega)), hf (1245 + 4 * (k : Int) + 2) (by omega) (Or.inl (by omega)), hf (1245 + 4 * (k : Int) + 3) (by omega) (Or.inl (by omega))]
      refine ⟨a0, a1, a2, a3, fun t ht => ?_⟩
      obtain ⟨b1, b2⟩ := a4 t ht
      exact ⟨b1, fun j v hj => hL _ _ (b2 j v hj)⟩
    · rw [List.getElem?_append_right (by omega)] at hx
      have hz : k - ls.length = 0 := by
        cases hk : k - ls.length with
        | zero => rfl
        | succ q => rw [hk] at hx; simp at hx
      rw [hz] at hx
      have ex : (k9, m9, c9) = x := by simpa using hx
      subst ex
      have ek : (k : Int) = ln := by omega
      rw [ek, v0, v1, v2, v3]
      refine ⟨rfl, rfl, by omega, fun hn => ?_, fun t ht => ?_⟩
      · have hn : c9 = none := hn
        rw [s2, c0 hn, s0]
      · have ht : c9 = some t := ht
        have e2 := c1 t ht
        refine ⟨by rw [s2, e2, List.length_append, s0]; omega, fun j v hj => ?_⟩
        rw [e2, List.getElem?_append_right (by omega), show st.toNat + j - L.length = j by omega]
        exact hj
theorem rl_3 (h : rdl ls L W0 st W) (hl : 0 ≤ ln ∧ ln < 12) (h3 : W3 = fun t9 => if t9 = (1245 + (4 * ln)) + 2 then st else (fun t9 => if t9 = (1245 + (4 * ln)) + 1 then m1 else (fun t9 => if t9 = 1245 + (4 * ln) then k9 else W t9) t9) t9) : RL L W3 st W3 := by
  subst h3
  obtain ⟨-, ⟨e1, -, e3⟩, -⟩ := h
  refine ⟨e1, fun _ _ => rfl, fun i p hi => ?_⟩
  show (if 1293 + 2 * (i : Int) = (1245 + (4 * ln)) + 2 then st else if 1293 + 2 * (i : Int) = (1245 + (4 * ln)) + 1 then m1 else if 1293 + 2 * (i : Int) = 1245 + (4 * ln) then k9 else W (1293 + 2 * (i : Int))) = p.1 ∧ (if 1293 + 2 * (i : Int) + 1 = (1245 + (4 * ln)) + 2 then st else if 1293 + 2 * (i : Int) + 1 = (1245 + (4 * ln)) + 1 then m1 else if 1293 + 2 * (i : Int) + 1 = 1245 + (4 * ln) then k9 else W (1293 + 2 * (i : Int) + 1)) = p.2
  rw [if_neg (by omega), if_neg (by omega), if_neg (by omega), if_neg (by omega), if_neg (by omega), if_neg (by omega)]
  exact e3 i p hi
theorem fr_3 (h : rdl ls L W0 st W) (hl : 0 ≤ ln) (f : ∀ j, j < 1293 → W2 j = W3 j) (h3 : W3 = fun t9 => if t9 = (1245 + (4 * ln)) + 2 then st else (fun t9 => if t9 = (1245 + (4 * ln)) + 1 then m1 else (fun t9 => if t9 = 1245 + (4 * ln) then k9 else W t9) t9) t9) : ∀ j, j < 1245 → W2 j = W0 j := by
  intro j hj
  rw [f j (by omega)]
  exact fr_up (fr_up (fr_up h.1 (by omega) rfl) (by omega) rfl) (by omega) h3 j hj
theorem rdl_c {t : List lst} {W16 : Int → Int} (h : rdl ls L W0 st W) (hls : ln = (ls.length : Int)) (hl : ln < 12) (h16 : RL (L ++ srds t) W3 st2 W16) (h3 : W3 = fun t9 => if t9 = (1245 + (4 * ln)) + 2 then st else (fun t9 => if t9 = (1245 + (4 * ln)) + 1 then m1 else (fun t9 => if t9 = 1245 + (4 * ln) then k9 else W t9) t9) t9) (h2 : W2 = fun t9 => if t9 = (1245 + (4 * ln)) + 3 then st2 else W16 t9) (hm : m1 = (if k9 = 2 then 1 else m9)) : rdl (ls ++ [(k9, m9, some t)]) (L ++ srds t) W0 st2 W2 := by
  have e3 : ∀ j, W3 j = if j = (1245 + (4 * ln)) + 2 then st else if j = (1245 + (4 * ln)) + 1 then m1 else if j = 1245 + (4 * ln) then k9 else W j := fun j => by rw [h3]
  have e2 : ∀ j, W2 j = if j = (1245 + (4 * ln)) + 3 then st2 else W16 j := fun j => by rw [h2]
  refine rdl_add h hls hl ⟨h16.1, fun _ _ => rfl, fun i p hi => ?_⟩ (fun j hj hn => ?_) ?_ ?_ ?_ ?_ (fun hn => by cases hn) (fun t9 ht => by cases ht; rfl)
  · rw [e2, e2, if_neg (by omega), if_neg (by omega)]
    exact h16.2.2 i p hi
  · rw [e2, if_neg (by omega), h16.2.1 j hj, e3, if_neg (by omega), if_neg (by omega), if_neg (by omega)]
  · rw [e2, if_neg (by omega), h16.2.1 _ (by omega), e3, if_neg (by omega), if_neg (by omega), if_pos rfl]
  · rw [e2, if_neg (by omega), h16.2.1 _ (by omega), e3, if_neg (by omega), if_pos rfl]
    exact hm
  · rw [e2, if_neg (by omega), h16.2.1 _ (by omega), e3, if_pos rfl]
  · rw [e2, if_pos rfl]
theorem rdl_n (h : rdl ls L W0 st W) (hls : ln = (ls.length : Int)) (hl : ln < 12) (h2 : W2 = fun t9 => if t9 = (1245 + (4 * ln)) + 3 then st else (fun t9 => if t9 = (1245 + (4 * ln)) + 2 then st else (fun t9 => if t9 = (1245 + (4 * ln)) + 1 then m1 else (fun t9 => if t9 = 1245 + (4 * ln) then k9 else W t9) t9) t9) t9) (hm : m1 = (if k9 = 2 then 1 else m9)) : rdl (ls ++ [(k9, m9, none)]) L W0 st W2 := by
  have e2 : ∀ j, W2 j = if j = (1245 + (4 * ln)) + 3 then st else if j = (1245 + (4 * ln)) + 2 then st else if j = (1245 + (4 * ln)) + 1 then m1 else if j = 1245 + (4 * ln) then k9 else W j := fun j => by rw [h2]
  refine rdl_add h hls hl ⟨h.2.1.1, fun _ _ => rfl, fun i p hi => ?_⟩ (fun j hj hn => ?_) ?_ ?_ ?_ ?_ (fun _ => rfl) (fun t9 ht => by cases ht)
  · rw [e2, e2, if_neg (by omega), if_neg (by omega), if_neg (by omega), if_neg (by omega), if_neg (by omega), if_neg (by omega), if_neg (by omega), if_neg (by omega)]
    exact h.2.1.2.2 i p hi
  · rw [e2, if_neg (by omega), if_neg (by omega), if_neg (by omega), if_neg (by omega)]
  · rw [e2, if_neg (by omega), if_neg (by omega), if_neg (by omega), if_pos rfl]
  · rw [e2, if_neg (by omega), if_neg (by omega), if_pos rfl]
    exact hm
  · rw [e2, if_neg (by omega), if_pos rfl]
  · rw [e2, if_pos rfl]
/-- the law that was read, as the reference keeps it -/
theorem rdl_LR (h : rdl ls L W0 st W) : LR ls (fun j => W (j + 849)) := by
  intro k x hx
  obtain ⟨a0, a1, a2, a3, a4⟩ := h.2.2 k x hx
  show W (396 + 4 * (k : Int) + 849) = x.1 ∧ W (396 + 4 * (k : Int) + 1 + 849) = (if x.1 = 2 then 1 else x.2.1) ∧ (x.2.2 = none → W (396 + 4 * (k : Int) + 3 + 849) = W (396 + 4 * (k : Int) + 2 + 849)) ∧ ∀ t, x.2.2 = some t → W (396 + 4 * (k : Int) + 3 + 849) = W (396 + 4 * (k : Int) + 2 + 849) + ((srds t).length : Int) ∧ ∀ (j : Nat) (v : Int × Int), (srds t)[j]? = some v → W (444 + 2 * (W (396 + 4 * (k : Int) + 2 + 849) + (j : Int)) + 849) = v.1 ∧ W (444 + 2 * (W (396 + 4 * (k : Int) + 2 + 849) + (j : Int)) + 1 + 849) = v.2
  rw [show 396 + 4 * (k : Int) + 849 = 1245 + 4 * (k : Int) by omega, show 396 + 4 * (k : Int) + 1 + 849 = 1245 + 4 * (k : Int) + 1 by omega, show 396 + 4 * (k : Int) + 2 + 849 = 1245 + 4 * (k : Int) + 2 by omega, show 396 + 4 * (k : Int) + 3 + 849 = 1245 + 4 * (k : Int) + 3 by omega]
  refine ⟨a0, a1, a3, fun t ht => ?_⟩
  obtain ⟨b1, b2⟩ := a4 t ht
  refine ⟨b1, fun j v hj => ?_⟩
  have := h.2.1.2.2 _ v (b2 j v hj)
  rw [show (1293 : Int) + 2 * (((W (1245 + 4 * (k : Int) + 2)).toNat + j : Nat) : Int) = 444 + 2 * (W (1245 + 4 * (k : Int) + 2) + (j : Int)) + 849 by omega] at this
  rw [show (444 : Int) + 2 * (W (1245 + 4 * (k : Int) + 2) + (j : Int)) + 1 + 849 = 444 + 2 * (W (1245 + 4 * (k : Int) + 2) + (j : Int)) + 849 + 1 by omega]
  exact this
end RD
section KX2
variable {X : Int → Int} {LX d bc bs n : Nat} {K : gm_K} {R : gm_R} {M : gm_M} {Q : gm_Q} {e pt bg dp st b ln : Int} {W W0 : Int → Int} {ls : List lln} {L : List (Int × Int)}
/-- readLawLine, behind its first letters -/
theorem sr_c274 (hd : 31 ≤ d) (hE : tR n K R M e) (hl : 0 ≤ ln ∧ ln < 12) (hb : 0 ≤ b ∧ b ≤ e) (hst : 0 ≤ st ∧ st ≤ b) (hls : ln = (ls.length : Int)) (k0 : rdl ls L W0 st W) (h1 : ∀ p2 bg2 dp2 st2 W2 L2, rdl (ls ++ [s_line (M 231) e b]) L2 W0 st2 W2 → (g_line (M 231) e b).1 = true → 0 ≤ p2 ∧ p2 ≤ e → tx_g (M 231) e p2 = (g_line (M 231) e b).2 → 0 ≤ st2 ∧ st2 - st ≤ p2 - b ∧ b ≤ p2 → Q (.inl (some (gm_vi 1))) n K R (rm M p2 bg2 dp2 st2 W2)) (h0 : ∀ p2 dp2 st2 W2, (∀ j, j < 1245 → W2 j = W0 j) → ¬ (g_line (M 231) e b).1 = true → Q (.inl (some (gm_vi 0))) n K R (rm M p2 (g_line (M 231) e b).2 dp2 st2 W2)) : gm_Wp X LX d bc bs 274 0 (gm_ent 274 [gm_vr 226, gm_vi ln]) [] n K R (rm M (tx_r (tx_l (M 231)) e b) b dp st W) Q := by
  obtain ⟨-, he0, he4⟩ := tRe hE
  have hp : 0 ≤ tx_r (tx_l (M 231)) e b ∧ tx_r (tx_l (M 231)) e b ≤ e := by have := tx_rb (q := tx_l (M 231)) (e := e) _ b rfl hb.2; omega
  refine gm_sz (gm_p_const (pc := 0) (i := .sipush 1245) (v := gm_vi 1245) (by decide +kernel) (by decide +kernel)) ?_
  refine gm_sz (gm_p_const (pc := 3) (i := .iconst 4) (v := gm_vi 4) (by decide +kernel) (by decide +kernel)) ?_
  refine gm_sz (gm_p_load (pc := 4) (i := .iload_n 1) (sr := 0) (j := 1) (by decide +kernel) rfl rfl rfl) ?_
  refine gm_sz (gm_p_bin (pc := 5) (i := .imul) (f := fun x y => x * y) (by decide +kernel) rfl) ?_
  refine gm_sz (gm_p_bin (pc := 6) (i := .iadd) (f := fun x y => x + y) (by decide +kernel) rfl) ?_
  refine gm_sz (gm_p_stor (pc := 7) (i := .istore_n 2) (sr := 0) (j := 2) (by decide +kernel) rfl (show 3 ≤ _ from Nat.le_of_ble_eq_true rfl) rfl) ?_
  refine gm_sz (gm_p_load (pc := 8) (i := .aload_n 0) (sr := 2) (j := 0) (by decide +kernel) rfl rfl rfl) ?_
  refine gm_sz (fw_gr (pc := 9) (ix := 13) (ci := 11) (j := 1) (r := 227) (by decide +kernel) (tR226 hE) (by decide +kernel) (by decide +kernel) (tRr hE).1) ?_
  refine gm_sz (gm_p_load (pc := 12) (i := .iload_n 2) (sr := 0) (j := 2) (by decide +kernel) rfl rfl rfl) ?_
  refine gm_sz (gm_p_load (pc := 13) (i := .aload_n 0) (sr := 2) (j := 0) (by decide +kernel) rfl rfl rfl) ?_
  refine gm_sz (gm_p_ldcs (pc := 14) (i := .ldc_w 275) (ix := 275) (id := 59) (by decide +kernel) (Or.inr rfl) (by decide +kernel)) ?_
  refine gm_c_virt (k := 226) (ci := 11) (mj := 250) (ix := 134) (pc := 17) (as := [gm_vo 59]) (st := [gm_vi (1245 + (4 * ln)), gm_vr 227]) (d' := d - 1) (bc' := 0) (bs' := 0) (by decide +kernel) (by decide +kernel) (by decide +kernel) (by decide +kernel) (tR226 hE).1 (tR226 hE).2 (by decide) (by decide +kernel) (show 1 = gm_na 250 by decide +kernel) (fw_c1 fw_so) (show 2 ≤ gm_ml 250 by decide +kernel) (Nat.le_of_ble_eq_true rfl) (by omega) (Nat.zero_le _) (Nat.zero_le _) ?_
  refine tr_c250 (by omega) hE (by decide) (show tx_o 59 = wo_fast by decide +kernel) ⟨hb.1, (tx_rb (q := tx_l (M 231)) (e := e) _ b rfl hb.2).1, (tx_rb (q := tx_l (M 231)) (e := e) _ b rfl hb.2).2.1⟩ (fun j1 => ?_) (fun j1 => ?_)
  · show gm_Wp X LX d _ _ 274 20 _ [gm_vi 1, gm_vi (1245 + (4 * ln)), gm_vr 227] n K R _ Q
    have j1 : tx_is (M 231) e b wo_fast := (tr_is hb (by decide)).mp j1
    have q2 : tx_g (M 231) e (tx_r (tx_l (M 231)) e b) = tx_n (M 231) e b := by rw [← tx_s1 j1]; rfl
    have g4 : 0 ≤ tx_n (M 231) e b ∧ tx_n (M 231) e b ≤ e := by have := tx_nb (f := M 231) (b := b) hb.2; have := hb.1; omega
    have g3 : b + 1 ≤ tx_r (tx_l (M 231)) e b := by have := (tx_sb (f := M 231) hb.2).2.2 (g_isb j1); rwa [tx_s1 j1] at this
    refine fw_iffd (cc := .eq) (pc := 20) (off := 7) (by decide +kernel) (by decide) ⟨by decide, by decide⟩ (by decide) ?_
    refine gm_sz (gm_p_const (pc := 23) (i := .iconst 0) (v := gm_vi 0) (by decide +kernel) (by decide +kernel)) ?_
    refine gm_sz (gm_p_goto (pc := 24) (off := 32) (by decide +kernel) (by decide)) ?_
    refine gm_sz (fw_is (pc := 56) (k := 227) (len := 2093) (e0 := 1245 + (4 * ln)) (x := 0) (M' := rm M (tx_r (tx_l (M 231)) e b) b dp st (fun t9 => if t9 = 1245 + (4 * ln) then 0 else W t9)) (by decide +kernel) (tR227 hE).1 (tR227 hE).2 (by decide) ⟨by omega, by omega⟩ rm_W) ?_
    refine gm_sz (gm_p_load (pc := 57) (i := .aload_n 0) (sr := 2) (j := 0) (by decide +kernel) rfl rfl rfl) ?_
    refine gm_sz (fw_gr (pc := 58) (ix := 13) (ci := 11) (j := 1) (r := 227) (by decide +kernel) (tR226 hE) (by decide +kernel) (by decide +kernel) (tRr hE).1) ?_
    refine gm_sz (gm_p_load (pc := 61) (i := .iload_n 2) (sr := 0) (j := 2) (by decide +kernel) rfl rfl rfl) ?_
    refine gm_sz (fw_ia (pc := 62) (k := 227) (len := 2093) (e0 := 1245 + (4 * ln)) (x := 0) (by decide +kernel) (tR227 hE).1 (tR227 hE).2 (by decide) ⟨by omega, by omega⟩ (if_pos rfl)) ?_
    refine fw_iftd (cc := .ge) (pc := 63) (off := 5) (by decide +kernel) (by decide) ⟨by decide, by decide⟩ (by decide) ?_
    refine gm_sz (gm_p_load (pc := 68) (i := .aload_n 0) (sr := 2) (j := 0) (by decide +kernel) rfl rfl rfl) ?_
    refine gm_sz (fw_gr (pc := 69) (ix := 13) (ci := 11) (j := 1) (r := 227) (by decide +kernel) (tR226 hE) (by decide +kernel) (by decide +kernel) (tRr hE).1) ?_
    refine gm_sz (gm_p_load (pc := 72) (i := .iload_n 2) (sr := 0) (j := 2) (by decide +kernel) rfl rfl rfl) ?_
    refine gm_sz (gm_p_const (pc := 73) (i := .iconst 1) (v := gm_vi 1) (by decide +kernel) (by decide +kernel)) ?_
    refine gm_sz (gm_p_bin (pc := 74) (i := .iadd) (f := fun x y => x + y) (by decide +kernel) rfl) ?_
    refine gm_sz (gm_p_load (pc := 75) (i := .aload_n 0) (sr := 2) (j := 0) (by decide +kernel) rfl rfl rfl) ?_
    refine gm_sz (fw_gr (pc := 76) (ix := 13) (ci := 11) (j := 1) (r := 227) (by decide +kernel) (tR226 hE) (by decide +kernel) (by decide +kernel) (tRr hE).1) ?_
    refine gm_sz (gm_p_load (pc := 79) (i := .iload_n 2) (sr := 0) (j := 2) (by decide +kernel) rfl rfl rfl) ?_
    refine gm_sz (fw_ia (pc := 80) (k := 227) (len := 2093) (e0 := 1245 + (4 * ln)) (x := 0) (by decide +kernel) (tR227 hE).1 (tR227 hE).2 (by decide) ⟨by omega, by omega⟩ (if_pos rfl)) ?_
    refine gm_sz (gm_p_const (pc := 81) (i := .iconst 2) (v := gm_vi 2) (by decide +kernel) (by decide +kernel)) ?_
    refine fw_ictd (cc := .ne) (pc := 82) (off := 7) (by decide +kernel) (by decide) ⟨by decide, by decide⟩ ⟨by decide, by decide⟩ (by decide) ?_
    refine gm_sz (gm_p_load (pc := 89) (i := .aload_n 0) (sr := 2) (j := 0) (by decide +kernel) rfl rfl rfl) ?_
    refine gm_sz (gm_p_const (pc := 90) (i := .iconst 0) (v := gm_vi 0) (by decide +kernel) (by decide +kernel)) ?_
    refine gm_sz (gm_p_const (pc := 91) (i := .bipush 20) (v := gm_vi 20) (by decide +kernel) (by decide +kernel)) ?_
    refine gm_sz (gm_p_const (pc := 93) (i := .iconst 3) (v := gm_vi 3) (by decide +kernel) (by decide +kernel)) ?_
    refine gm_c_virt (k := 226) (ci := 11) (mj := 256) (ix := 138) (pc := 94) (as := [gm_vi 0, gm_vi 20, gm_vi 3]) (st := [gm_vi ((1245 + (4 * ln)) + 1), gm_vr 227]) (d' := d - 1) (bc' := 0) (bs' := 0) (by decide +kernel) (by decide +kernel) (by decide +kernel) (by decide +kernel) (tR226 hE).1 (tR226 hE).2 (by decide) (by decide +kernel) (show 3 = gm_na 256 by decide +kernel) (fw_c3 fw_si fw_si fw_si) (show 4 ≤ gm_ml 256 by decide +kernel) (Nat.le_of_ble_eq_true rfl) (by omega) (Nat.zero_le _) (Nat.zero_le _) ?_
    refine tr_c256 (by omega) hE (by decide) (by decide) ⟨by decide, by decide⟩ hp q2 (fun j5 => ?_) (fun j5 p6 => ?_)
    · show gm_Wp X LX d _ _ 274 97 _ [gm_vi (tx_v (M 231) e 3 (tx_n (M 231) e b)), gm_vi ((1245 + (4 * ln)) + 1), gm_vr 227] n K R _ Q
      have j5 : tx_k (M 231) e (tx_n (M 231) e b) = 258 ∧ 0 ≤ tx_v (M 231) e 3 (tx_n (M 231) e b) ∧ tx_v (M 231) e 3 (tx_n (M 231) e b) ≤ 20 := j5
      have g7 : 0 ≤ tx_s (M 231) e (tx_n (M 231) e b) ∧ tx_s (M 231) e (tx_n (M 231) e b) ≤ e := by have := tx_sb (f := M 231) g4.2; have := g4.1; omega
      have g8 : 0 ≤ tx_n (M 231) e (tx_n (M 231) e b) ∧ tx_n (M 231) e (tx_n (M 231) e b) ≤ e := by have := tx_gb (f := M 231) g7.2; have := g7.1; have h9 : tx_n (M 231) e (tx_n (M 231) e b) = tx_g (M 231) e (tx_s (M 231) e (tx_n (M 231) e b)) := rfl; omega
      have j5s := (tx_sb (f := M 231) g4.2).2.2 (tx_kne (f := M 231) (by omega))
      have j5p := (tx_gb (f := M 231) hp.2).1
      rw [q2] at j5p
      have j5v := tx_vb (f := M 231) (e := e) (m := 3) (b := tx_n (M 231) e b) (by decide)
      refine gm_sz (fw_is (pc := 97) (k := 227) (len := 2093) (e0 := (1245 + (4 * ln)) + 1) (x := tx_v (M 231) e 3 (tx_n (M 231) e b)) (M' := rm M (tx_s (M 231) e (tx_n (M 231) e b)) (tx_n (M 231) e b) dp st (fun t9 => if t9 = (1245 + (4 * ln)) + 1 then tx_v (M 231) e 3 (tx_n (M 231) e b) else (fun t9 => if t9 = 1245 + (4 * ln) then 0 else W t9) t9)) (by decide +kernel) (tR227 hE).1 (tR227 hE).2 (by decide) ⟨by omega, by omega⟩ rm_W) ?_
      refine gm_sz (gm_p_load (pc := 98) (i := .aload_n 0) (sr := 2) (j := 0) (by decide +kernel) rfl rfl rfl) ?_
      refine gm_sz (fw_gr (pc := 99) (ix := 13) (ci := 11) (j := 1) (r := 227) (by decide +kernel) (tR226 hE) (by decide +kernel) (by decide +kernel) (tRr hE).1) ?_
      refine gm_sz (gm_p_load (pc := 102) (i := .iload_n 2) (sr := 0) (j := 2) (by decide +kernel) rfl rfl rfl) ?_
      refine gm_sz (gm_p_const (pc := 103) (i := .iconst 1) (v := gm_vi 1) (by decide +kernel) (by decide +kernel)) ?_
      refine gm_sz (gm_p_bin (pc := 104) (i := .iadd) (f := fun x y => x + y) (by decide +kernel) rfl) ?_
      refine gm_sz (fw_ia (pc := 105) (k := 227) (len := 2093) (e0 := (1245 + (4 * ln)) + 1) (x := tx_v (M 231) e 3 (tx_n (M 231) e b)) (by decide +kernel) (tR227 hE).1 (tR227 hE).2 (by decide) ⟨by omega, by omega⟩ (if_pos rfl)) ?_
      refine fw_ift (cc := .ge) (pc := 106) (off := 5) (by decide +kernel) (by decide) ⟨by omega, by omega⟩ (show 0 ≤ (tx_v (M 231) e 3 (tx_n (M 231) e b)) by omega) ?_
      refine gm_sz (gm_p_load (pc := 111) (i := .aload_n 0) (sr := 2) (j := 0) (by decide +kernel) rfl rfl rfl) ?_
      refine gm_sz (fw_gr (pc := 112) (ix := 13) (ci := 11) (j := 1) (r := 227) (by decide +kernel) (tR226 hE) (by decide +kernel) (by decide +kernel) (tRr hE).1) ?_
      refine gm_sz (gm_p_load (pc := 115) (i := .iload_n 2) (sr := 0) (j := 2) (by decide +kernel) rfl rfl rfl) ?_
      refine gm_sz (gm_p_const (pc := 116) (i := .iconst 2) (v := gm_vi 2) (by decide +kernel) (by decide +kernel)) ?_
      refine gm_sz (gm_p_bin (pc := 117) (i := .iadd) (f := fun x y => x + y) (by decide +kernel) rfl) ?_
      refine gm_sz (gm_p_load (pc := 118) (i := .aload_n 0) (sr := 2) (j := 0) (by decide +kernel) rfl rfl rfl) ?_
      refine gm_sz (fw_gi (pc := 119) (ix := 224) (ci := 11) (j := 15) (x := st) (by decide +kernel) (tR226 hE) (by decide +kernel) (by decide +kernel) rfl) ?_
      refine gm_sz (fw_is (pc := 122) (k := 227) (len := 2093) (e0 := (1245 + (4 * ln)) + 2) (x := st) (M' := rm M (tx_s (M 231) e (tx_n (M 231) e b)) (tx_n (M 231) e b) dp st (fun t9 => if t9 = (1245 + (4 * ln)) + 2 then st else (fun t9 => if t9 = (1245 + (4 * ln)) + 1 then tx_v (M 231) e 3 (tx_n (M 231) e b) else (fun t9 => if t9 = 1245 + (4 * ln) then 0 else W t9) t9) t9)) (by decide +kernel) (tR227 hE).1 (tR227 hE).2 (by decide) ⟨by omega, by omega⟩ rm_W) ?_
      refine gm_sz (gm_p_load (pc := 123) (i := .aload_n 0) (sr := 2) (j := 0) (by decide +kernel) rfl rfl rfl) ?_
      refine gm_sz (gm_p_const (pc := 124) (i := .iconst 0) (v := gm_vi 0) (by decide +kernel) (by decide +kernel)) ?_
      refine gm_sz (fw_pi (pc := 125) (ix := 251) (ci := 11) (j := 12) (M' := rm M (tx_s (M 231) e (tx_n (M 231) e b)) (tx_n (M 231) e b) 0 st (fun t9 => if t9 = (1245 + (4 * ln)) + 2 then st else (fun t9 => if t9 = (1245 + (4 * ln)) + 1 then tx_v (M 231) e 3 (tx_n (M 231) e b) else (fun t9 => if t9 = 1245 + (4 * ln) then 0 else W t9) t9) t9)) (by decide +kernel) (tR226 hE) (by decide +kernel) (by decide +kernel) (by decide +kernel) rm_dp) ?_
      refine gm_sz (gm_p_load (pc := 128) (i := .aload_n 0) (sr := 2) (j := 0) (by decide +kernel) rfl rfl rfl) ?_
      refine gm_sz (gm_p_ldcs (pc := 129) (i := .ldc_w 281) (ix := 281) (id := 62) (by decide +kernel) (Or.inr rfl) (by decide +kernel)) ?_
      refine gm_c_virt (k := 226) (ci := 11) (mj := 269) (ix := 170) (pc := 132) (as := [gm_vo 62]) (st := []) (d' := d - 1) (bc' := 0) (bs' := 0) (by decide +kernel) (by decide +kernel) (by decide +kernel) (by decide +kernel) (tR226 hE).1 (tR226 hE).2 (by decide) (by decide +kernel) (show 1 = gm_na 269 by decide +kernel) (fw_c1 fw_so) (show 2 ≤ gm_ml 269 by decide +kernel) (Nat.le_of_ble_eq_true rfl) (by omega) (Nat.zero_le _) (Nat.zero_le _) ?_
      refine tr_c269 (by omega) hE (by decide) (show tx_o 62 = wo_if by decide +kernel) (by decide) g7 rfl (fun j9 => ?_) (fun j9 => ?_)
      · show gm_Wp X LX d _ _ 274 135 _ [gm_vi 1] n K R _ Q
        have j9 : tx_is (M 231) e (tx_n (M 231) e (tx_n (M 231) e b)) wo_if := j9
        have g10 : 0 ≤ tx_s (M 231) e (tx_n (M 231) e (tx_n (M 231) e b)) ∧ tx_s (M 231) e (tx_n (M 231) e (tx_n (M 231) e b)) ≤ e := by have := tx_sb (f := M 231) g8.2; have := g8.1; omega
        have g11 : 0 ≤ tx_n (M 231) e (tx_n (M 231) e (tx_n (M 231) e b)) ∧ tx_n (M 231) e (tx_n (M 231) e (tx_n (M 231) e b)) ≤ e := by have := tx_gb (f := M 231) g10.2; have := g10.1; have h9 : tx_n (M 231) e (tx_n (M 231) e (tx_n (M 231) e b)) = tx_g (M 231) e (tx_s (M 231) e (tx_n (M 231) e (tx_n (M 231) e b))) := rfl; omega
        have j9s := (tx_sb (f := M 231) g8.2).2.2 (g_isb j9)
        have j9p : tx_s (M 231) e (tx_n (M 231) e b) ≤ tx_n (M 231) e (tx_n (M 231) e b) := (tx_gb (f := M 231) g7.2).1
        refine fw_iffd (cc := .eq) (pc := 135) (off := 12) (by decide +kernel) (by decide) ⟨by decide, by decide⟩ (by decide) ?_
        refine gm_sz (gm_p_load (pc := 138) (i := .aload_n 0) (sr := 2) (j := 0) (by decide +kernel) rfl rfl rfl) ?_
        refine gm_c_virt (k := 226) (ci := 11) (mj := 275) (ix := 253) (pc := 139) (as := []) (st := []) (d' := d - 1) (bc' := 0) (bs' := 0) (by decide +kernel) (by decide +kernel) (by decide +kernel) (by decide +kernel) (tR226 hE).1 (tR226 hE).2 (by decide) (by decide +kernel) (show 0 = gm_na 275 by decide +kernel) fw_c0 (show 1 ≤ gm_ml 275 by decide +kernel) (Nat.le_of_ble_eq_true rfl) (by omega) (Nat.zero_le _) (Nat.zero_le _) ?_
        refine sr_cd hE _ _ _ _ _ _ _ _ _ _ (by omega) g10 rfl (show 0 ≤ _ ∧ _ ≤ tx_s (M 231) e (tx_n (M 231) e (tx_n (M 231) e b)) from ⟨by omega, by omega⟩) (rl_3 k0 hl rfl) (fun p13 x14 s15 W16 kW16 j17 q18b q18 t20 => ?_) (fun p13 x22 s15 W16 fW16 j17 => ?_)
        · show gm_Wp X LX d _ _ 274 142 _ [gm_vi 1] n K R _ Q
          have j17 : (g_cd (M 231) e 6 (tx_n (M 231) e (tx_n (M 231) e (tx_n (M 231) e b)))).1 = true := j17
          have t20 : 0 ≤ s15 ∧ s15 - _ ≤ p13 - tx_s (M 231) e (tx_n (M 231) e (tx_n (M 231) e b)) ∧ tx_s (M 231) e (tx_n (M 231) e (tx_n (M 231) e b)) ≤ p13 := t20
          have q18 : tx_g (M 231) e p13 = (g_cd (M 231) e 6 (tx_n (M 231) e (tx_n (M 231) e (tx_n (M 231) e b)))).2 := q18
          have g19 : 0 ≤ (g_cd (M 231) e 6 (tx_n (M 231) e (tx_n (M 231) e (tx_n (M 231) e b)))).2 ∧ (g_cd (M 231) e 6 (tx_n (M 231) e (tx_n (M 231) e (tx_n (M 231) e b)))).2 ≤ e := by have := g_cd_in (f := M 231) 6 (tx_n (M 231) e (tx_n (M 231) e (tx_n (M 231) e b))) g11.1 g11.2; have := g11.1; omega
          have i21 := (g_cd_in (f := M 231) 6 (tx_n (M 231) e (tx_n (M 231) e (tx_n (M 231) e b))) g11.1 g11.2)
          have i21 := i21.2.2 j17
          refine fw_iftd (cc := .ne) (pc := 142) (off := 5) (by decide +kernel) (by decide) ⟨by decide, by decide⟩ (by decide) ?_
          refine gm_sz (gm_p_load (pc := 147) (i := .aload_n 0) (sr := 2) (j := 0) (by decide +kernel) rfl rfl rfl) ?_
          refine gm_sz (fw_gr (pc := 148) (ix := 13) (ci := 11) (j := 1) (r := 227) (by decide +kernel) (tR226 hE) (by decide +kernel) (by decide +kernel) (tRr hE).1) ?_
          refine gm_sz (gm_p_load (pc := 151) (i := .iload_n 2) (sr := 0) (j := 2) (by decide +kernel) rfl rfl rfl) ?_
          refine gm_sz (gm_p_const (pc := 152) (i := .iconst 3) (v := gm_vi 3) (by decide +kernel) (by decide +kernel)) ?_
          refine gm_sz (gm_p_bin (pc := 153) (i := .iadd) (f := fun x y => x + y) (by decide +kernel) rfl) ?_
          refine gm_sz (gm_p_load (pc := 154) (i := .aload_n 0) (sr := 2) (j := 0) (by decide +kernel) rfl rfl rfl) ?_
          refine gm_sz (fw_gi (pc := 155) (ix := 224) (ci := 11) (j := 15) (x := s15) (by decide +kernel) (tR226 hE) (by decide +kernel) (by decide +kernel) rfl) ?_
          refine gm_sz (fw_is (pc := 158) (k := 227) (len := 2093) (e0 := (1245 + (4 * ln)) + 3) (x := s15) (M' := rm M p13 x14 0 s15 (fun t9 => if t9 = (1245 + (4 * ln)) + 3 then s15 else W16 t9)) (by decide +kernel) (tR227 hE).1 (tR227 hE).2 (by decide) ⟨by omega, by omega⟩ rm_W) ?_
          refine gm_sz (gm_p_const (pc := 159) (i := .iconst 1) (v := gm_vi 1) (by decide +kernel) (by decide +kernel)) ?_
          rw [g_n2 (Or.inl j1) j5, g_f1 j9] at h1
          rw [s_n2 j1, s_f1 j9] at h1
          exact gm_r_int (pc := 160) (by decide +kernel) (Or.inr ⟨(by decide +kernel), Or.inr rfl⟩) (h1 _ _ _ _ _ _ (rdl_c k0 hls hl.2 kW16 rfl rfl (if_neg (by decide)).symm) j17 q18b q18 ⟨by omega, by omega, by omega⟩)
        · show gm_Wp X LX d _ _ 274 142 _ [gm_vi 0] n K R _ Q
          have j17 : ¬ (g_cd (M 231) e 6 (tx_n (M 231) e (tx_n (M 231) e (tx_n (M 231) e b)))).1 = true := j17
          have g19 : 0 ≤ (g_cd (M 231) e 6 (tx_n (M 231) e (tx_n (M 231) e (tx_n (M 231) e b)))).2 ∧ (g_cd (M 231) e 6 (tx_n (M 231) e (tx_n (M 231) e (tx_n (M 231) e b)))).2 ≤ e := by have := g_cd_in (f := M 231) 6 (tx_n (M 231) e (tx_n (M 231) e (tx_n (M 231) e b))) g11.1 g11.2; have := g11.1; omega
          refine fw_iffd (cc := .ne) (pc := 142) (off := 5) (by decide +kernel) (by decide) ⟨by decide, by decide⟩ (by decide) ?_
          refine gm_sz (gm_p_const (pc := 145) (i := .iconst 0) (v := gm_vi 0) (by decide +kernel) (by decide +kernel)) ?_
          rw [g_n2 (Or.inl j1) j5, g_f1 j9] at h0
          exact gm_r_int (pc := 146) (by decide +kernel) (Or.inr ⟨(by decide +kernel), Or.inl rfl⟩) (h0 _ _ _ _ (fr_3 k0 hl.1 fW16 rfl) j17)
      · show gm_Wp X LX d _ _ 274 135 _ [gm_vi 0] n K R _ Q
        have j9 : ¬ tx_is (M 231) e (tx_n (M 231) e (tx_n (M 231) e b)) wo_if := j9
        have q12 : tx_g (M 231) e (tx_n (M 231) e (tx_n (M 231) e b)) = tx_n (M 231) e (tx_n (M 231) e b) := tx_gi (f := M 231) g7.2
        have q12p : tx_s (M 231) e (tx_n (M 231) e b) ≤ tx_n (M 231) e (tx_n (M 231) e b) := (tx_gb (f := M 231) g7.2).1
        refine fw_iftd (cc := .eq) (pc := 135) (off := 12) (by decide +kernel) (by decide) ⟨by decide, by decide⟩ (by decide) ?_
        refine gm_sz (gm_p_load (pc := 147) (i := .aload_n 0) (sr := 2) (j := 0) (by decide +kernel) rfl rfl rfl) ?_
        refine gm_sz (fw_gr (pc := 148) (ix := 13) (ci := 11) (j := 1) (r := 227) (by decide +kernel) (tR226 hE) (by decide +kernel) (by decide +kernel) (tRr hE).1) ?_
        refine gm_sz (gm_p_load (pc := 151) (i := .iload_n 2) (sr := 0) (j := 2) (by decide +kernel) rfl rfl rfl) ?_
        refine gm_sz (gm_p_const (pc := 152) (i := .iconst 3) (v := gm_vi 3) (by decide +kernel) (by decide +kernel)) ?_
        refine gm_sz (gm_p_bin (pc := 153) (i := .iadd) (f := fun x y => x + y) (by decide +kernel) rfl) ?_
        refine gm_sz (gm_p_load (pc := 154) (i := .aload_n 0) (sr := 2) (j := 0) (by decide +kernel) rfl rfl rfl) ?_
        refine gm_sz (fw_gi (pc := 155) (ix := 224) (ci := 11) (j := 15) (x := st) (by decide +kernel) (tR226 hE) (by decide +kernel) (by decide +kernel) rfl) ?_
        refine gm_sz (fw_is (pc := 158) (k := 227) (len := 2093) (e0 := (1245 + (4 * ln)) + 3) (x := st) (M' := rm M (tx_n (M 231) e (tx_n (M 231) e b)) (tx_n (M 231) e (tx_n (M 231) e b)) 0 st (fun t9 => if t9 = (1245 + (4 * ln)) + 3 then st else (fun t9 => if t9 = (1245 + (4 * ln)) + 2 then st else (fun t9 => if t9 = (1245 + (4 * ln)) + 1 then tx_v (M 231) e 3 (tx_n (M 231) e b) else (fun t9 => if t9 = 1245 + (4 * ln) then 0 else W t9) t9) t9) t9)) (by decide +kernel) (tR227 hE).1 (tR227 hE).2 (by decide) ⟨by omega, by omega⟩ rm_W) ?_
        refine gm_sz (gm_p_const (pc := 159) (i := .iconst 1) (v := gm_vi 1) (by decide +kernel) (by decide +kernel)) ?_
        rw [g_n2 (Or.inl j1) j5, g_f0 j9] at h1
        rw [s_n2 j1, s_f0 j9] at h1
        exact gm_r_int (pc := 160) (by decide +kernel) (Or.inr ⟨(by decide +kernel), Or.inr rfl⟩) (h1 _ _ _ _ _ _ (rdl_n k0 hls hl.2 rfl (if_neg (by decide)).symm) rfl g8 q12 ⟨by omega, by omega, by omega⟩)
    · show gm_Wp X LX d _ _ 274 97 _ [gm_vi (-1), gm_vi ((1245 + (4 * ln)) + 1), gm_vr 227] n K R _ Q
      have j5 : ¬ (tx_k (M 231) e (tx_n (M 231) e b) = 258 ∧ 0 ≤ tx_v (M 231) e 3 (tx_n (M 231) e b) ∧ tx_v (M 231) e 3 (tx_n (M 231) e b) ≤ 20) := j5
      refine gm_sz (fw_is (pc := 97) (k := 227) (len := 2093) (e0 := (1245 + (4 * ln)) + 1) (x := (-1)) (M' := rm M p6 (tx_n (M 231) e b) dp st (fun t9 => if t9 = (1245 + (4 * ln)) + 1 then (-1) else (fun t9 => if t9 = 1245 + (4 * ln) then 0 else W t9) t9)) (by decide +kernel) (tR227 hE).1 (tR227 hE).2 (by decide) ⟨by omega, by omega⟩ rm_W) ?_
      refine gm_sz (gm_p_load (pc := 98) (i := .aload_n 0) (sr := 2) (j := 0) (by decide +kernel) rfl rfl rfl) ?_
      refine gm_sz (fw_gr (pc := 99) (ix := 13) (ci := 11) (j := 1) (r := 227) (by decide +kernel) (tR226 hE) (by decide +kernel) (by decide +kernel) (tRr hE).1) ?_
      refine gm_sz (gm_p_load (pc := 102) (i := .iload_n 2) (sr := 0) (j := 2) (by decide +kernel) rfl rfl rfl) ?_
      refine gm_sz (gm_p_const (pc := 103) (i := .iconst 1) (v := gm_vi 1) (by decide +kernel) (by decide +kernel)) ?_
      refine gm_sz (gm_p_bin (pc := 104) (i := .iadd) (f := fun x y => x + y) (by decide +kernel) rfl) ?_
      refine gm_sz (fw_ia (pc := 105) (k := 227) (len := 2093) (e0 := (1245 + (4 * ln)) + 1) (x := (-1)) (by decide +kernel) (tR227 hE).1 (tR227 hE).2 (by decide) ⟨by omega, by omega⟩ (if_pos rfl)) ?_
      refine fw_iffd (cc := .ge) (pc := 106) (off := 5) (by decide +kernel) (by decide) ⟨by decide, by decide⟩ (by decide) ?_
      refine gm_sz (gm_p_const (pc := 109) (i := .iconst 0) (v := gm_vi 0) (by decide +kernel) (by decide +kernel)) ?_
      rw [g_n3 (Or.inl j1) j5] at h0
      exact gm_r_int (pc := 110) (by decide +kernel) (Or.inr ⟨(by decide +kernel), Or.inl rfl⟩) (h0 _ _ _ _ (fr_up (fr_up k0.1 (by omega) rfl) (by omega) rfl) (fun h => by cases h))
  · show gm_Wp X LX d _ _ 274 20 _ [gm_vi 0, gm_vi (1245 + (4 * ln)), gm_vr 227] n K R _ Q
    have j1 : ¬ tx_is (M 231) e b wo_fast := fun hh => j1 ((tr_is hb (by decide)).mpr hh)
    refine fw_iftd (cc := .eq) (pc := 20) (off := 7) (by decide +kernel) (by decide) ⟨by decide, by decide⟩ (by decide) ?_
    refine gm_sz (gm_p_load (pc := 27) (i := .aload_n 0) (sr := 2) (j := 0) (by decide +kernel) rfl rfl rfl) ?_
    refine gm_sz (gm_p_ldcs (pc := 28) (i := .ldc_w 277) (ix := 277) (id := 60) (by decide +kernel) (Or.inr rfl) (by decide +kernel)) ?_
    refine gm_c_virt (k := 226) (ci := 11) (mj := 250) (ix := 134) (pc := 31) (as := [gm_vo 60]) (st := [gm_vi (1245 + (4 * ln)), gm_vr 227]) (d' := d - 1) (bc' := 0) (bs' := 0) (by decide +kernel) (by decide +kernel) (by decide +kernel) (by decide +kernel) (tR226 hE).1 (tR226 hE).2 (by decide) (by decide +kernel) (show 1 = gm_na 250 by decide +kernel) (fw_c1 fw_so) (show 2 ≤ gm_ml 250 by decide +kernel) (Nat.le_of_ble_eq_true rfl) (by omega) (Nat.zero_le _) (Nat.zero_le _) ?_
    refine tr_c250 (by omega) hE (by decide) (show tx_o 60 = wo_slow by decide +kernel) ⟨hb.1, (tx_rb (q := tx_l (M 231)) (e := e) _ b rfl hb.2).1, (tx_rb (q := tx_l (M 231)) (e := e) _ b rfl hb.2).2.1⟩ (fun j23 => ?_) (fun j23 => ?_)
    · show gm_Wp X LX d _ _ 274 34 _ [gm_vi 1, gm_vi (1245 + (4 * ln)), gm_vr 227] n K R _ Q
      have j23 : tx_is (M 231) e b wo_slow := (tr_is hb (by decide)).mp j23
      have q24 : tx_g (M 231) e (tx_r (tx_l (M 231)) e b) = tx_n (M 231) e b := by rw [← tx_s1 j23]; rfl
      have g26 : 0 ≤ tx_n (M 231) e b ∧ tx_n (M 231) e b ≤ e := by have := tx_nb (f := M 231) (b := b) hb.2; have := hb.1; omega
      have g25 : b + 1 ≤ tx_r (tx_l (M 231)) e b := by have := (tx_sb (f := M 231) hb.2).2.2 (g_isb j23); rwa [tx_s1 j23] at this
      refine fw_iffd (cc := .eq) (pc := 34) (off := 7) (by decide +kernel) (by decide) ⟨by decide, by decide⟩ (by decide) ?_
      refine gm_sz (gm_p_const (pc := 37) (i := .iconst 1) (v := gm_vi 1) (by decide +kernel) (by decide +kernel)) ?_
      refine gm_sz (gm_p_goto (pc := 38) (off := 18) (by decide +kernel) (by decide)) ?_
      refine gm_sz (fw_is (pc := 56) (k := 227) (len := 2093) (e0 := 1245 + (4 * ln)) (x := 1) (M' := rm M (tx_r (tx_l (M 231)) e b) b dp st (fun t9 => if t9 = 1245 + (4 * ln) then 1 else W t9)) (by decide +kernel) (tR227 hE).1 (tR227 hE).2 (by decide) ⟨by omega, by omega⟩ rm_W) ?_
      refine gm_sz (gm_p_load (pc := 57) (i := .aload_n 0) (sr := 2) (j := 0) (by decide +kernel) rfl rfl rfl) ?_
      refine gm_sz (fw_gr (pc := 58) (ix := 13) (ci := 11) (j := 1) (r := 227) (by decide +kernel) (tR226 hE) (by decide +kernel) (by decide +kernel) (tRr hE).1) ?_
      refine gm_sz (gm_p_load (pc := 61) (i := .iload_n 2) (sr := 0) (j := 2) (by decide +kernel) rfl rfl rfl) ?_
      refine gm_sz (fw_ia (pc := 62) (k := 227) (len := 2093) (e0 := 1245 + (4 * ln)) (x := 1) (by decide +kernel) (tR227 hE).1 (tR227 hE).2 (by decide) ⟨by omega, by omega⟩ (if_pos rfl)) ?_
      refine fw_iftd (cc := .ge) (pc := 63) (off := 5) (by decide +kernel) (by decide) ⟨by decide, by decide⟩ (by decide) ?_
      refine gm_sz (gm_p_load (pc := 68) (i := .aload_n 0) (sr := 2) (j := 0) (by decide +kernel) rfl rfl rfl) ?_
      refine gm_sz (fw_gr (pc := 69) (ix := 13) (ci := 11) (j := 1) (r := 227) (by decide +kernel) (tR226 hE) (by decide +kernel) (by decide +kernel) (tRr hE).1) ?_
      refine gm_sz (gm_p_load (pc := 72) (i := .iload_n 2) (sr := 0) (j := 2) (by decide +kernel) rfl rfl rfl) ?_
      refine gm_sz (gm_p_const (pc := 73) (i := .iconst 1) (v := gm_vi 1) (by decide +kernel) (by decide +kernel)) ?_
      refine gm_sz (gm_p_bin (pc := 74) (i := .iadd) (f := fun x y => x + y) (by decide +kernel) rfl) ?_
      refine gm_sz (gm_p_load (pc := 75) (i := .aload_n 0) (sr := 2) (j := 0) (by decide +kernel) rfl rfl rfl) ?_
      refine gm_sz (fw_gr (pc := 76) (ix := 13) (ci := 11) (j := 1) (r := 227) (by decide +kernel) (tR226 hE) (by decide +kernel) (by decide +kernel) (tRr hE).1) ?_
      refine gm_sz (gm_p_load (pc := 79) (i := .iload_n 2) (sr := 0) (j := 2) (by decide +kernel) rfl rfl rfl) ?_
      refine gm_sz (fw_ia (pc := 80) (k := 227) (len := 2093) (e0 := 1245 + (4 * ln)) (x := 1) (by decide +kernel) (tR227 hE).1 (tR227 hE).2 (by decide) ⟨by omega, by omega⟩ (if_pos rfl)) ?_
      refine gm_sz (gm_p_const (pc := 81) (i := .iconst 2) (v := gm_vi 2) (by decide +kernel) (by decide +kernel)) ?_
      refine fw_ictd (cc := .ne) (pc := 82) (off := 7) (by decide +kernel) (by decide) ⟨by decide, by decide⟩ ⟨by decide, by decide⟩ (by decide) ?_
      refine gm_sz (gm_p_load (pc := 89) (i := .aload_n 0) (sr := 2) (j := 0) (by decide +kernel) rfl rfl rfl) ?_
      refine gm_sz (gm_p_const (pc := 90) (i := .iconst 0) (v := gm_vi 0) (by decide +kernel) (by decide +kernel)) ?_
      refine gm_sz (gm_p_const (pc := 91) (i := .bipush 20) (v := gm_vi 20) (by decide +kernel) (by decide +kernel)) ?_
      refine gm_sz (gm_p_const (pc := 93) (i := .iconst 3) (v := gm_vi 3) (by decide +kernel) (by decide +kernel)) ?_
      refine gm_c_virt (k := 226) (ci := 11) (mj := 256) (ix := 138) (pc := 94) (as := [gm_vi 0, gm_vi 20, gm_vi 3]) (st := [gm_vi ((1245 + (4 * ln)) + 1), gm_vr 227]) (d' := d - 1) (bc' := 0) (bs' := 0) (by decide +kernel) (by decide +kernel) (by decide +kernel) (by decide +kernel) (tR226 hE).1 (tR226 hE).2 (by decide) (by decide +kernel) (show 3 = gm_na 256 by decide +kernel) (fw_c3 fw_si fw_si fw_si) (show 4 ≤ gm_ml 256 by decide +kernel) (Nat.le_of_ble_eq_true rfl) (by omega) (Nat.zero_le _) (Nat.zero_le _) ?_
      refine tr_c256 (by omega) hE (by decide) (by decide) ⟨by decide, by decide⟩ hp q24 (fun j27 => ?_) (fun j27 p28 => ?_)
      · show gm_Wp X LX d _ _ 274 97 _ [gm_vi (tx_v (M 231) e 3 (tx_n (M 231) e b)), gm_vi ((1245 + (4 * ln)) + 1), gm_vr 227] n K R _ Q
        have j27 : tx_k (M 231) e (tx_n (M 231) e b) = 258 ∧ 0 ≤ tx_v (M 231) e 3 (tx_n (M 231) e b) ∧ tx_v (M 231) e 3 (tx_n (M 231) e b) ≤ 20 := j27
        have g29 : 0 ≤ tx_s (M 231) e (tx_n (M 231) e b) ∧ tx_s (M 231) e (tx_n (M 231) e b) ≤ e := by have := tx_sb (f := M 231) g26.2; have := g26.1; omega
        have g30 : 0 ≤ tx_n (M 231) e (tx_n (M 231) e b) ∧ tx_n (M 231) e (tx_n (M 231) e b) ≤ e := by have := tx_gb (f := M 231) g29.2; have := g29.1; have h9 : tx_n (M 231) e (tx_n (M 231) e b) = tx_g (M 231) e (tx_s (M 231) e (tx_n (M 231) e b)) := rfl; omega
        have j27s := (tx_sb (f := M 231) g26.2).2.2 (tx_kne (f := M 231) (by omega))
        have j27p := (tx_gb (f := M 231) hp.2).1
        rw [q24] at j27p
        have j27v := tx_vb (f := M 231) (e := e) (m := 3) (b := tx_n (M 231) e b) (by decide)
        refine gm_sz (fw_is (pc := 97) (k := 227) (len := 2093) (e0 := (1245 + (4 * ln)) + 1) (x := tx_v (M 231) e 3 (tx_n (M 231) e b)) (M' := rm M (tx_s (M 231) e (tx_n (M 231) e b)) (tx_n (M 231) e b) dp st (fun t9 => if t9 = (1245 + (4 * ln)) + 1 then tx_v (M 231) e 3 (tx_n (M 231) e b) else (fun t9 => if t9 = 1245 + (4 * ln) then 1 else W t9) t9)) (by decide +kernel) (tR227 hE).1 (tR227 hE).2 (by decide) ⟨by omega, by omega⟩ rm_W) ?_
        refine gm_sz (gm_p_load (pc := 98) (i := .aload_n 0) (sr := 2) (j := 0) (by decide +kernel) rfl rfl rfl) ?_
        refine gm_sz (fw_gr (pc := 99) (ix := 13) (ci := 11) (j := 1) (r := 227) (by decide +kernel) (tR226 hE) (by decide +kernel) (by decide +kernel) (tRr hE).1) ?_
        refine gm_sz (gm_p_load (pc := 102) (i := .iload_n 2) (sr := 0) (j := 2) (by decide +kernel) rfl rfl rfl) ?_
        refine gm_sz (gm_p_const (pc := 103) (i := .iconst 1) (v := gm_vi 1) (by decide +kernel) (by decide +kernel)) ?_
        refine gm_sz (gm_p_bin (pc := 104) (i := .iadd) (f := fun x y => x + y) (by decide +kernel) rfl) ?_
        refine gm_sz (fw_ia (pc := 105) (k := 227) (len := 2093) (e0 := (1245 + (4 * ln)) + 1) (x := tx_v (M 231) e 3 (tx_n (M 231) e b)) (by decide +kernel) (tR227 hE).1 (tR227 hE).2 (by decide) ⟨by omega, by omega⟩ (if_pos rfl)) ?_
        refine fw_ift (cc := .ge) (pc := 106) (off := 5) (by decide +kernel) (by decide) ⟨by omega, by omega⟩ (show 0 ≤ (tx_v (M 231) e 3 (tx_n (M 231) e b)) by omega) ?_
        refine gm_sz (gm_p_load (pc := 111) (i := .aload_n 0) (sr := 2) (j := 0) (by decide +kernel) rfl rfl rfl) ?_
        refine gm_sz (fw_gr (pc := 112) (ix := 13) (ci := 11) (j := 1) (r := 227) (by decide +kernel) (tR226 hE) (by decide +kernel) (by decide +kernel) (tRr hE).1) ?_
        refine gm_sz (gm_p_load (pc := 115) (i := .iload_n 2) (sr := 0) (j := 2) (by decide +kernel) rfl rfl rfl) ?_
        refine gm_sz (gm_p_const (pc := 116) (i := .iconst 2) (v := gm_vi 2) (by decide +kernel) (by decide +kernel)) ?_
        refine gm_sz (gm_p_bin (pc := 117) (i := .iadd) (f := fun x y => x + y) (by decide +kernel) rfl) ?_
        refine gm_sz (gm_p_load (pc := 118) (i := .aload_n 0) (sr := 2) (j := 0) (by decide +kernel) rfl rfl rfl) ?_
        refine gm_sz (fw_gi (pc := 119) (ix := 224) (ci := 11) (j := 15) (x := st) (by decide +kernel) (tR226 hE) (by decide +kernel) (by decide +kernel) rfl) ?_
        refine gm_sz (fw_is (pc := 122) (k := 227) (len := 2093) (e0 := (1245 + (4 * ln)) + 2) (x := st) (M' := rm M (tx_s (M 231) e (tx_n (M 231) e b)) (tx_n (M 231) e b) dp st (fun t9 => if t9 = (1245 + (4 * ln)) + 2 then st else (fun t9 => if t9 = (1245 + (4 * ln)) + 1 then tx_v (M 231) e 3 (tx_n (M 231) e b) else (fun t9 => if t9 = 1245 + (4 * ln) then 1 else W t9) t9) t9)) (by decide +kernel) (tR227 hE).1 (tR227 hE).2 (by decide) ⟨by omega, by omega⟩ rm_W) ?_
        refine gm_sz (gm_p_load (pc := 123) (i := .aload_n 0) (sr := 2) (j := 0) (by decide +kernel) rfl rfl rfl) ?_
        refine gm_sz (gm_p_const (pc := 124) (i := .iconst 0) (v := gm_vi 0) (by decide +kernel) (by decide +kernel)) ?_
        refine gm_sz (fw_pi (pc := 125) (ix := 251) (ci := 11) (j := 12) (M' := rm M (tx_s (M 231) e (tx_n (M 231) e b)) (tx_n (M 231) e b) 0 st (fun t9 => if t9 = (1245 + (4 * ln)) + 2 then st else (fun t9 => if t9 = (1245 + (4 * ln)) + 1 then tx_v (M 231) e 3 (tx_n (M 231) e b) else (fun t9 => if t9 = 1245 + (4 * ln) then 1 else W t9) t9) t9)) (by decide +kernel) (tR226 hE) (by decide +kernel) (by decide +kernel) (by decide +kernel) rm_dp) ?_
        refine gm_sz (gm_p_load (pc := 128) (i := .aload_n 0) (sr := 2) (j := 0) (by decide +kernel) rfl rfl rfl) ?_
        refine gm_sz (gm_p_ldcs (pc := 129) (i := .ldc_w 281) (ix := 281) (id := 62) (by decide +kernel) (Or.inr rfl) (by decide +kernel)) ?_
        refine gm_c_virt (k := 226) (ci := 11) (mj := 269) (ix := 170) (pc := 132) (as := [gm_vo 62]) (st := []) (d' := d - 1) (bc' := 0) (bs' := 0) (by decide +kernel) (by decide +kernel) (by decide +kernel) (by decide +kernel) (tR226 hE).1 (tR226 hE).2 (by decide) (by decide +kernel) (show 1 = gm_na 269 by decide +kernel) (fw_c1 fw_so) (show 2 ≤ gm_ml 269 by decide +kernel) (Nat.le_of_ble_eq_true rfl) (by omega) (Nat.zero_le _) (Nat.zero_le _) ?_
        refine tr_c269 (by omega) hE (by decide) (show tx_o 62 = wo_if by decide +kernel) (by decide) g29 rfl (fun j31 => ?_) (fun j31 => ?_)
        · show gm_Wp X LX d _ _ 274 135 _ [gm_vi 1] n K R _ Q
          have j31 : tx_is (M 231) e (tx_n (M 231) e (tx_n (M 231) e b)) wo_if := j31
          have g32 : 0 ≤ tx_s (M 231) e (tx_n (M 231) e (tx_n (M 231) e b)) ∧ tx_s (M 231) e (tx_n (M 231) e (tx_n (M 231) e b)) ≤ e := by have := tx_sb (f := M 231) g30.2; have := g30.1; omega
          have g33 : 0 ≤ tx_n (M 231) e (tx_n (M 231) e (tx_n (M 231) e b)) ∧ tx_n (M 231) e (tx_n (M 231) e (tx_n (M 231) e b)) ≤ e := by have := tx_gb (f := M 231) g32.2; have := g32.1; have h9 : tx_n (M 231) e (tx_n (M 231) e (tx_n (M 231) e b)) = tx_g (M 231) e (tx_s (M 231) e (tx_n (M 231) e (tx_n (M 231) e b))) := rfl; omega
          have j31s := (tx_sb (f := M 231) g30.2).2.2 (g_isb j31)
          have j31p : tx_s (M 231) e (tx_n (M 231) e b) ≤ tx_n (M 231) e (tx_n (M 231) e b) := (tx_gb (f := M 231) g29.2).1
          refine fw_iffd (cc := .eq) (pc := 135) (off := 12) (by decide +kernel) (by decide) ⟨by decide, by decide⟩ (by decide) ?_
          refine gm_sz (gm_p_load (pc := 138) (i := .aload_n 0) (sr := 2) (j := 0) (by decide +kernel) rfl rfl rfl) ?_
          refine gm_c_virt (k := 226) (ci := 11) (mj := 275) (ix := 253) (pc := 139) (as := []) (st := []) (d' := d - 1) (bc' := 0) (bs' := 0) (by decide +kernel) (by decide +kernel) (by decide +kernel) (by decide +kernel) (tR226 hE).1 (tR226 hE).2 (by decide) (by decide +kernel) (show 0 = gm_na 275 by decide +kernel) fw_c0 (show 1 ≤ gm_ml 275 by decide +kernel) (Nat.le_of_ble_eq_true rfl) (by omega) (Nat.zero_le _) (Nat.zero_le _) ?_
          refine sr_cd hE _ _ _ _ _ _ _ _ _ _ (by omega) g32 rfl (show 0 ≤ _ ∧ _ ≤ tx_s (M 231) e (tx_n (M 231) e (tx_n (M 231) e b)) from ⟨by omega, by omega⟩) (rl_3 k0 hl rfl) (fun p35 x36 s37 W38 kW38 j39 q40b q40 t42 => ?_) (fun p35 x44 s37 W38 fW38 j39 => ?_)
          · show gm_Wp X LX d _ _ 274 142 _ [gm_vi 1] n K R _ Q
            have j39 : (g_cd (M 231) e 6 (tx_n (M 231) e (tx_n (M 231) e (tx_n (M 231) e b)))).1 = true := j39
            have t42 : 0 ≤ s37 ∧ s37 - _ ≤ p35 - tx_s (M 231) e (tx_n (M 231) e (tx_n (M 231) e b)) ∧ tx_s (M 231) e (tx_n (M 231) e (tx_n (M 231) e b)) ≤ p35 := t42
            have q40 : tx_g (M 231) e p35 = (g_cd (M 231) e 6 (tx_n (M 231) e (tx_n (M 231) e (tx_n (M 231) e b)))).2 := q40
            have g41 : 0 ≤ (g_cd (M 231) e 6 (tx_n (M 231) e (tx_n (M 231) e (tx_n (M 231) e b)))).2 ∧ (g_cd (M 231) e 6 (tx_n (M 231) e (tx_n (M 231) e (tx_n (M 231) e b)))).2 ≤ e := by have := g_cd_in (f := M 231) 6 (tx_n (M 231) e (tx_n (M 231) e (tx_n (M 231) e b))) g33.1 g33.2; have := g33.1; omega
            have i43 := (g_cd_in (f := M 231) 6 (tx_n (M 231) e (tx_n (M 231) e (tx_n (M 231) e b))) g33.1 g33.2)
            have i43 := i43.2.2 j39
            refine fw_iftd (cc := .ne) (pc := 142) (off := 5) (by decide +kernel) (by decide) ⟨by decide, by decide⟩ (by decide) ?_
            refine gm_sz (gm_p_load (pc := 147) (i := .aload_n 0) (sr := 2) (j := 0) (by decide +kernel) rfl rfl rfl) ?_
            refine gm_sz (fw_gr (pc := 148) (ix := 13) (ci := 11) (j := 1) (r := 227) (by decide +kernel) (tR226 hE) (by decide +kernel) (by decide +kernel) (tRr hE).1) ?_
            refine gm_sz (gm_p_load (pc := 151) (i := .iload_n 2) (sr := 0) (j := 2) (by decide +kernel) rfl rfl rfl) ?_
            refine gm_sz (gm_p_const (pc := 152) (i := .iconst 3) (v := gm_vi 3) (by decide +kernel) (by decide +kernel)) ?_
            refine gm_sz (gm_p_bin (pc := 153) (i := .iadd) (f := fun x y => x + y) (by decide +kernel) rfl) ?_
            refine gm_sz (gm_p_load (pc := 154) (i := .aload_n 0) (sr := 2) (j := 0) (by decide +kernel) rfl rfl rfl) ?_
            refine gm_sz (fw_gi (pc := 155) (ix := 224) (ci := 11) (j := 15) (x := s37) (by decide +kernel) (tR226 hE) (by decide +kernel) (by decide +kernel) rfl) ?_
            refine gm_sz (fw_is (pc := 158) (k := 227) (len := 2093) (e0 := (1245 + (4 * ln)) + 3) (x := s37) (M' := rm M p35 x36 0 s37 (fun t9 => if t9 = (1245 + (4 * ln)) + 3 then s37 else W38 t9)) (by decide +kernel) (tR227 hE).1 (tR227 hE).2 (by decide) ⟨by omega, by omega⟩ rm_W) ?_
            refine gm_sz (gm_p_const (pc := 159) (i := .iconst 1) (v := gm_vi 1) (by decide +kernel) (by decide +kernel)) ?_
            rw [g_n2 (Or.inr j23) j27, g_f1 j31] at h1
            rw [s_n3 j23, s_f1 j31] at h1
            exact gm_r_int (pc := 160) (by decide +kernel) (Or.inr ⟨(by decide +kernel), Or.inr rfl⟩) (h1 _ _ _ _ _ _ (rdl_c k0 hls hl.2 kW38 rfl rfl (if_neg (by decide)).symm) j39 q40b q40 ⟨by omega, by omega, by omega⟩)
          · show gm_Wp X LX d _ _ 274 142 _ [gm_vi 0] n K R _ Q
            have j39 : ¬ (g_cd (M 231) e 6 (tx_n (M 231) e (tx_n (M 231) e (tx_n (M 231) e b)))).1 = true := j39
            have g41 : 0 ≤ (g_cd (M 231) e 6 (tx_n (M 231) e (tx_n (M 231) e (tx_n (M 231) e b)))).2 ∧ (g_cd (M 231) e 6 (tx_n (M 231) e (tx_n (M 231) e (tx_n (M 231) e b)))).2 ≤ e := by have := g_cd_in (f := M 231) 6 (tx_n (M 231) e (tx_n (M 231) e (tx_n (M 231) e b))) g33.1 g33.2; have := g33.1; omega
            refine fw_iffd (cc := .ne) (pc := 142) (off := 5) (by decide +kernel) (by decide) ⟨by decide, by decide⟩ (by decide) ?_
            refine gm_sz (gm_p_const (pc := 145) (i := .iconst 0) (v := gm_vi 0) (by decide +kernel) (by decide +kernel)) ?_
            rw [g_n2 (Or.inr j23) j27, g_f1 j31] at h0
            exact gm_r_int (pc := 146) (by decide +kernel) (Or.inr ⟨(by decide +kernel), Or.inl rfl⟩) (h0 _ _ _ _ (fr_3 k0 hl.1 fW38 rfl) j39)
        · show gm_Wp X LX d _ _ 274 135 _ [gm_vi 0] n K R _ Q
          have j31 : ¬ tx_is (M 231) e (tx_n (M 231) e (tx_n (M 231) e b)) wo_if := j31
          have q34 : tx_g (M 231) e (tx_n (M 231) e (tx_n (M 231) e b)) = tx_n (M 231) e (tx_n (M 231) e b) := tx_gi (f := M 231) g29.2
          have q34p : tx_s (M 231) e (tx_n (M 231) e b) ≤ tx_n (M 231) e (tx_n (M 231) e b) := (tx_gb (f := M 231) g29.2).1
          refine fw_iftd (cc := .eq) (pc := 135) (off := 12) (by decide +kernel) (by decide) ⟨by decide, by decide⟩ (by decide) ?_
          refine gm_sz (gm_p_load (pc := 147) (i := .aload_n 0) (sr := 2) (j := 0) (by decide +kernel) rfl rfl rfl) ?_
          refine gm_sz (fw_gr (pc := 148) (ix := 13) (ci := 11) (j := 1) (r := 227) (by decide +kernel) (tR226 hE) (by decide +kernel) (by decide +kernel) (tRr hE).1) ?_
          refine gm_sz (gm_p_load (pc := 151) (i := .iload_n 2) (sr := 0) (j := 2) (by decide +kernel) rfl rfl rfl) ?_
          refine gm_sz (gm_p_const (pc := 152) (i := .iconst 3) (v := gm_vi 3) (by decide +kernel) (by decide +kernel)) ?_
          refine gm_sz (gm_p_bin (pc := 153) (i := .iadd) (f := fun x y => x + y) (by decide +kernel) rfl) ?_
          refine gm_sz (gm_p_load (pc := 154) (i := .aload_n 0) (sr := 2) (j := 0) (by decide +kernel) rfl rfl rfl) ?_
          refine gm_sz (fw_gi (pc := 155) (ix := 224) (ci := 11) (j := 15) (x := st) (by decide +kernel) (tR226 hE) (by decide +kernel) (by decide +kernel) rfl) ?_
          refine gm_sz (fw_is (pc := 158) (k := 227) (len := 2093) (e0 := (1245 + (4 * ln)) + 3) (x := st) (M' := rm M (tx_n (M 231) e (tx_n (M 231) e b)) (tx_n (M 231) e (tx_n (M 231) e b)) 0 st (fun t9 => if t9 = (1245 + (4 * ln)) + 3 then st else (fun t9 => if t9 = (1245 + (4 * ln)) + 2 then st else (fun t9 => if t9 = (1245 + (4 * ln)) + 1 then tx_v (M 231) e 3 (tx_n (M 231) e b) else (fun t9 => if t9 = 1245 + (4 * ln) then 1 else W t9) t9) t9) t9)) (by decide +kernel) (tR227 hE).1 (tR227 hE).2 (by decide) ⟨by omega, by omega⟩ rm_W) ?_
          refine gm_sz (gm_p_const (pc := 159) (i := .iconst 1) (v := gm_vi 1) (by decide +kernel) (by decide +kernel)) ?_
          rw [g_n2 (Or.inr j23) j27, g_f0 j31] at h1
          rw [s_n3 j23, s_f0 j31] at h1
          exact gm_r_int (pc := 160) (by decide +kernel) (Or.inr ⟨(by decide +kernel), Or.inr rfl⟩) (h1 _ _ _ _ _ _ (rdl_n k0 hls hl.2 rfl (if_neg (by decide)).symm) rfl g30 q34 ⟨by omega, by omega, by omega⟩)
      · show gm_Wp X LX d _ _ 274 97 _ [gm_vi (-1), gm_vi ((1245 + (4 * ln)) + 1), gm_vr 227] n K R _ Q
        have j27 : ¬ (tx_k (M 231) e (tx_n (M 231) e b) = 258 ∧ 0 ≤ tx_v (M 231) e 3 (tx_n (M 231) e b) ∧ tx_v (M 231) e 3 (tx_n (M 231) e b) ≤ 20) := j27
        refine gm_sz (fw_is (pc := 97) (k := 227) (len := 2093) (e0 := (1245 + (4 * ln)) + 1) (x := (-1)) (M' := rm M p28 (tx_n (M 231) e b) dp st (fun t9 => if t9 = (1245 + (4 * ln)) + 1 then (-1) else (fun t9 => if t9 = 1245 + (4 * ln) then 1 else W t9) t9)) (by decide +kernel) (tR227 hE).1 (tR227 hE).2 (by decide) ⟨by omega, by omega⟩ rm_W) ?_
        refine gm_sz (gm_p_load (pc := 98) (i := .aload_n 0) (sr := 2) (j := 0) (by decide +kernel) rfl rfl rfl) ?_
        refine gm_sz (fw_gr (pc := 99) (ix := 13) (ci := 11) (j := 1) (r := 227) (by decide +kernel) (tR226 hE) (by decide +kernel) (by decide +kernel) (tRr hE).1) ?_
        refine gm_sz (gm_p_load (pc := 102) (i := .iload_n 2) (sr := 0) (j := 2) (by decide +kernel) rfl rfl rfl) ?_
        refine gm_sz (gm_p_const (pc := 103) (i := .iconst 1) (v := gm_vi 1) (by decide +kernel) (by decide +kernel)) ?_
        refine gm_sz (gm_p_bin (pc := 104) (i := .iadd) (f := fun x y => x + y) (by decide +kernel) rfl) ?_
        refine gm_sz (fw_ia (pc := 105) (k := 227) (len := 2093) (e0 := (1245 + (4 * ln)) + 1) (x := (-1)) (by decide +kernel) (tR227 hE).1 (tR227 hE).2 (by decide) ⟨by omega, by omega⟩ (if_pos rfl)) ?_
        refine fw_iffd (cc := .ge) (pc := 106) (off := 5) (by decide +kernel) (by decide) ⟨by decide, by decide⟩ (by decide) ?_
        refine gm_sz (gm_p_const (pc := 109) (i := .iconst 0) (v := gm_vi 0) (by decide +kernel) (by decide +kernel)) ?_
        rw [g_n3 (Or.inr j23) j27] at h0
        exact gm_r_int (pc := 110) (by decide +kernel) (Or.inr ⟨(by decide +kernel), Or.inl rfl⟩) (h0 _ _ _ _ (fr_up (fr_up k0.1 (by omega) rfl) (by omega) rfl) (fun h => by cases h))
    · show gm_Wp X LX d _ _ 274 34 _ [gm_vi 0, gm_vi (1245 + (4 * ln)), gm_vr 227] n K R _ Q
      have j23 : ¬ tx_is (M 231) e b wo_slow := fun hh => j23 ((tr_is hb (by decide)).mpr hh)
      refine fw_iftd (cc := .eq) (pc := 34) (off := 7) (by decide +kernel) (by decide) ⟨by decide, by decide⟩ (by decide) ?_
      refine gm_sz (gm_p_load (pc := 41) (i := .aload_n 0) (sr := 2) (j := 0) (by decide +kernel) rfl rfl rfl) ?_
      refine gm_sz (gm_p_ldcs (pc := 42) (i := .ldc_w 279) (ix := 279) (id := 61) (by decide +kernel) (Or.inr rfl) (by decide +kernel)) ?_
      refine gm_c_virt (k := 226) (ci := 11) (mj := 250) (ix := 134) (pc := 45) (as := [gm_vo 61]) (st := [gm_vi (1245 + (4 * ln)), gm_vr 227]) (d' := d - 1) (bc' := 0) (bs' := 0) (by decide +kernel) (by decide +kernel) (by decide +kernel) (by decide +kernel) (tR226 hE).1 (tR226 hE).2 (by decide) (by decide +kernel) (show 1 = gm_na 250 by decide +kernel) (fw_c1 fw_so) (show 2 ≤ gm_ml 250 by decide +kernel) (Nat.le_of_ble_eq_true rfl) (by omega) (Nat.zero_le _) (Nat.zero_le _) ?_
      refine tr_c250 (by omega) hE (by decide) (show tx_o 61 = wo_open by decide +kernel) ⟨hb.1, (tx_rb (q := tx_l (M 231)) (e := e) _ b rfl hb.2).1, (tx_rb (q := tx_l (M 231)) (e := e) _ b rfl hb.2).2.1⟩ (fun j45 => ?_) (fun j45 => ?_)
      · show gm_Wp X LX d _ _ 274 48 _ [gm_vi 1, gm_vi (1245 + (4 * ln)), gm_vr 227] n K R _ Q
        have j45 : tx_is (M 231) e b wo_open := (tr_is hb (by decide)).mp j45
        have q46 : tx_g (M 231) e (tx_r (tx_l (M 231)) e b) = tx_n (M 231) e b := by rw [← tx_s1 j45]; rfl
        have g48 : 0 ≤ tx_n (M 231) e b ∧ tx_n (M 231) e b ≤ e := by have := tx_nb (f := M 231) (b := b) hb.2; have := hb.1; omega
        have g47 : b + 1 ≤ tx_r (tx_l (M 231)) e b := by have := (tx_sb (f := M 231) hb.2).2.2 (g_isb j45); rwa [tx_s1 j45] at this
        refine fw_iffd (cc := .eq) (pc := 48) (off := 7) (by decide +kernel) (by decide) ⟨by decide, by decide⟩ (by decide) ?_
        refine gm_sz (gm_p_const (pc := 51) (i := .iconst 2) (v := gm_vi 2) (by decide +kernel) (by decide +kernel)) ?_
        refine gm_sz (gm_p_goto (pc := 52) (off := 4) (by decide +kernel) (by decide)) ?_
        refine gm_sz (fw_is (pc := 56) (k := 227) (len := 2093) (e0 := 1245 + (4 * ln)) (x := 2) (M' := rm M (tx_r (tx_l (M 231)) e b) b dp st (fun t9 => if t9 = 1245 + (4 * ln) then 2 else W t9)) (by decide +kernel) (tR227 hE).1 (tR227 hE).2 (by decide) ⟨by omega, by omega⟩ rm_W) ?_
        refine gm_sz (gm_p_load (pc := 57) (i := .aload_n 0) (sr := 2) (j := 0) (by decide +kernel) rfl rfl rfl) ?_
        refine gm_sz (fw_gr (pc := 58) (ix := 13) (ci := 11) (j := 1) (r := 227) (by decide +kernel) (tR226 hE) (by decide +kernel) (by decide +kernel) (tRr hE).1) ?_
        refine gm_sz (gm_p_load (pc := 61) (i := .iload_n 2) (sr := 0) (j := 2) (by decide +kernel) rfl rfl rfl) ?_
        refine gm_sz (fw_ia (pc := 62) (k := 227) (len := 2093) (e0 := 1245 + (4 * ln)) (x := 2) (by decide +kernel) (tR227 hE).1 (tR227 hE).2 (by decide) ⟨by omega, by omega⟩ (if_pos rfl)) ?_
        refine fw_iftd (cc := .ge) (pc := 63) (off := 5) (by decide +kernel) (by decide) ⟨by decide, by decide⟩ (by decide) ?_
        refine gm_sz (gm_p_load (pc := 68) (i := .aload_n 0) (sr := 2) (j := 0) (by decide +kernel) rfl rfl rfl) ?_
        refine gm_sz (fw_gr (pc := 69) (ix := 13) (ci := 11) (j := 1) (r := 227) (by decide +kernel) (tR226 hE) (by decide +kernel) (by decide +kernel) (tRr hE).1) ?_
        refine gm_sz (gm_p_load (pc := 72) (i := .iload_n 2) (sr := 0) (j := 2) (by decide +kernel) rfl rfl rfl) ?_
        refine gm_sz (gm_p_const (pc := 73) (i := .iconst 1) (v := gm_vi 1) (by decide +kernel) (by decide +kernel)) ?_
        refine gm_sz (gm_p_bin (pc := 74) (i := .iadd) (f := fun x y => x + y) (by decide +kernel) rfl) ?_
        refine gm_sz (gm_p_load (pc := 75) (i := .aload_n 0) (sr := 2) (j := 0) (by decide +kernel) rfl rfl rfl) ?_
        refine gm_sz (fw_gr (pc := 76) (ix := 13) (ci := 11) (j := 1) (r := 227) (by decide +kernel) (tR226 hE) (by decide +kernel) (by decide +kernel) (tRr hE).1) ?_
        refine gm_sz (gm_p_load (pc := 79) (i := .iload_n 2) (sr := 0) (j := 2) (by decide +kernel) rfl rfl rfl) ?_
        refine gm_sz (fw_ia (pc := 80) (k := 227) (len := 2093) (e0 := 1245 + (4 * ln)) (x := 2) (by decide +kernel) (tR227 hE).1 (tR227 hE).2 (by decide) ⟨by omega, by omega⟩ (if_pos rfl)) ?_
        refine gm_sz (gm_p_const (pc := 81) (i := .iconst 2) (v := gm_vi 2) (by decide +kernel) (by decide +kernel)) ?_
        refine fw_icfd (cc := .ne) (pc := 82) (off := 7) (by decide +kernel) (by decide) ⟨by decide, by decide⟩ ⟨by decide, by decide⟩ (by decide) ?_
        refine gm_sz (gm_p_const (pc := 85) (i := .iconst 1) (v := gm_vi 1) (by decide +kernel) (by decide +kernel)) ?_
        refine gm_sz (gm_p_goto (pc := 86) (off := 11) (by decide +kernel) (by decide)) ?_
        refine gm_sz (fw_is (pc := 97) (k := 227) (len := 2093) (e0 := (1245 + (4 * ln)) + 1) (x := 1) (M' := rm M (tx_r (tx_l (M 231)) e b) b dp st (fun t9 => if t9 = (1245 + (4 * ln)) + 1 then 1 else (fun t9 => if t9 = 1245 + (4 * ln) then 2 else W t9) t9)) (by decide +kernel) (tR227 hE).1 (tR227 hE).2 (by decide) ⟨by omega, by omega⟩ rm_W) ?_
        refine gm_sz (gm_p_load (pc := 98) (i := .aload_n 0) (sr := 2) (j := 0) (by decide +kernel) rfl rfl rfl) ?_
        refine gm_sz (fw_gr (pc := 99) (ix := 13) (ci := 11) (j := 1) (r := 227) (by decide +kernel) (tR226 hE) (by decide +kernel) (by decide +kernel) (tRr hE).1) ?_
        refine gm_sz (gm_p_load (pc := 102) (i := .iload_n 2) (sr := 0) (j := 2) (by decide +kernel) rfl rfl rfl) ?_
        refine gm_sz (gm_p_const (pc := 103) (i := .iconst 1) (v := gm_vi 1) (by decide +kernel) (by decide +kernel)) ?_
        refine gm_sz (gm_p_bin (pc := 104) (i := .iadd) (f := fun x y => x + y) (by decide +kernel) rfl) ?_
        refine gm_sz (fw_ia (pc := 105) (k := 227) (len := 2093) (e0 := (1245 + (4 * ln)) + 1) (x := 1) (by decide +kernel) (tR227 hE).1 (tR227 hE).2 (by decide) ⟨by omega, by omega⟩ (if_pos rfl)) ?_
        refine fw_iftd (cc := .ge) (pc := 106) (off := 5) (by decide +kernel) (by decide) ⟨by decide, by decide⟩ (by decide) ?_
        refine gm_sz (gm_p_load (pc := 111) (i := .aload_n 0) (sr := 2) (j := 0) (by decide +kernel) rfl rfl rfl) ?_
        refine gm_sz (fw_gr (pc := 112) (ix := 13) (ci := 11) (j := 1) (r := 227) (by decide +kernel) (tR226 hE) (by decide +kernel) (by decide +kernel) (tRr hE).1) ?_
        refine gm_sz (gm_p_load (pc := 115) (i := .iload_n 2) (sr := 0) (j := 2) (by decide +kernel) rfl rfl rfl) ?_
        refine gm_sz (gm_p_const (pc := 116) (i := .iconst 2) (v := gm_vi 2) (by decide +kernel) (by decide +kernel)) ?_
        refine gm_sz (gm_p_bin (pc := 117) (i := .iadd) (f := fun x y => x + y) (by decide +kernel) rfl) ?_
        refine gm_sz (gm_p_load (pc := 118) (i := .aload_n 0) (sr := 2) (j := 0) (by decide +kernel) rfl rfl rfl) ?_
        refine gm_sz (fw_gi (pc := 119) (ix := 224) (ci := 11) (j := 15) (x := st) (by decide +kernel) (tR226 hE) (by decide +kernel) (by decide +kernel) rfl) ?_
        refine gm_sz (fw_is (pc := 122) (k := 227) (len := 2093) (e0 := (1245 + (4 * ln)) + 2) (x := st) (M' := rm M (tx_r (tx_l (M 231)) e b) b dp st (fun t9 => if t9 = (1245 + (4 * ln)) + 2 then st else (fun t9 => if t9 = (1245 + (4 * ln)) + 1 then 1 else (fun t9 => if t9 = 1245 + (4 * ln) then 2 else W t9) t9) t9)) (by decide +kernel) (tR227 hE).1 (tR227 hE).2 (by decide) ⟨by omega, by omega⟩ rm_W) ?_
        refine gm_sz (gm_p_load (pc := 123) (i := .aload_n 0) (sr := 2) (j := 0) (by decide +kernel) rfl rfl rfl) ?_
        refine gm_sz (gm_p_const (pc := 124) (i := .iconst 0) (v := gm_vi 0) (by decide +kernel) (by decide +kernel)) ?_
        refine gm_sz (fw_pi (pc := 125) (ix := 251) (ci := 11) (j := 12) (M' := rm M (tx_r (tx_l (M 231)) e b) b 0 st (fun t9 => if t9 = (1245 + (4 * ln)) + 2 then st else (fun t9 => if t9 = (1245 + (4 * ln)) + 1 then 1 else (fun t9 => if t9 = 1245 + (4 * ln) then 2 else W t9) t9) t9)) (by decide +kernel) (tR226 hE) (by decide +kernel) (by decide +kernel) (by decide +kernel) rm_dp) ?_
        refine gm_sz (gm_p_load (pc := 128) (i := .aload_n 0) (sr := 2) (j := 0) (by decide +kernel) rfl rfl rfl) ?_
        refine gm_sz (gm_p_ldcs (pc := 129) (i := .ldc_w 281) (ix := 281) (id := 62) (by decide +kernel) (Or.inr rfl) (by decide +kernel)) ?_
        refine gm_c_virt (k := 226) (ci := 11) (mj := 269) (ix := 170) (pc := 132) (as := [gm_vo 62]) (st := []) (d' := d - 1) (bc' := 0) (bs' := 0) (by decide +kernel) (by decide +kernel) (by decide +kernel) (by decide +kernel) (tR226 hE).1 (tR226 hE).2 (by decide) (by decide +kernel) (show 1 = gm_na 269 by decide +kernel) (fw_c1 fw_so) (show 2 ≤ gm_ml 269 by decide +kernel) (Nat.le_of_ble_eq_true rfl) (by omega) (Nat.zero_le _) (Nat.zero_le _) ?_
        refine tr_c269 (by omega) hE (by decide) (show tx_o 62 = wo_if by decide +kernel) (by decide) hp q46 (fun j49 => ?_) (fun j49 => ?_)
        · show gm_Wp X LX d _ _ 274 135 _ [gm_vi 1] n K R _ Q
          have j49 : tx_is (M 231) e (tx_n (M 231) e b) wo_if := j49
          have g50 : 0 ≤ tx_s (M 231) e (tx_n (M 231) e b) ∧ tx_s (M 231) e (tx_n (M 231) e b) ≤ e := by have := tx_sb (f := M 231) g48.2; have := g48.1; omega
          have g51 : 0 ≤ tx_n (M 231) e (tx_n (M 231) e b) ∧ tx_n (M 231) e (tx_n (M 231) e b) ≤ e := by have := tx_gb (f := M 231) g50.2; have := g50.1; have h9 : tx_n (M 231) e (tx_n (M 231) e b) = tx_g (M 231) e (tx_s (M 231) e (tx_n (M 231) e b)) := rfl; omega
          have j49s := (tx_sb (f := M 231) g48.2).2.2 (g_isb j49)
          have j49p := (tx_gb (f := M 231) hp.2).1
          rw [q46] at j49p
          refine fw_iffd (cc := .eq) (pc := 135) (off := 12) (by decide +kernel) (by decide) ⟨by decide, by decide⟩ (by decide) ?_
          refine gm_sz (gm_p_load (pc := 138) (i := .aload_n 0) (sr := 2) (j := 0) (by decide +kernel) rfl rfl rfl) ?_
          refine gm_c_virt (k := 226) (ci := 11) (mj := 275) (ix := 253) (pc := 139) (as := []) (st := []) (d' := d - 1) (bc' := 0) (bs' := 0) (by decide +kernel) (by decide +kernel) (by decide +kernel) (by decide +kernel) (tR226 hE).1 (tR226 hE).2 (by decide) (by decide +kernel) (show 0 = gm_na 275 by decide +kernel) fw_c0 (show 1 ≤ gm_ml 275 by decide +kernel) (Nat.le_of_ble_eq_true rfl) (by omega) (Nat.zero_le _) (Nat.zero_le _) ?_
          refine sr_cd hE _ _ _ _ _ _ _ _ _ _ (by omega) g50 rfl (show 0 ≤ _ ∧ _ ≤ tx_s (M 231) e (tx_n (M 231) e b) from ⟨by omega, by omega⟩) (rl_3 k0 hl rfl) (fun p53 x54 s55 W56 kW56 j57 q58b q58 t60 => ?_) (fun p53 x62 s55 W56 fW56 j57 => ?_)
          · show gm_Wp X LX d _ _ 274 142 _ [gm_vi 1] n K R _ Q
            have j57 : (g_cd (M 231) e 6 (tx_n (M 231) e (tx_n (M 231) e b))).1 = true := j57
            have t60 : 0 ≤ s55 ∧ s55 - _ ≤ p53 - tx_s (M 231) e (tx_n (M 231) e b) ∧ tx_s (M 231) e (tx_n (M 231) e b) ≤ p53 := t60
            have q58 : tx_g (M 231) e p53 = (g_cd (M 231) e 6 (tx_n (M 231) e (tx_n (M 231) e b))).2 := q58
            have g59 : 0 ≤ (g_cd (M 231) e 6 (tx_n (M 231) e (tx_n (M 231) e b))).2 ∧ (g_cd (M 231) e 6 (tx_n (M 231) e (tx_n (M 231) e b))).2 ≤ e := by have := g_cd_in (f := M 231) 6 (tx_n (M 231) e (tx_n (M 231) e b)) g51.1 g51.2; have := g51.1; omega
            have i61 := (g_cd_in (f := M 231) 6 (tx_n (M 231) e (tx_n (M 231) e b)) g51.1 g51.2)
            have i61 := i61.2.2 j57
            refine fw_iftd (cc := .ne) (pc := 142) (off := 5) (by decide +kernel) (by decide) ⟨by decide, by decide⟩ (by decide) ?_
            refine gm_sz (gm_p_load (pc := 147) (i := .aload_n 0) (sr := 2) (j := 0) (by decide +kernel) rfl rfl rfl) ?_
            refine gm_sz (fw_gr (pc := 148) (ix := 13) (ci := 11) (j := 1) (r := 227) (by decide +kernel) (tR226 hE) (by decide +kernel) (by decide +kernel) (tRr hE).1) ?_
            refine gm_sz (gm_p_load (pc := 151) (i := .iload_n 2) (sr := 0) (j := 2) (by decide +kernel) rfl rfl rfl) ?_
            refine gm_sz (gm_p_const (pc := 152) (i := .iconst 3) (v := gm_vi 3) (by decide +kernel) (by decide +kernel)) ?_
            refine gm_sz (gm_p_bin (pc := 153) (i := .iadd) (f := fun x y => x + y) (by decide +kernel) rfl) ?_
            refine gm_sz (gm_p_load (pc := 154) (i := .aload_n 0) (sr := 2) (j := 0) (by decide +kernel) rfl rfl rfl) ?_
            refine gm_sz (fw_gi (pc := 155) (ix := 224) (ci := 11) (j := 15) (x := s55) (by decide +kernel) (tR226 hE) (by decide +kernel) (by decide +kernel) rfl) ?_
            refine gm_sz (fw_is (pc := 158) (k := 227) (len := 2093) (e0 := (1245 + (4 * ln)) + 3) (x := s55) (M' := rm M p53 x54 0 s55 (fun t9 => if t9 = (1245 + (4 * ln)) + 3 then s55 else W56 t9)) (by decide +kernel) (tR227 hE).1 (tR227 hE).2 (by decide) ⟨by omega, by omega⟩ rm_W) ?_
            refine gm_sz (gm_p_const (pc := 159) (i := .iconst 1) (v := gm_vi 1) (by decide +kernel) (by decide +kernel)) ?_
            rw [g_n1 j45, g_f1 j49] at h1
            rw [s_n1 j45, s_f1 j49] at h1
            exact gm_r_int (pc := 160) (by decide +kernel) (Or.inr ⟨(by decide +kernel), Or.inr rfl⟩) (h1 _ _ _ _ _ _ (rdl_c k0 hls hl.2 kW56 rfl rfl (if_pos rfl).symm) j57 q58b q58 ⟨by omega, by omega, by omega⟩)
          · show gm_Wp X LX d _ _ 274 142 _ [gm_vi 0] n K R _ Q
            have j57 : ¬ (g_cd (M 231) e 6 (tx_n (M 231) e (tx_n (M 231) e b))).1 = true := j57
            have g59 : 0 ≤ (g_cd (M 231) e 6 (tx_n (M 231) e (tx_n (M 231) e b))).2 ∧ (g_cd (M 231) e 6 (tx_n (M 231) e (tx_n (M 231) e b))).2 ≤ e := by have := g_cd_in (f := M 231) 6 (tx_n (M 231) e (tx_n (M 231) e b)) g51.1 g51.2; have := g51.1; omega
            refine fw_iffd (cc := .ne) (pc := 142) (off := 5) (by decide +kernel) (by decide) ⟨by decide, by decide⟩ (by decide) ?_
            refine gm_sz (gm_p_const (pc := 145) (i := .iconst 0) (v := gm_vi 0) (by decide +kernel) (by decide +kernel)) ?_
            rw [g_n1 j45, g_f1 j49] at h0
            exact gm_r_int (pc := 146) (by decide +kernel) (Or.inr ⟨(by decide +kernel), Or.inl rfl⟩) (h0 _ _ _ _ (fr_3 k0 hl.1 fW56 rfl) j57)
        · show gm_Wp X LX d _ _ 274 135 _ [gm_vi 0] n K R _ Q
          have j49 : ¬ tx_is (M 231) e (tx_n (M 231) e b) wo_if := j49
          have q52 : tx_g (M 231) e (tx_n (M 231) e b) = tx_n (M 231) e b := by rw [← q46]; exact tx_gi hp.2
          have j52p := (tx_gb (f := M 231) hp.2).1
          rw [q46] at j52p
          refine fw_iftd (cc := .eq) (pc := 135) (off := 12) (by decide +kernel) (by decide) ⟨by decide, by decide⟩ (by decide) ?_
          refine gm_sz (gm_p_load (pc := 147) (i := .aload_n 0) (sr := 2) (j := 0) (by decide +kernel) rfl rfl rfl) ?_
          refine gm_sz (fw_gr (pc := 148) (ix := 13) (ci := 11) (j := 1) (r := 227) (by decide +kernel) (tR226 hE) (by decide +kernel) (by decide +kernel) (tRr hE).1) ?_
          refine gm_sz (gm_p_load (pc := 151) (i := .iload_n 2) (sr := 0) (j := 2) (by decide +kernel) rfl rfl rfl) ?_
          refine gm_sz (gm_p_const (pc := 152) (i := .iconst 3) (v := gm_vi 3) (by decide +kernel) (by decide +kernel)) ?_
          refine gm_sz (gm_p_bin (pc := 153) (i := .iadd) (f := fun x y => x + y) (by decide +kernel) rfl) ?_
          refine gm_sz (gm_p_load (pc := 154) (i := .aload_n 0) (sr := 2) (j := 0) (by decide +kernel) rfl rfl rfl) ?_
          refine gm_sz (fw_gi (pc := 155) (ix := 224) (ci := 11) (j := 15) (x := st) (by decide +kernel) (tR226 hE) (by decide +kernel) (by decide +kernel) rfl) ?_
          refine gm_sz (fw_is (pc := 158) (k := 227) (len := 2093) (e0 := (1245 + (4 * ln)) + 3) (x := st) (M' := rm M (tx_n (M 231) e b) (tx_n (M 231) e b) 0 st (fun t9 => if t9 = (1245 + (4 * ln)) + 3 then st else (fun t9 => if t9 = (1245 + (4 * ln)) + 2 then st else (fun t9 => if t9 = (1245 + (4 * ln)) + 1 then 1 else (fun t9 => if t9 = 1245 + (4 * ln) then 2 else W t9) t9) t9) t9)) (by decide +kernel) (tR227 hE).1 (tR227 hE).2 (by decide) ⟨by omega, by omega⟩ rm_W) ?_
          refine gm_sz (gm_p_const (pc := 159) (i := .iconst 1) (v := gm_vi 1) (by decide +kernel) (by decide +kernel)) ?_
          rw [g_n1 j45, g_f0 j49] at h1
          rw [s_n1 j45, s_f0 j49] at h1
          exact gm_r_int (pc := 160) (by decide +kernel) (Or.inr ⟨(by decide +kernel), Or.inr rfl⟩) (h1 _ _ _ _ _ _ (rdl_n k0 hls hl.2 rfl (if_pos rfl).symm) rfl g48 q52 ⟨by omega, by omega, by omega⟩)
      · show gm_Wp X LX d _ _ 274 48 _ [gm_vi 0, gm_vi (1245 + (4 * ln)), gm_vr 227] n K R _ Q
        have j45 : ¬ tx_is (M 231) e b wo_open := fun hh => j45 ((tr_is hb (by decide)).mpr hh)
        refine fw_iftd (cc := .eq) (pc := 48) (off := 7) (by decide +kernel) (by decide) ⟨by decide, by decide⟩ (by decide) ?_
        refine gm_sz (gm_p_const (pc := 55) (i := .iconst (-1)) (v := gm_vi (-1)) (by decide +kernel) (by decide +kernel)) ?_
        refine gm_sz (fw_is (pc := 56) (k := 227) (len := 2093) (e0 := 1245 + (4 * ln)) (x := (-1)) (M' := rm M (tx_r (tx_l (M 231)) e b) b dp st (fun t9 => if t9 = 1245 + (4 * ln) then (-1) else W t9)) (by decide +kernel) (tR227 hE).1 (tR227 hE).2 (by decide) ⟨by omega, by omega⟩ rm_W) ?_
        refine gm_sz (gm_p_load (pc := 57) (i := .aload_n 0) (sr := 2) (j := 0) (by decide +kernel) rfl rfl rfl) ?_
        refine gm_sz (fw_gr (pc := 58) (ix := 13) (ci := 11) (j := 1) (r := 227) (by decide +kernel) (tR226 hE) (by decide +kernel) (by decide +kernel) (tRr hE).1) ?_
        refine gm_sz (gm_p_load (pc := 61) (i := .iload_n 2) (sr := 0) (j := 2) (by decide +kernel) rfl rfl rfl) ?_
        refine gm_sz (fw_ia (pc := 62) (k := 227) (len := 2093) (e0 := 1245 + (4 * ln)) (x := (-1)) (by decide +kernel) (tR227 hE).1 (tR227 hE).2 (by decide) ⟨by omega, by omega⟩ (if_pos rfl)) ?_
        refine fw_iffd (cc := .ge) (pc := 63) (off := 5) (by decide +kernel) (by decide) ⟨by decide, by decide⟩ (by decide) ?_
        refine gm_sz (gm_p_const (pc := 66) (i := .iconst 0) (v := gm_vi 0) (by decide +kernel) (by decide +kernel)) ?_
        rw [g_n0 (fun hh => hh.elim j1 j23) j45] at h0
        exact gm_r_int (pc := 67) (by decide +kernel) (Or.inr ⟨(by decide +kernel), Or.inl rfl⟩) (h0 _ _ _ _ (fr_up k0.1 (by omega) rfl) (fun h => by cases h))

theorem sr_c247 (hd : 32 ≤ d) (hE : tR n K R M e) (hl : 0 ≤ ln ∧ ln < 12) (hp : 0 ≤ pt ∧ pt ≤ e) (hg : tx_g (M 231) e pt = b) (hst : 0 ≤ st ∧ st ≤ pt) (hls : ln = (ls.length : Int)) (k0 : rdl ls L W0 st W) (h1 : ∀ p2 bg2 dp2 st2 W2 L2, rdl (ls ++ [s_line (M 231) e b]) L2 W0 st2 W2 → (g_line (M 231) e b).1 = true → 0 ≤ p2 ∧ p2 ≤ e → tx_g (M 231) e p2 = (g_line (M 231) e b).2 → 0 ≤ st2 ∧ st2 - st ≤ p2 - pt ∧ pt ≤ p2 → Q (.inl (some (gm_vi 1))) n K R (rm M p2 bg2 dp2 st2 W2)) (h0 : ∀ p2 dp2 st2 W2, (∀ j, j < 1245 → W2 j = W0 j) → ¬ (g_line (M 231) e b).1 = true → Q (.inl (some (gm_vi 0))) n K R (rm M p2 (g_line (M 231) e b).2 dp2 st2 W2)) : gm_Wp X LX d bc bs 247 0 (gm_ent 247 [gm_vr 226, gm_vi 0, gm_vi ln]) [] n K R (rm M pt bg dp st W) Q := by
  obtain ⟨-, he0, he4⟩ := tRe hE
  obtain ⟨hg1, hg2, -⟩ := tx_gb (f := M 231) hp.2
  rw [hg] at hg1 hg2
  have hb : 0 ≤ b ∧ b ≤ e := ⟨by omega, hg2⟩
  refine gm_sz (gm_p_load (pc := 0) (i := .aload_n 0) (sr := 2) (j := 0) (by decide +kernel) rfl rfl rfl) ?_
  refine gm_c_virt (k := 226) (ci := 11) (mj := 248) (ix := 131) (pc := 1) (as := []) (st := []) (d' := d - 1) (bc' := 0) (bs' := 0) (by decide +kernel) (by decide +kernel) (by decide +kernel) (by decide +kernel) (tR226 hE).1 (tR226 hE).2 (by decide) (by decide +kernel) (show 0 = gm_na 248 by decide +kernel) fw_c0 (show 1 ≤ gm_ml 248 by decide +kernel) (Nat.le_of_ble_eq_true rfl) (by omega) (Nat.zero_le _) (Nat.zero_le _) ?_
  refine tr_c248 (by omega) hE hp hg ?_
  show gm_Wp X LX d _ _ 247 4 _ [] n K R _ Q
  have q2 : tx_g (M 231) e b = b := by rw [← hg]; exact tx_gi hp.2
  have g1 : 0 ≤ tx_r (tx_l (M 231)) e b ∧ tx_r (tx_l (M 231)) e b ≤ e := by have := tx_rb (q := tx_l (M 231)) (e := e) _ b rfl hb.2; omega
  refine gm_sz (gm_p_load (pc := 4) (i := .iload_n 2) (sr := 0) (j := 2) (by decide +kernel) rfl rfl rfl) ?_
  refine gm_sz (gm_p_load (pc := 5) (i := .iload_n 1) (sr := 0) (j := 1) (by decide +kernel) rfl rfl rfl) ?_
  refine fw_iftd (cc := .eq) (pc := 6) (off := 8) (by decide +kernel) (by decide) ⟨by decide, by decide⟩ (by decide) ?_
  refine gm_sz (gm_p_const (pc := 14) (i := .bipush 12) (v := gm_vi 12) (by decide +kernel) (by decide +kernel)) ?_
  refine fw_icf (cc := .ge) (pc := 16) (off := 29) (by decide +kernel) (by decide) ⟨by omega, by omega⟩ ⟨by decide, by decide⟩ (show ¬ 12 ≤ ln by omega) ?_
  refine gm_sz (gm_p_load (pc := 19) (i := .iload_n 1) (sr := 0) (j := 1) (by decide +kernel) rfl rfl rfl) ?_
  refine fw_iftd (cc := .eq) (pc := 20) (off := 13) (by decide +kernel) (by decide) ⟨by decide, by decide⟩ (by decide) ?_
  refine gm_sz (gm_p_load (pc := 33) (i := .aload_n 0) (sr := 2) (j := 0) (by decide +kernel) rfl rfl rfl) ?_
  refine gm_sz (gm_p_load (pc := 34) (i := .iload_n 2) (sr := 0) (j := 2) (by decide +kernel) rfl rfl rfl) ?_
  refine gm_c_virt (k := 226) (ci := 11) (mj := 274) (ix := 286) (pc := 35) (as := [gm_vi ln]) (st := []) (d' := d - 1) (bc' := 0) (bs' := 0) (by decide +kernel) (by decide +kernel) (by decide +kernel) (by decide +kernel) (tR226 hE).1 (tR226 hE).2 (by decide) (by decide +kernel) (show 1 = gm_na 274 by decide +kernel) (fw_c1 fw_si) (show 2 ≤ gm_ml 274 by decide +kernel) (Nat.le_of_ble_eq_true rfl) (by omega) (Nat.zero_le _) (Nat.zero_le _) ?_
  refine sr_c274 (by omega) hE ⟨by omega, by omega⟩ hb ⟨by omega, by omega⟩ hls k0 (fun p3 x4 x5 s6 W7 L7 k7 j8 q9b q9 t10 => ?_) (fun p3 x5 s6 W7 f7 j8 => ?_)
  · show gm_Wp X LX d _ _ 247 38 _ [gm_vi 1] n K R _ Q
    have j8 : (g_line (M 231) e b).1 = true := j8
    have g11 : 0 ≤ (g_line (M 231) e b).2 ∧ (g_line (M 231) e b).2 ≤ e := by have := g_line_in (f := M 231) hb.1 hb.2; have := hb.1; omega
    refine fw_iffd (cc := .eq) (pc := 38) (off := 7) (by decide +kernel) (by decide) ⟨by decide, by decide⟩ (by decide) ?_
    refine gm_sz (gm_p_const (pc := 41) (i := .iconst 1) (v := gm_vi 1) (by decide +kernel) (by decide +kernel)) ?_
    refine gm_sz (gm_p_goto (pc := 42) (off := 4) (by decide +kernel) (by decide)) ?_
    have pb := (tx_gb (f := M 231) hp.2).1
    rw [hg] at pb
    exact gm_r_int (pc := 46) (by decide +kernel) (Or.inr ⟨(by decide +kernel), Or.inr rfl⟩) (h1 _ _ _ _ _ _ k7 j8 q9b q9 ⟨by omega, by omega, by omega⟩)
  · show gm_Wp X LX d _ _ 247 38 _ [gm_vi 0] n K R _ Q
    have j8 : ¬ (g_line (M 231) e b).1 = true := j8
    refine fw_iftd (cc := .eq) (pc := 38) (off := 7) (by decide +kernel) (by decide) ⟨by decide, by decide⟩ (by decide) ?_
    refine gm_sz (gm_p_const (pc := 45) (i := .iconst 0) (v := gm_vi 0) (by decide +kernel) (by decide +kernel)) ?_
    exact gm_r_int (pc := 46) (by decide +kernel) (Or.inr ⟨(by decide +kernel), Or.inl rfl⟩) (h0 _ _ _ _ f7 j8)

/-- readAll of a law, from its loop on -/
theorem sr_l243 (hd : 33 ≤ d) (hE : tR n K R M e) : ∀ (t : Nat) (i pt b bg dp st : Int) (W : Int → Int) (L : List (Int × Int)) (ls : List lln), i + t = 12 → 0 ≤ i → 0 ≤ pt ∧ pt ≤ e → tx_g (M 231) e pt = b → 0 ≤ st ∧ st ≤ pt → i = (ls.length : Int) → rdl ls L W0 st W → (∀ p2 bg2 dp2 st2 W2 L2, rdl (ls ++ s_txt (M 231) e t b) L2 W0 st2 W2 → 0 ≤ st2 ∧ st2 ≤ e → (g_txt (M 231) e t b).1 = true → Q (.inl (some (gm_vi (g_txt (M 231) e t b).2))) n K R (rm M p2 bg2 dp2 st2 W2)) → (∀ p2 dp2 st2 W2, (∀ j, j < 1245 → W2 j = W0 j) → ¬ (g_txt (M 231) e t b).1 = true → Q (.inl (some (gm_vi (-1)))) n K R (rm M p2 (g_txt (M 231) e t b).2 dp2 st2 W2)) → gm_Wp X LX d bc bs 243 28 [some (gm_vr 226), some (gm_vi 0), some (gm_vi i)] [] n K R (rm M pt bg dp st W) Q := by
  obtain ⟨-, he0, he4⟩ := tRe hE
  intro t
  induction t with
  | zero =>
    intro i pt b bg dp st W L ls hit hi0 hp hg hst hls k0 h1 h0
    obtain rfl : i = 12 := by omega
    refine gm_sz (gm_p_load (pc := 28) (i := .aload_n 0) (sr := 2) (j := 0) (by decide +kernel) rfl rfl rfl) ?_
    refine gm_sz (gm_p_load (pc := 29) (i := .iload_n 1) (sr := 0) (j := 1) (by decide +kernel) rfl rfl rfl) ?_
    refine gm_sz (gm_p_load (pc := 30) (i := .iload_n 2) (sr := 0) (j := 2) (by decide +kernel) rfl rfl rfl) ?_
    refine gm_c_virt (k := 226) (ci := 11) (mj := 247) (ix := 292) (pc := 31) (as := [gm_vi 0, gm_vi 12]) (st := []) (d' := d - 1) (bc' := 0) (bs' := 0) (by decide +kernel) (by decide +kernel) (by decide +kernel) (by decide +kernel) (tR226 hE).1 (tR226 hE).2 (by decide) (by decide +kernel) (show 2 = gm_na 247 by decide +kernel) (fw_c2 fw_si fw_si) (show 3 ≤ gm_ml 247 by decide +kernel) (Nat.le_of_ble_eq_true rfl) (by omega) (Nat.zero_le _) (Nat.zero_le _) ?_
    refine tr_c247x (by omega) hE hp hg (fun p1 => ?_)
    show gm_Wp X LX d _ _ 243 34 _ [gm_vi 0] n K R _ Q
    refine fw_iffd (cc := .ne) (pc := 34) (off := 5) (by decide +kernel) (by decide) ⟨by decide, by decide⟩ (by decide) ?_
    refine gm_sz (gm_p_const (pc := 37) (i := .iconst (-1)) (v := gm_vi (-1)) (by decide +kernel) (by decide +kernel)) ?_
    exact gm_r_int (pc := 38) (by decide +kernel) (Or.inl (by decide +kernel)) (h0 _ _ _ _ k0.1 (fun h => by cases h))
  | succ t ih =>
    intro i pt b bg dp st W L ls hit hi0 hp hg hst hls k0 h1 h0
    obtain ⟨hg1, hg2, -⟩ := tx_gb (f := M 231) hp.2
    rw [hg] at hg1 hg2
    have hb : 0 ≤ b ∧ b ≤ e := ⟨by omega, hg2⟩
    refine gm_sz (gm_p_load (pc := 28) (i := .aload_n 0) (sr := 2) (j := 0) (by decide +kernel) rfl rfl rfl) ?_
    refine gm_sz (gm_p_load (pc := 29) (i := .iload_n 1) (sr := 0) (j := 1) (by decide +kernel) rfl rfl rfl) ?_
    refine gm_sz (gm_p_load (pc := 30) (i := .iload_n 2) (sr := 0) (j := 2) (by decide +kernel) rfl rfl rfl) ?_
    refine gm_c_virt (k := 226) (ci := 11) (mj := 247) (ix := 292) (pc := 31) (as := [gm_vi 0, gm_vi i]) (st := []) (d' := d - 1) (bc' := 0) (bs' := 0) (by decide +kernel) (by decide +kernel) (by decide +kernel) (by decide +kernel) (tR226 hE).1 (tR226 hE).2 (by decide) (by decide +kernel) (show 2 = gm_na 247 by decide +kernel) (fw_c2 fw_si fw_si) (show 3 ≤ gm_ml 247 by decide +kernel) (Nat.le_of_ble_eq_true rfl) (by omega) (Nat.zero_le _) (Nat.zero_le _) ?_
    refine sr_c247 (by omega) hE ⟨by omega, by omega⟩ hp hg hst hls k0 (fun p1 x2 x3 s4 W5 L5 k5 j6 q7b q7 t8 => ?_) (fun p1 x3 s4 W5 f5 j6 => ?_)
    · show gm_Wp X LX d _ _ 243 34 _ [gm_vi 1] n K R _ Q
      have j6 : (g_line (M 231) e b).1 = true := j6
      have g9 : 0 ≤ (g_line (M 231) e b).2 ∧ (g_line (M 231) e b).2 ≤ e := by have := g_line_in (f := M 231) hb.1 hb.2; have := hb.1; omega
      refine fw_iftd (cc := .ne) (pc := 34) (off := 5) (by decide +kernel) (by decide) ⟨by decide, by decide⟩ (by decide) ?_
      refine gm_sz (gm_p_load (pc := 39) (i := .aload_n 0) (sr := 2) (j := 0) (by decide +kernel) rfl rfl rfl) ?_
      refine gm_c_virt (k := 226) (ci := 11) (mj := 245) (ix := 119) (pc := 40) (as := []) (st := []) (d' := d - 1) (bc' := 0) (bs' := 0) (by decide +kernel) (by decide +kernel) (by decide +kernel) (by decide +kernel) (tR226 hE).1 (tR226 hE).2 (by decide) (by decide +kernel) (show 0 = gm_na 245 by decide +kernel) fw_c0 (show 1 ≤ gm_ml 245 by decide +kernel) (Nat.le_of_ble_eq_true rfl) (by omega) (Nat.zero_le _) (Nat.zero_le _) ?_
      refine tr_c245 (by omega) hE q7b q7 ?_
      show gm_Wp X LX d _ _ 243 43 _ [] n K R _ Q
      have q10 : tx_g (M 231) e ((g_line (M 231) e b).2) = (g_line (M 231) e b).2 := by rw [← q7]; exact tx_gi q7b.2
      refine gm_sz (gm_p_load (pc := 43) (i := .aload_n 0) (sr := 2) (j := 0) (by decide +kernel) rfl rfl rfl) ?_
      refine gm_sz (fw_gi (pc := 44) (ix := 106) (ci := 11) (j := 9) (x := (g_line (M 231) e b).2) (by decide +kernel) (tR226 hE) (by decide +kernel) (by decide +kernel) rfl) ?_
      refine gm_sz (gm_p_load (pc := 47) (i := .aload_n 0) (sr := 2) (j := 0) (by decide +kernel) rfl rfl rfl) ?_
      refine gm_sz (fw_gi (pc := 48) (ix := 109) (ci := 11) (j := 10) (x := e) (by decide +kernel) (tR226 hE) (by decide +kernel) (by decide +kernel) (tRe hE).1) ?_
      refine fw_ic (cc := .ne) (pc := 51) (off := 7) (by decide +kernel) (by decide) ⟨by omega, by omega⟩ ⟨by omega, by omega⟩ (fun j11 => ?_) (fun j11 => ?_)
      · have j11 : ¬ ((g_line (M 231) e b).2) = e := j11
        refine gm_sz (gm_p_load (pc := 58) (i := .aload_n 0) (sr := 2) (j := 0) (by decide +kernel) rfl rfl rfl) ?_
        refine gm_sz (gm_p_const (pc := 59) (i := .bipush 59) (v := gm_vi 59) (by decide +kernel) (by decide +kernel)) ?_
        refine gm_sz (gm_p_const (pc := 61) (i := .bipush 59) (v := gm_vi 59) (by decide +kernel) (by decide +kernel)) ?_
        refine gm_c_virt (k := 226) (ci := 11) (mj := 246) (ix := 112) (pc := 63) (as := [gm_vi 59, gm_vi 59]) (st := []) (d' := d - 1) (bc' := 0) (bs' := 0) (by decide +kernel) (by decide +kernel) (by decide +kernel) (by decide +kernel) (tR226 hE).1 (tR226 hE).2 (by decide) (by decide +kernel) (show 2 = gm_na 246 by decide +kernel) (fw_c2 fw_si fw_si) (show 3 ≤ gm_ml 246 by decide +kernel) (Nat.le_of_ble_eq_true rfl) (by omega) (Nat.zero_le _) (Nat.zero_le _) ?_
        refine tr_c246 hE ⟨by decide, by decide⟩ ⟨by decide, by decide⟩ g9 (fun j12 j13 j14 => ?_) (fun j12 => ?_)
        · show gm_Wp X LX d _ _ 243 66 _ [gm_vi 1] n K R _ Q
          have j12 : (g_line (M 231) e b).2 < e := j12
          have j13 : 59 ≤ M 231 ((g_line (M 231) e b).2) := j13
          have j14 : M 231 ((g_line (M 231) e b).2) ≤ 59 := j14
          refine fw_iftd (cc := .ne) (pc := 66) (off := 5) (by decide +kernel) (by decide) ⟨by decide, by decide⟩ (by decide) ?_
          refine gm_sz (gm_p_load (pc := 71) (i := .aload_n 0) (sr := 2) (j := 0) (by decide +kernel) rfl rfl rfl) ?_
          refine gm_sz (gm_p_dup (pc := 72) (by decide +kernel) fw_sr) ?_
          refine gm_sz (fw_gi (pc := 73) (ix := 106) (ci := 11) (j := 9) (x := (g_line (M 231) e b).2) (by decide +kernel) (tR226 hE) (by decide +kernel) (by decide +kernel) rfl) ?_
          refine gm_sz (gm_p_const (pc := 76) (i := .iconst 1) (v := gm_vi 1) (by decide +kernel) (by decide +kernel)) ?_
          refine gm_sz (gm_p_bin (pc := 77) (i := .iadd) (f := fun x y => x + y) (by decide +kernel) rfl) ?_
          refine gm_sz (fw_pi (pc := 78) (ix := 106) (ci := 11) (j := 9) (M' := rm M (((g_line (M 231) e b).2) + 1) ((g_line (M 231) e b).2) x3 s4 W5) (by decide +kernel) (tR226 hE) (by decide +kernel) (by decide +kernel) (by decide +kernel) rm_pt) ?_
          refine gm_sz (gm_p_iinc (pc := 81) (j := 2) (z := 1) (by decide +kernel) rfl) ?_
          refine gm_sz (gm_p_goto (pc := 84) (off := (-56)) (by decide +kernel) (by decide)) ?_
          have k9 : tx_k (M 231) e (g_line (M 231) e b).2 = 59 := (tx_ksg (f := M 231) (e := e) (b := (g_line (M 231) e b).2) (c := 59) (fun h => tRb hE (by omega) (by omega)) (by decide)).mpr ⟨by omega, by omega⟩
          rw [g_t3 j6 (by omega) k9] at h1 h0
          rw [s_t3 (by omega) k9, List.append_cons] at h1
          have e9 : tx_s (M 231) e (g_line (M 231) e b).2 = (g_line (M 231) e b).2 + 1 := (tx_k3 (f := M 231) (m := 0) (by omega) (by omega) (by omega)).2.1
          have p9 := (tx_gb (f := M 231) q7b.2).1
          rw [q7] at p9
          refine ih (i + 1) _ _ _ _ _ _ _ _ (by omega) (by omega) ⟨by omega, by omega⟩ ?_ ⟨by omega, by omega⟩ (by rw [List.length_append]; show i + 1 = ((ls.length + 1 : Nat) : Int); omega) k5 h1 h0
          unfold tx_n
          rw [e9]
        · show gm_Wp X LX d _ _ 243 66 _ [gm_vi 0] n K R _ Q
          have j12 : ¬ ((g_line (M 231) e b).2 < e ∧ 59 ≤ M 231 ((g_line (M 231) e b).2) ∧ M 231 ((g_line (M 231) e b).2) ≤ 59) := j12
          refine fw_iffd (cc := .ne) (pc := 66) (off := 5) (by decide +kernel) (by decide) ⟨by decide, by decide⟩ (by decide) ?_
          refine gm_sz (gm_p_const (pc := 69) (i := .iconst (-1)) (v := gm_vi (-1)) (by decide +kernel) (by decide +kernel)) ?_
          have ne9 : ¬ tx_k (M 231) e (g_line (M 231) e b).2 = 256 := fun h => by have := tx_kne2 (f := M 231) h; omega
          rw [g_t2 j6 ne9 (fun h => by have := (tx_ksg (f := M 231) (e := e) (b := (g_line (M 231) e b).2) (c := 59) (fun h => tRb hE (by omega) (by omega)) (by decide)).mp h; omega)] at h0
          exact gm_r_int (pc := 70) (by decide +kernel) (Or.inl (by decide +kernel)) (h0 _ _ _ _ k5.1 (fun h => by cases h))
      · have j11 : ((g_line (M 231) e b).2) = e := Classical.not_not.mp j11
        refine gm_sz (gm_p_load (pc := 54) (i := .iload_n 2) (sr := 0) (j := 2) (by decide +kernel) rfl rfl rfl) ?_
        refine gm_sz (gm_p_const (pc := 55) (i := .iconst 1) (v := gm_vi 1) (by decide +kernel) (by decide +kernel)) ?_
        refine gm_sz (gm_p_bin (pc := 56) (i := .iadd) (f := fun x y => x + y) (by decide +kernel) rfl) ?_
        have k09 : tx_k (M 231) e (g_line (M 231) e b).2 = 256 := (tx_k0 (f := M 231) (m := 0) (by omega)).1
        rw [g_t1 j6 k09, s_t1 k09] at h1
        rw [show ((true, 12 - (t : Int)) : Bool × Int).2 = i + 1 by show 12 - (t : Int) = i + 1; omega] at h1
        exact gm_r_int (pc := 57) (by decide +kernel) (Or.inl (by decide +kernel)) (h1 _ _ _ _ _ _ k5 ⟨by omega, by omega⟩ rfl)
    · show gm_Wp X LX d _ _ 243 34 _ [gm_vi 0] n K R _ Q
      have j6 : ¬ (g_line (M 231) e b).1 = true := j6
      refine fw_iffd (cc := .ne) (pc := 34) (off := 5) (by decide +kernel) (by decide) ⟨by decide, by decide⟩ (by decide) ?_
      refine gm_sz (gm_p_const (pc := 37) (i := .iconst (-1)) (v := gm_vi (-1)) (by decide +kernel) (by decide +kernel)) ?_
      rw [g_t0 j6] at h0
      exact gm_r_int (pc := 38) (by decide +kernel) (Or.inl (by decide +kernel)) (h0 _ _ _ _ f5 (fun h => by cases h))

/-- readAll of a law, from behind the steps' 0 on -/
theorem sr_a243 (hd : 33 ≤ d) (hE : tR n K R M e) (z : Option gm_V) (h1 : ∀ p2 bg2 dp2 st2 W2 L2, rdl (s_law (M 231) e) L2 W st2 W2 → 0 ≤ st2 ∧ st2 ≤ e → (g_law (M 231) e).1 = true → Q (.inl (some (gm_vi (g_law (M 231) e).2))) n K R (rm M p2 bg2 dp2 st2 W2)) (h0 : ∀ p2 dp2 st2 W2, (∀ j, j < 1245 → W2 j = W j) → ¬ (g_law (M 231) e).1 = true → Q (.inl (some (gm_vi (-1)))) n K R (rm M p2 (g_law (M 231) e).2 dp2 st2 W2)) : gm_Wp X LX d bc bs 243 9 [some (gm_vr 226), some (gm_vi 0), z] [] n K R (rm M 0 bg dp 0 W) Q := by
  obtain ⟨-, he0, he4⟩ := tRe hE
  have hp : (0 : Int) ≤ 0 ∧ (0 : Int) ≤ e := ⟨Int.le_refl _, he0⟩
  refine gm_sz (gm_p_load (pc := 9) (i := .aload_n 0) (sr := 2) (j := 0) (by decide +kernel) rfl rfl rfl) ?_
  refine gm_c_virt (k := 226) (ci := 11) (mj := 245) (ix := 119) (pc := 10) (as := []) (st := []) (d' := d - 1) (bc' := 0) (bs' := 0) (by decide +kernel) (by decide +kernel) (by decide +kernel) (by decide +kernel) (tR226 hE).1 (tR226 hE).2 (by decide) (by decide +kernel) (show 0 = gm_na 245 by decide +kernel) fw_c0 (show 1 ≤ gm_ml 245 by decide +kernel) (Nat.le_of_ble_eq_true rfl) (by omega) (Nat.zero_le _) (Nat.zero_le _) ?_
  refine tr_c245 (by omega) hE hp rfl ?_
  show gm_Wp X LX d _ _ 243 13 _ [] n K R _ Q
  have g1 : 0 ≤ tx_g (M 231) e 0 ∧ tx_g (M 231) e 0 ≤ e := by have := tx_gb (f := M 231) hp.2; have := hp.1; omega
  have q2 : tx_g (M 231) e (tx_g (M 231) e 0) = tx_g (M 231) e 0 := by rw [← (rfl : tx_g (M 231) e 0 = tx_g (M 231) e 0)]; exact tx_gi hp.2
  refine gm_sz (gm_p_load (pc := 13) (i := .aload_n 0) (sr := 2) (j := 0) (by decide +kernel) rfl rfl rfl) ?_
  refine gm_sz (fw_gi (pc := 14) (ix := 106) (ci := 11) (j := 9) (x := tx_g (M 231) e 0) (by decide +kernel) (tR226 hE) (by decide +kernel) (by decide +kernel) rfl) ?_
  refine gm_sz (gm_p_load (pc := 17) (i := .aload_n 0) (sr := 2) (j := 0) (by decide +kernel) rfl rfl rfl) ?_
  refine gm_sz (fw_gi (pc := 18) (ix := 109) (ci := 11) (j := 10) (x := e) (by decide +kernel) (tR226 hE) (by decide +kernel) (by decide +kernel) (tRe hE).1) ?_
  refine fw_ic (cc := .ne) (pc := 21) (off := 5) (by decide +kernel) (by decide) ⟨by omega, by omega⟩ ⟨by omega, by omega⟩ (fun j3 => ?_) (fun j3 => ?_)
  · have j3 : ¬ (tx_g (M 231) e 0) = e := j3
    refine gm_sz (gm_p_const (pc := 26) (i := .iconst 0) (v := gm_vi 0) (by decide +kernel) (by decide +kernel)) ?_
    refine gm_sz (gm_p_stor (pc := 27) (i := .istore_n 2) (sr := 0) (j := 2) (by decide +kernel) rfl (show 3 ≤ _ from Nat.le_of_ble_eq_true rfl) rfl) ?_
    have n9 : ¬ tx_k (M 231) e (tx_g (M 231) e 0) = 256 := fun h => by have := tx_kne2 (f := M 231) h; omega
    rw [g_w1 n9] at h1 h0
    rw [show s_law (M 231) e = [] ++ s_txt (M 231) e 12 (tx_g (M 231) e 0) from tif_f n9] at h1
    exact sr_l243 hd hE 12 0 _ _ _ _ 0 _ [] [] rfl (Int.le_refl _) g1 q2 ⟨Int.le_refl _, by omega⟩ rfl rdl_0 h1 h0
  · have j3 : (tx_g (M 231) e 0) = e := Classical.not_not.mp j3
    refine gm_sz (gm_p_const (pc := 24) (i := .iconst 0) (v := gm_vi 0) (by decide +kernel) (by decide +kernel)) ?_
    have n9 : tx_k (M 231) e (tx_g (M 231) e 0) = 256 := (tx_k0 (f := M 231) (m := 0) (by omega)).1
    rw [g_w0 n9] at h1
    rw [show s_law (M 231) e = [] from tif_t n9] at h1
    exact gm_r_int (pc := 25) (by decide +kernel) (Or.inl (by decide +kernel)) (h1 _ _ _ _ _ [] rdl_0 ⟨Int.le_refl _, he0⟩ rfl)

end KX2
end
/-! 7a35.v0st -/
section
/-! WHAT A TEXT OF A VALLEY TELLS, by tokens: (whether it is right, where it ends or is wrong, what is told then). -/
section V0
variable (f : Int → Int) (e : Int)
noncomputable def wv_lanes : List Int := [(108 : Int), (97 : Int), (110 : Int), (101 : Int), (115 : Int)]
noncomputable def wv_last : List Int := [(108 : Int), (97 : Int), (115 : Int), (116 : Int)]
noncomputable def wv_section : List Int := [(115 : Int), (101 : Int), (99 : Int), (116 : Int), (105 : Int), (111 : Int), (110 : Int)]
noncomputable def wv_snow : List Int := [(115 : Int), (110 : Int), (111 : Int), (119 : Int)]
noncomputable def wv_stripe : List Int := [(115 : Int), (116 : Int), (114 : Int), (105 : Int), (112 : Int), (101 : Int)]
noncomputable def wv_seed : List Int := [(115 : Int), (101 : Int), (101 : Int), (100 : Int)]
noncomputable def wv_flood : List Int := [(102 : Int), (108 : Int), (111 : Int), (111 : Int), (100 : Int)]
noncomputable def wv_person : List Int := [(112 : Int), (101 : Int), (114 : Int), (115 : Int), (111 : Int), (110 : Int)]
noncomputable def wv_rock : List Int := [(114 : Int), (111 : Int), (99 : Int), (107 : Int)]
noncomputable def wv_table : List Int := [(116 : Int), (97 : Int), (98 : Int), (108 : Int), (101 : Int)]
noncomputable def wv_fall : List Int := [(102 : Int), (97 : Int), (108 : Int), (108 : Int)]
noncomputable def wv_watch : List Int := [(119 : Int), (97 : Int), (116 : Int), (99 : Int), (104 : Int)]
noncomputable def vn (lo hi b : Int) : Prop := tx_k f e b = 258 ∧ lo ≤ tx_v f e 4 b ∧ tx_v f e 4 b ≤ hi
noncomputable def v_emp (N : Int → Int) : Prop := N 2 + N 5 + N 3 + N 4 + N 6 = 0
noncomputable def v_lanes (N : Int → Int) (b : Int) : Bool × Int × (Int → Int) := tif (v_emp N) (tif (vn f e 1 6 (tx_n f e b)) (true, tx_n f e (tx_n f e b), nup (nup N 0 (tx_v f e 4 (tx_n f e b))) 12 (tx_v f e 4 (tx_n f e b))) (false, tx_n f e b, N)) (false, b, N)
noncomputable def v_last (N : Int → Int) (b : Int) : Bool × Int × (Int → Int) := tif (v_emp N) (tif (vn f e 10 99 (tx_n f e b)) (true, tx_n f e (tx_n f e b), nup (nup N 1 (tx_v f e 4 (tx_n f e b))) 10 10) (false, tx_n f e b, N)) (false, b, N)
/-- speeds, t of them, from place a on -/
noncomputable def v_sp : Nat → (Int → Int) → Int → Int → Bool × Int × (Int → Int)
  | 0, N, _, b => (true, b, N)
  | t + 1, N, a, b => tif (vn f e 0 20 b) (v_sp t (nup N a (tx_v f e 4 b)) (a + 1) (tx_n f e b)) (false, b, N)
noncomputable def v_section (N : Int → Int) (b : Int) : Bool × Int × (Int → Int) := tif (N 2 = 8) (false, b, N)
  (tif (vn f e (if N 2 = 0 then 0 else N (15 + ((N 2 - 1) * 7 + 0)) + 1) (if N 2 = 0 then 0 else N 1 - 1) (tx_n f e b))
    (v_sp f e (N 0).toNat (nup (nup N 2 (N 2 + 1)) (15 + (N 2 * 7 + 0)) (tx_v f e 4 (tx_n f e b))) (15 + (N 2 * 7 + (1 + 0))) (tx_n f e (tx_n f e b)))
    (false, tx_n f e b, N))
noncomputable def v_snow (N : Int → Int) (b : Int) : Bool × Int × (Int → Int) := tif (vn f e 0 (N 1 - 1) (tx_n f e b))
  (tif (tx_is f e (tx_n f e (tx_n f e b)) wv_fall) (tif (vn f e 0 9 (tx_n f e (tx_n f e (tx_n f e b)))) (true, tx_n f e (tx_n f e (tx_n f e (tx_n f e b))), nup (nup N 10 (tx_v f e 4 (tx_n f e b))) 11 (tx_v f e 4 (tx_n f e (tx_n f e (tx_n f e b))))) (false, tx_n f e (tx_n f e (tx_n f e b)), N)) (false, tx_n f e (tx_n f e b), N))
  (false, tx_n f e b, N)
noncomputable def v_stripe (N : Int → Int) (b : Int) : Bool × Int × (Int → Int) := tif (vn f e 0 (N 0) (tx_n f e b)) (true, tx_n f e (tx_n f e b), nup N 12 (tx_v f e 4 (tx_n f e b))) (false, tx_n f e b, N)
noncomputable def v_seed (N : Int → Int) (b : Int) : Bool × Int × (Int → Int) := tif (vn f e 0 9999 (tx_n f e b)) (true, tx_n f e (tx_n f e b), nup N 13 (tx_v f e 4 (tx_n f e b))) (false, tx_n f e b, N)
noncomputable def v_flood (N : Int → Int) (b : Int) : Bool × Int × (Int → Int) := tif (N 5 = 8) (false, b, N)
  (tif (vn f e (N 9) 299 (tx_n f e b))
    (tif (vn f e 0 (N 1 - 1) (tx_n f e (tx_n f e b)))
      (tif (vn f e 1 20 (tx_n f e (tx_n f e (tx_n f e b))))
        (true, tx_n f e (tx_n f e (tx_n f e (tx_n f e b))), nup (nup (nup (nup N 5 (N 5 + 1)) (71 + (N 5 * 3 + 0)) (tx_v f e 4 (tx_n f e b))) (71 + (N 5 * 3 + 1)) (tx_v f e 4 (tx_n f e (tx_n f e b)))) (71 + (N 5 * 3 + 2)) (tx_v f e 4 (tx_n f e (tx_n f e (tx_n f e b)))))
        (false, tx_n f e (tx_n f e (tx_n f e b)), N))
      (false, tx_n f e (tx_n f e b), N))
    (false, tx_n f e b, N))
noncomputable def nper (N : Int → Int) (l r w : Int) : Int → Int := nup (nup (nup (nup N 3 (N 3 + 1)) (95 + (N 3 * 3 + 0)) l) (95 + (N 3 * 3 + 1)) r) (95 + (N 3 * 3 + 2)) w
noncomputable def v_person (N : Int → Int) (b : Int) : Bool × Int × (Int → Int) := tif (N 3 = 8) (false, b, N)
  (tif (vn f e 0 (N 0 - 1) (tx_n f e b))
    (tif (vn f e 0 (N 1 - 1) (tx_n f e (tx_n f e b)))
      (tif (tx_is f e (tx_n f e (tx_n f e (tx_n f e b))) wv_watch)
        (tif (vn f e 0 (N 0 - 1) (tx_n f e (tx_n f e (tx_n f e (tx_n f e b)))))
          (true, tx_n f e (tx_n f e (tx_n f e (tx_n f e (tx_n f e b)))), nper N (tx_v f e 4 (tx_n f e b)) (tx_v f e 4 (tx_n f e (tx_n f e b))) (tx_v f e 4 (tx_n f e (tx_n f e (tx_n f e (tx_n f e b))))))
          (false, tx_n f e (tx_n f e (tx_n f e (tx_n f e b))), N))
        (true, tx_n f e (tx_n f e (tx_n f e b)), nper N (tx_v f e 4 (tx_n f e b)) (tx_v f e 4 (tx_n f e (tx_n f e b))) (-1)))
      (false, tx_n f e (tx_n f e b), N))
    (false, tx_n f e b, N))
noncomputable def v_rock (N : Int → Int) (b : Int) : Bool × Int × (Int → Int) := tif (N 4 = 24) (false, b, N)
  (tif (vn f e 0 (N 0 - 1) (tx_n f e b))
    (tif (vn f e 0 (N 1 - 1) (tx_n f e (tx_n f e b)))
      (true, tx_n f e (tx_n f e (tx_n f e b)), nthr N (-1) (-1) (tx_v f e 4 (tx_n f e b)) (tx_v f e 4 (tx_n f e (tx_n f e b))))
      (false, tx_n f e (tx_n f e b), N))
    (false, tx_n f e b, N))
noncomputable def v_table (N : Int → Int) (b : Int) : Bool × Int × (Int → Int) := tif (N 6 = 6) (false, b, N) (v_sp f e (N 0).toNat (nup N 6 (N 6 + 1)) (287 + (N 6 * 6 + (0 + 0))) (tx_n f e b))
noncomputable def v_line (N : Int → Int) (b : Int) : Bool × Int × (Int → Int) :=
  tif (tx_is f e b wv_lanes) (v_lanes f e N b) (tif (tx_is f e b wv_last) (v_last f e N b) (tif (tx_is f e b wv_section) (v_section f e N b) (tif (tx_is f e b wv_snow) (v_snow f e N b) (tif (tx_is f e b wv_stripe) (v_stripe f e N b) (tif (tx_is f e b wv_seed) (v_seed f e N b) (tif (tx_is f e b wv_flood) (v_flood f e N b) (tif (tx_is f e b wv_person) (v_person f e N b) (tif (tx_is f e b wv_rock) (v_rock f e N b) (tif (tx_is f e b wv_table) (v_table f e N b) (false, b, N))))))))))
noncomputable def v_txt : Nat → (Int → Int) → Int → Bool × Int × (Int → Int)
  | 0, N, b => (false, b, N)
  | t + 1, N, b => tif ((v_line f e N b).1 = true) (tif (tx_k f e (v_line f e N b).2.1 = 256) (v_line f e N b) (tif (tx_k f e (v_line f e N b).2.1 = 59) (v_txt t (v_line f e N b).2.2 (tx_n f e (v_line f e N b).2.1)) (false, (v_line f e N b).2.1, N))) (false, (v_line f e N b).2.1, N)
/-- the valley that is told -/
noncomputable def v_val (N : Int → Int) : Bool × Int × (Int → Int) := tif (tx_k f e (tx_g f e 0) = 256) (true, tx_g f e 0, N) (v_txt f e 14 N (tx_g f e 0))
end V0
end
/-! 7a36.i0gi -/
section
/-! WHAT STAYS TRUE OF WHAT IS TOLD (laid by wip/core/i0.py). -/
/-- what always holds of what is told -/
noncomputable def GI (N : Int → Int) : Prop := NR N ∧ NS N ∧ LOGI N
section GI0
variable {N N2 : Int → Int} {f t l r p w a b e v j : Int}
/-- what was thrown in last -/
theorem nthr_o (h : 0 ≤ j ∧ j < 119) (h4 : ¬ j = 4) (hn : 0 ≤ N 4) : nthr N f t l r j = N j := by
  unfold nthr
  rw [nup_ne (by omega), nup_ne (by omega), nup_ne (by omega), nup_ne (by omega), nup_ne (by omega), nup_ne (by omega), nup_ne (by omega), nup_ne h4]
theorem nthr_n (hn : 0 ≤ N 4) : nthr N f t l r 4 = N 4 + 1 := by
  unfold nthr
  rw [nup_ne (by omega), nup_ne (by omega), nup_ne (by omega), nup_ne (by omega), nup_ne (by omega), nup_ne (by omega), nup_ne (by omega), nup_at]
theorem nthr_x {k c : Int} (hk : 0 ≤ k ∧ k < N 4) (hc : 0 ≤ c ∧ c < 7) : nthr N f t l r (119 + (k * 7 + c)) = N (119 + (k * 7 + c)) := by
  unfold nthr
  rw [nup_ne (by omega), nup_ne (by omega), nup_ne (by omega), nup_ne (by omega), nup_ne (by omega), nup_ne (by omega), nup_ne (by omega), nup_ne (by omega)]
theorem nthr_a : nthr N f t l r (119 + (N 4 * 7 + 0)) = f := by
  unfold nthr
  rw [nup_ne (by omega), nup_ne (by omega), nup_ne (by omega), nup_ne (by omega), nup_ne (by omega), nup_ne (by omega), nup_at]
theorem nthr_b : nthr N f t l r (119 + (N 4 * 7 + 1)) = t := by
  unfold nthr
  rw [nup_ne (by omega), nup_ne (by omega), nup_ne (by omega), nup_ne (by omega), nup_ne (by omega), nup_at]
theorem nthr_c : nthr N f t l r (119 + (N 4 * 7 + 2)) = l := by
  unfold nthr
  rw [nup_ne (by omega), nup_ne (by omega), nup_ne (by omega), nup_ne (by omega), nup_at]
theorem nthr_d : nthr N f t l r (119 + (N 4 * 7 + 3)) = N 9 := by
  unfold nthr
  rw [nup_ne (by omega), nup_ne (by omega), nup_ne (by omega), nup_at]
theorem nthr_e : nthr N f t l r (119 + (N 4 * 7 + 4)) = r := by
  unfold nthr
  rw [nup_ne (by omega), nup_ne (by omega), nup_at]
theorem nthr_f : nthr N f t l r (119 + (N 4 * 7 + 5)) = -1 := by
  unfold nthr
  rw [nup_ne (by omega), nup_at]
theorem nthr_g : nthr N f t l r (119 + (N 4 * 7 + 6)) = -1 := by
  unfold nthr
  rw [nup_at]
theorem nr_nthr (hN : NR N) (h4 : N 4 < 24) (hf : -1 ≤ f ∧ f < N 3) (ht : -1 ≤ t ∧ t < N 3) (hl : 0 ≤ l ∧ l < N 0) (hr : 0 ≤ r ∧ r < N 1) (hft : 0 ≤ f → 0 ≤ t) : NR (nthr N f t l r) := by
  obtain ⟨⟨⟨a0, b0⟩, ⟨a1, b1⟩, ⟨a10, b10⟩, ⟨a11, b11⟩, ⟨a12, b12⟩, a9, b9⟩, ⟨⟨a2, b2⟩, ⟨a5, b5⟩, ⟨a3, b3⟩, ⟨a4, b4⟩, ⟨a6, b6⟩, ⟨a14, b14⟩, ⟨a7, b7⟩, a13, b13⟩, rF, rP, rL⟩ := id hN
  have e : ∀ j, 0 ≤ j ∧ j < 119 → ¬ j = 4 → nthr N f t l r j = N j := fun j h h2 => nthr_o h h2 a4
  have e4 : nthr N f t l r 4 = N 4 + 1 := nthr_n a4
  have e14 : nthr N f t l r 14 = N 14 := e 14 (by decide) (by decide)
  unfold NR
  rw [e4, e 0 (by decide) (by decide), e 1 (by decide) (by decide), e 10 (by decide) (by decide), e 11 (by decide) (by decide), e 12 (by decide) (by decide), e 9 (by decide) (by decide), e 2 (by decide) (by decide), e 5 (by decide) (by decide), e 3 (by decide) (by decide), e 6 (by decide) (by decide), e14, e 7 (by decide) (by decide), e 13 (by decide) (by decide)]
  refine ⟨⟨⟨a0, b0⟩, ⟨a1, b1⟩, ⟨a10, b10⟩, ⟨a11, b11⟩, ⟨a12, b12⟩, a9, b9⟩, ⟨⟨a2, b2⟩, ⟨a5, b5⟩, ⟨a3, b3⟩, ⟨by omega, by omega⟩, ⟨a6, b6⟩, ⟨a14, b14⟩, ⟨a7, b7⟩, a13, b13⟩, fun q h0 h1 => ?_, fun q h0 h1 => ?_, fun q h0 h1 => ?_⟩
  · rw [e (71 + (q * 3 + 0)) (by omega) (by omega), e (71 + (q * 3 + 1)) (by omega) (by omega), e (71 + (q * 3 + 2)) (by omega) (by omega)]
    exact rF q h0 h1
  · rw [e (95 + (q * 3 + 0)) (by omega) (by omega), e (95 + (q * 3 + 1)) (by omega) (by omega), e (95 + (q * 3 + 2)) (by omega) (by omega)]
    exact rP q h0 h1
  · by_cases hq : q = N 4
    · subst hq
      rw [nthr_a, nthr_b, nthr_c, nthr_d, nthr_e, nthr_f, nthr_g]
      exact ⟨hf, ht, hl, ⟨a9, Int.le_refl _⟩, hr, ⟨by omega, by omega⟩, ⟨by omega, by omega⟩, hft⟩
    · have k : 0 ≤ q ∧ q < N 4 := ⟨h0, by omega⟩
      rw [nthr_x k (by decide), nthr_x k (by decide), nthr_x k (by decide), nthr_x k (by decide), nthr_x k (by decide), nthr_x k (by decide), nthr_x k (by decide)]
      exact rL q h0 k.2
theorem ns_same (hS : NS N) (h0 : N2 0 = N 0) (h2 : N2 2 = N 2) (h : ∀ j, 15 ≤ j → j < 71 → N2 j = N j) (hm : N 2 ≤ 8) (hl : N 0 ≤ 6) : NS N2 := by
  intro s s0 s1
  rw [h2] at s1
  obtain ⟨k1, k2⟩ := hS s s0 s1
  refine ⟨by rw [h _ (by omega) (by omega)]; exact k1, fun l l0 l1 => ?_⟩
  rw [h0] at l1
  rw [h _ (by omega) (by omega)]
  exact k2 l l0 l1
theorem ns_nthr (hN : NR N) (hS : NS N) : NS (nthr N f t l r) := ns_same hS (nthr_o (by decide) (by decide) hN.2.1.2.2.2.1.1) (nthr_o (by decide) (by decide) hN.2.1.2.2.2.1.1) (fun j h1 h2 => nthr_o (by omega) (by omega) hN.2.1.2.2.2.1.1) hN.2.1.1.2 hN.1.1.2
theorem logi_nthr (hN : NR N) (hg : LOGI N) : LOGI (nthr N f t l r) := by
  have a4 := hN.2.1.2.2.2.1.1
  show nthr N f t l r 14 = nop (nthr N f t l r) (nthr N f t l r 4).toNat
  rw [nthr_o (by decide) (by decide) a4, nthr_n a4, show (N 4 + 1).toNat = (N 4).toNat + 1 by omega]
  show N 14 = nop (nthr N f t l r) (N 4).toNat + (if nthr N f t l r (119 + ((((N 4).toNat : Nat) : Int) * 7 + 5)) = -1 then 0 else 1)
  rw [Int.toNat_of_nonneg a4, nthr_f, if_pos rfl, nop_e (N := N) (N 4).toNat (fun u hu => by rw [nthr_x ⟨by omega, by omega⟩ (by decide)])]
  have hg : N 14 = nop N (N 4).toNat := hg
  omega
theorem gi_nthr (h : GI N) (h4 : N 4 < 24) (hf : -1 ≤ f ∧ f < N 3) (ht : -1 ≤ t ∧ t < N 3) (hl : 0 ≤ l ∧ l < N 0) (hr : 0 ≤ r ∧ r < N 1) (hft : 0 ≤ f → 0 ≤ t) : GI (nthr N f t l r) := ⟨nr_nthr h.1 h4 hf ht hl hr hft, ns_nthr h.1 h.2.1, logi_nthr h.1 h.2.2⟩
/-- who watches -/
theorem nwat_o (h : ¬ j = 95 + (p * 3 + 2)) : nwat N p w j = N j := nup_ne h
theorem gi_nwat (h : GI N) (hp : 0 ≤ p ∧ p < N 3) (hw : -1 ≤ w ∧ w < N 0) : GI (nwat N p w) := by
  obtain ⟨hN, hS, hg⟩ := h
  obtain ⟨⟨⟨a0, b0⟩, ⟨a1, b1⟩, ⟨a10, b10⟩, ⟨a11, b11⟩, ⟨a12, b12⟩, a9, b9⟩, ⟨⟨a2, b2⟩, ⟨a5, b5⟩, ⟨a3, b3⟩, ⟨a4, b4⟩, ⟨a6, b6⟩, ⟨a14, b14⟩, ⟨a7, b7⟩, a13, b13⟩, rF, rP, rL⟩ := id hN
  have e : ∀ j, j < 95 ∨ 119 ≤ j → nwat N p w j = N j := fun j h => nwat_o (by omega)
  refine ⟨?_, ns_same hS (e 0 (by decide)) (e 2 (by decide)) (fun j h1 h2 => e j (by omega)) b2 b0, ?_⟩
  · unfold NR
    rw [e 4 (by decide), e 0 (by decide), e 1 (by decide), e 10 (by decide), e 11 (by decide), e 12 (by decide), e 9 (by decide), e 2 (by decide), e 5 (by decide), e 3 (by decide), e 6 (by decide), e 14 (by decide), e 7 (by decide), e 13 (by decide)]
    refine ⟨⟨⟨a0, b0⟩, ⟨a1, b1⟩, ⟨a10, b10⟩, ⟨a11, b11⟩, ⟨a12, b12⟩, a9, b9⟩, ⟨⟨a2, b2⟩, ⟨a5, b5⟩, ⟨a3, b3⟩, ⟨a4, b4⟩, ⟨a6, b6⟩, ⟨a14, b14⟩, ⟨a7, b7⟩, a13, b13⟩, fun q h0 h1 => ?_, fun q h0 h1 => ?_, fun q h0 h1 => ?_⟩
    · rw [e (71 + (q * 3 + 0)) (by omega), e (71 + (q * 3 + 1)) (by omega), e (71 + (q * 3 + 2)) (by omega)]
      exact rF q h0 h1
    · rw [nwat_o (j := 95 + (q * 3 + 0)) (by omega), nwat_o (j := 95 + (q * 3 + 1)) (by omega)]
      obtain ⟨k1, k2, k3⟩ := rP q h0 h1
      refine ⟨k1, k2, ?_⟩
      by_cases hq : q = p
      · subst hq
        have : nwat N q w (95 + (q * 3 + 2)) = w := nup_at
        rw [this]
        exact hw
      · rw [nwat_o (j := 95 + (q * 3 + 2)) (by omega)]
        exact k3
    · rw [e (119 + (q * 7 + 0)) (by omega), e (119 + (q * 7 + 1)) (by omega), e (119 + (q * 7 + 2)) (by omega), e (119 + (q * 7 + 3)) (by omega), e (119 + (q * 7 + 4)) (by omega), e (119 + (q * 7 + 5)) (by omega), e (119 + (q * 7 + 6)) (by omega)]
      exact rL q h0 h1
  · show nwat N p w 14 = nop (nwat N p w) (nwat N p w 4).toNat
    rw [e 14 (by decide), e 4 (by decide), nop_e (N := N) (N 4).toNat (fun u hu => by rw [e _ (by omega)])]
    exact hg
end GI0
/-! A TEXT OF A VALLEY: where it ends, what stays true. -/
section VB
variable {f : Int → Int} {e b : Int} {N : Int → Int}
theorem tif_i {α : Type} {C : α → Prop} {P : Prop} {a b : α} (ha : C a) (hb : C b) : C (tif P a b) := by
  by_cases h : P
  · rw [tif_t h]; exact ha
  · rw [tif_f h]; exact hb
theorem v_sp_b : ∀ (t : Nat) (N : Int → Int) (a b : Int), 0 ≤ b ∧ b ≤ e → b ≤ (v_sp f e t N a b).2.1 ∧ (v_sp f e t N a b).2.1 ≤ e := by
  intro t
  induction t with
  | zero => exact fun N a b h => ⟨Int.le_refl _, h.2⟩
  | succ t ih =>
    intro N a b h
    by_cases h1 : vn f e 0 20 b
    · rw [show v_sp f e (t + 1) N a b = v_sp f e t (nup N a (tx_v f e 4 b)) (a + 1) (tx_n f e b) from tif_t h1]
      have n1 := tx_nb (f := f) h.2
      have := ih (nup N a (tx_v f e 4 b)) (a + 1) (tx_n f e b) ⟨by omega, n1.2.1⟩
      exact ⟨by omega, this.2⟩
    · rw [show v_sp f e (t + 1) N a b = (false, b, N) from tif_f h1]
      exact ⟨Int.le_refl _, h.2⟩
/-- speeds: what is written, what is not -/
theorem v_sp_w : ∀ (t : Nat) (N : Int → Int) (a b : Int), (v_sp f e t N a b).1 = true → (∀ j, j < a ∨ a + (t : Int) ≤ j → (v_sp f e t N a b).2.2 j = N j) ∧ ∀ j, a ≤ j → j < a + (t : Int) → 0 ≤ (v_sp f e t N a b).2.2 j ∧ (v_sp f e t N a b).2.2 j ≤ 20 := by
  intro t
  induction t with
  | zero => exact fun N a b _ => ⟨fun j _ => rfl, fun j h0 h1 => absurd h1 (by omega)⟩
  | succ t ih =>
    intro N a b h
    by_cases h1 : vn f e 0 20 b
    · rw [show v_sp f e (t + 1) N a b = v_sp f e t (nup N a (tx_v f e 4 b)) (a + 1) (tx_n f e b) from tif_t h1] at h ⊢
      obtain ⟨i1, i2⟩ := ih _ _ _ h
      refine ⟨fun j hj => ?_, fun j h0 h2 => ?_⟩
      · rw [i1 j (by omega), nup_ne (by omega)]
      · by_cases e9 : j = a
        · rw [i1 j (by omega), e9, nup_at]
          exact h1.2
        · exact i2 j (by omega) (by omega)
    · rw [show v_sp f e (t + 1) N a b = (false, b, N) from tif_f h1] at h
      cases h
theorem v_lanes_b (h : 0 ≤ b ∧ b ≤ e) : b ≤ (v_lanes f e N b).2.1 ∧ (v_lanes f e N b).2.1 ≤ e := by
  obtain ⟨p1, p2, -⟩ := tx_nb (f := f) h.2
  obtain ⟨p3, p4, -⟩ := tx_nb (f := f) p2
  obtain ⟨p5, p6, -⟩ := tx_nb (f := f) p4
  obtain ⟨p7, p8, -⟩ := tx_nb (f := f) p6
  obtain ⟨p9, p10, -⟩ := tx_nb (f := f) p8
  unfold v_lanes tif
  repeat' split
  all_goals first | exact ⟨by dsimp only; omega, by dsimp only; omega⟩
theorem v_last_b (h : 0 ≤ b ∧ b ≤ e) : b ≤ (v_last f e N b).2.1 ∧ (v_last f e N b).2.1 ≤ e := by
  obtain ⟨p1, p2, -⟩ := tx_nb (f := f) h.2
  obtain ⟨p3, p4, -⟩ := tx_nb (f := f) p2
  obtain ⟨p5, p6, -⟩ := tx_nb (f := f) p4
  obtain ⟨p7, p8, -⟩ := tx_nb (f := f) p6
  obtain ⟨p9, p10, -⟩ := tx_nb (f := f) p8
  unfold v_last tif
  repeat' split
  all_goals first | exact ⟨by dsimp only; omega, by dsimp only; omega⟩
theorem v_snow_b (h : 0 ≤ b ∧ b ≤ e) : b ≤ (v_snow f e N b).2.1 ∧ (v_snow f e N b).2.1 ≤ e := by
  obtain ⟨p1, p2, -⟩ := tx_nb (f := f) h.2
  obtain ⟨p3, p4, -⟩ := tx_nb (f := f) p2
  obtain ⟨p5, p6, -⟩ := tx_nb (f := f) p4
  obtain ⟨p7, p8, -⟩ := tx_nb (f := f) p6
  obtain ⟨p9, p10, -⟩ := tx_nb (f := f) p8
  unfold v_snow tif
  repeat' split
  all_goals first | exact ⟨by dsimp only; omega, by dsimp only; omega⟩
theorem v_stripe_b (h : 0 ≤ b ∧ b ≤ e) : b ≤ (v_stripe f e N b).2.1 ∧ (v_stripe f e N b).2.1 ≤ e := by
  obtain ⟨p1, p2, -⟩ := tx_nb (f := f) h.2
  obtain ⟨p3, p4, -⟩ := tx_nb (f := f) p2
  obtain ⟨p5, p6, -⟩ := tx_nb (f := f) p4
  obtain ⟨p7, p8, -⟩ := tx_nb (f := f) p6
  obtain ⟨p9, p10, -⟩ := tx_nb (f := f) p8
  unfold v_stripe tif
  repeat' split
  all_goals first | exact ⟨by dsimp only; omega, by dsimp only; omega⟩
theorem v_seed_b (h : 0 ≤ b ∧ b ≤ e) : b ≤ (v_seed f e N b).2.1 ∧ (v_seed f e N b).2.1 ≤ e := by
  obtain ⟨p1, p2, -⟩ := tx_nb (f := f) h.2
  obtain ⟨p3, p4, -⟩ := tx_nb (f := f) p2
  obtain ⟨p5, p6, -⟩ := tx_nb (f := f) p4
  obtain ⟨p7, p8, -⟩ := tx_nb (f := f) p6
  obtain ⟨p9, p10, -⟩ := tx_nb (f := f) p8
  unfold v_seed tif
  repeat' split
  all_goals first | exact ⟨by dsimp only; omega, by dsimp only; omega⟩
theorem v_flood_b (h : 0 ≤ b ∧ b ≤ e) : b ≤ (v_flood f e N b).2.1 ∧ (v_flood f e N b).2.1 ≤ e := by
  obtain ⟨p1, p2, -⟩ := tx_nb (f := f) h.2
  obtain ⟨p3, p4, -⟩ := tx_nb (f := f) p2
  obtain ⟨p5, p6, -⟩ := tx_nb (f := f) p4
  obtain ⟨p7, p8, -⟩ := tx_nb (f := f) p6
  obtain ⟨p9, p10, -⟩ := tx_nb (f := f) p8
  unfold v_flood tif
  repeat' split
  all_goals first | exact ⟨by dsimp only; omega, by dsimp only; omega⟩
theorem v_person_b (h : 0 ≤ b ∧ b ≤ e) : b ≤ (v_person f e N b).2.1 ∧ (v_person f e N b).2.1 ≤ e := by
  obtain ⟨p1, p2, -⟩ := tx_nb (f := f) h.2
  obtain ⟨p3, p4, -⟩ := tx_nb (f := f) p2
  obtain ⟨p5, p6, -⟩ := tx_nb (f := f) p4
  obtain ⟨p7, p8, -⟩ := tx_nb (f := f) p6
  obtain ⟨p9, p10, -⟩ := tx_nb (f := f) p8
  unfold v_person tif
  repeat' split
  all_goals first | exact ⟨by dsimp only; omega, by dsimp only; omega⟩
theorem v_rock_b (h : 0 ≤ b ∧ b ≤ e) : b ≤ (v_rock f e N b).2.1 ∧ (v_rock f e N b).2.1 ≤ e := by
  obtain ⟨p1, p2, -⟩ := tx_nb (f := f) h.2
  obtain ⟨p3, p4, -⟩ := tx_nb (f := f) p2
  obtain ⟨p5, p6, -⟩ := tx_nb (f := f) p4
  obtain ⟨p7, p8, -⟩ := tx_nb (f := f) p6
  obtain ⟨p9, p10, -⟩ := tx_nb (f := f) p8
  unfold v_rock tif
  repeat' split
  all_goals first | exact ⟨by dsimp only; omega, by dsimp only; omega⟩
theorem v_section_b (h : 0 ≤ b ∧ b ≤ e) : b ≤ (v_section f e N b).2.1 ∧ (v_section f e N b).2.1 ≤ e := by
  obtain ⟨p1, p2, -⟩ := tx_nb (f := f) h.2
  obtain ⟨p3, p4, -⟩ := tx_nb (f := f) p2
  obtain ⟨p5, p6, -⟩ := tx_nb (f := f) p4
  obtain ⟨p7, p8, -⟩ := tx_nb (f := f) p6
  obtain ⟨p9, p10, -⟩ := tx_nb (f := f) p8
  have sp := fun t N2 a => v_sp_b (f := f) (e := e) t N2 a (tx_n f e (tx_n f e b)) ⟨by omega, by omega⟩
  refine tif_i (C := fun (q : Bool × Int × (Int → Int)) => b ≤ q.2.1 ∧ q.2.1 ≤ e) ⟨Int.le_refl _, h.2⟩ (tif_i (C := fun (q : Bool × Int × (Int → Int)) => b ≤ q.2.1 ∧ q.2.1 ≤ e) ?_ ⟨p1, p2⟩)
  exact ⟨Int.le_trans (by omega) (sp _ _ _).1, (sp _ _ _).2⟩
theorem v_table_b (h : 0 ≤ b ∧ b ≤ e) : b ≤ (v_table f e N b).2.1 ∧ (v_table f e N b).2.1 ≤ e := by
  obtain ⟨p1, p2, -⟩ := tx_nb (f := f) h.2
  obtain ⟨p3, p4, -⟩ := tx_nb (f := f) p2
  obtain ⟨p5, p6, -⟩ := tx_nb (f := f) p4
  obtain ⟨p7, p8, -⟩ := tx_nb (f := f) p6
  obtain ⟨p9, p10, -⟩ := tx_nb (f := f) p8
  have sp := fun t N2 a => v_sp_b (f := f) (e := e) t N2 a (tx_n f e b) ⟨by omega, by omega⟩
  unfold v_table tif
  repeat' split
  all_goals first | exact ⟨by dsimp only; omega, by dsimp only; omega⟩ | exact ⟨Int.le_trans (by omega) (sp _ _ _).1, (sp _ _ _).2⟩
theorem v_line_b (h : 0 ≤ b ∧ b ≤ e) : b ≤ (v_line f e N b).2.1 ∧ (v_line f e N b).2.1 ≤ e := by
  unfold v_line tif
  repeat' split
  · exact v_lanes_b h
  · exact v_last_b h
  · exact v_section_b h
  · exact v_snow_b h
  · exact v_stripe_b h
  · exact v_seed_b h
  · exact v_flood_b h
  · exact v_person_b h
  · exact v_rock_b h
  · exact v_table_b h
  · exact ⟨Int.le_refl _, h.2⟩
end VB
section VG
variable {f : Int → Int} {e b v w : Int} {N N2 : Int → Int}
theorem logi_same (hg : LOGI N) (h14 : N2 14 = N 14) (h4 : N2 4 = N 4) (h : ∀ j, 119 ≤ j → j < 287 → N2 j = N j) (b4 : N 4 ≤ 24) : LOGI N2 := by
  show N2 14 = nop N2 (N2 4).toNat
  rw [h14, h4, nop_e (N := N) (N 4).toNat (fun u hu => by rw [h _ (by omega) (by omega)])]
  exact hg
theorem v_emp0 (hN : NR N) (h : v_emp N) : N 2 = 0 ∧ N 5 = 0 ∧ N 3 = 0 ∧ N 4 = 0 ∧ N 6 = 0 := by
  obtain ⟨-, ⟨⟨a2, -⟩, ⟨a5, -⟩, ⟨a3, -⟩, ⟨a4, -⟩, ⟨a6, -⟩, -⟩, -⟩ := hN
  have h : N 2 + N 5 + N 3 + N 4 + N 6 = 0 := h
  omega
theorem gi_lanes (h : GI N) (hv : 1 ≤ v ∧ v ≤ 6) (he : v_emp N) : GI (nup (nup N 0 v) 12 v) := by
  obtain ⟨hN, hS, hg⟩ := h
  obtain ⟨⟨⟨a0, b0⟩, ⟨a1, b1⟩, ⟨a10, b10⟩, ⟨a11, b11⟩, ⟨a12, b12⟩, a9, b9⟩, ⟨⟨a2, b2⟩, ⟨a5, b5⟩, ⟨a3, b3⟩, ⟨a4, b4⟩, ⟨a6, b6⟩, ⟨a14, b14⟩, ⟨a7, b7⟩, a13, b13⟩, rF, rP, rL⟩ := id hN
  obtain ⟨z2, z5, z3, z4, z6⟩ := v_emp0 hN he
  have eg : ∀ j, 15 ≤ j → (nup (nup N 0 v) 12 v) j = N j := fun j h => by rw [nup_ne (by omega), nup_ne (by omega)]
  have e4 : (nup (nup N 0 v) 12 v) 4 = N 4 := by rw [nup_ne (by decide), nup_ne (by decide)]
  have e0 : (nup (nup N 0 v) 12 v) 0 = v := by rw [nup_ne (by decide), nup_at]
  have e1 : (nup (nup N 0 v) 12 v) 1 = N 1 := by rw [nup_ne (by decide), nup_ne (by decide)]
  have e10 : (nup (nup N 0 v) 12 v) 10 = N 10 := by rw [nup_ne (by decide), nup_ne (by decide)]
  have e11 : (nup (nup N 0 v) 12 v) 11 = N 11 := by rw [nup_ne (by decide), nup_ne (by decide)]
  have e12 : (nup (nup N 0 v) 12 v) 12 = v := by rw [nup_at]
  have e9 : (nup (nup N 0 v) 12 v) 9 = N 9 := by rw [nup_ne (by decide), nup_ne (by decide)]
  have e2 : (nup (nup N 0 v) 12 v) 2 = N 2 := by rw [nup_ne (by decide), nup_ne (by decide)]
  have e5 : (nup (nup N 0 v) 12 v) 5 = N 5 := by rw [nup_ne (by decide), nup_ne (by decide)]
  have e3 : (nup (nup N 0 v) 12 v) 3 = N 3 := by rw [nup_ne (by decide), nup_ne (by decide)]
  have e6 : (nup (nup N 0 v) 12 v) 6 = N 6 := by rw [nup_ne (by decide), nup_ne (by decide)]
  have e14 : (nup (nup N 0 v) 12 v) 14 = N 14 := by rw [nup_ne (by decide), nup_ne (by decide)]
  have e7 : (nup (nup N 0 v) 12 v) 7 = N 7 := by rw [nup_ne (by decide), nup_ne (by decide)]
  have e13 : (nup (nup N 0 v) 12 v) 13 = N 13 := by rw [nup_ne (by decide), nup_ne (by decide)]
  refine ⟨?_, ?_, ?_⟩
  · unfold NR
    rw [e4, e0, e1, e10, e11, e12, e9, e2, e5, e3, e6, e14, e7, e13]
    refine ⟨⟨⟨by omega, by omega⟩, ⟨by omega, by omega⟩, ⟨by omega, by omega⟩, ⟨by omega, by omega⟩, ⟨by omega, by omega⟩, by omega, by omega⟩, ⟨⟨by omega, by omega⟩, ⟨by omega, by omega⟩, ⟨by omega, by omega⟩, ⟨by omega, by omega⟩, ⟨by omega, by omega⟩, ⟨by omega, by omega⟩, ⟨by omega, by omega⟩, by omega, by omega⟩, ?_, ?_, ?_⟩
    · exact fun q h0 h1 => absurd h1 (by omega)
    · exact fun q h0 h1 => absurd h1 (by omega)
    · exact fun q h0 h1 => absurd h1 (by omega)
  · intro s s0 s1
    rw [e2] at s1
    exact absurd s1 (by omega)
  · exact logi_same hg e14 e4 (fun j h1 h2 => eg j (by omega)) b4
theorem gi_last (h : GI N) (hv : 10 ≤ v ∧ v ≤ 99) (he : v_emp N) : GI (nup (nup N 1 v) 10 10) := by
  obtain ⟨hN, hS, hg⟩ := h
  obtain ⟨⟨⟨a0, b0⟩, ⟨a1, b1⟩, ⟨a10, b10⟩, ⟨a11, b11⟩, ⟨a12, b12⟩, a9, b9⟩, ⟨⟨a2, b2⟩, ⟨a5, b5⟩, ⟨a3, b3⟩, ⟨a4, b4⟩, ⟨a6, b6⟩, ⟨a14, b14⟩, ⟨a7, b7⟩, a13, b13⟩, rF, rP, rL⟩ := id hN
  obtain ⟨z2, z5, z3, z4, z6⟩ := v_emp0 hN he
  have eg : ∀ j, 15 ≤ j → (nup (nup N 1 v) 10 10) j = N j := fun j h => by rw [nup_ne (by omega), nup_ne (by omega)]
  have e4 : (nup (nup N 1 v) 10 10) 4 = N 4 := by rw [nup_ne (by decide), nup_ne (by decide)]
  have e0 : (nup (nup N 1 v) 10 10) 0 = N 0 := by rw [nup_ne (by decide), nup_ne (by decide)]
  have e1 : (nup (nup N 1 v) 10 10) 1 = v := by rw [nup_ne (by decide), nup_at]
  have e10 : (nup (nup N 1 v) 10 10) 10 = 10 := by rw [nup_at]
  have e11 : (nup (nup N 1 v) 10 10) 11 = N 11 := by rw [nup_ne (by decide), nup_ne (by decide)]
  have e12 : (nup (nup N 1 v) 10 10) 12 = N 12 := by rw [nup_ne (by decide), nup_ne (by decide)]
  have e9 : (nup (nup N 1 v) 10 10) 9 = N 9 := by rw [nup_ne (by decide), nup_ne (by decide)]
  have e2 : (nup (nup N 1 v) 10 10) 2 = N 2 := by rw [nup_ne (by decide), nup_ne (by decide)]
  have e5 : (nup (nup N 1 v) 10 10) 5 = N 5 := by rw [nup_ne (by decide), nup_ne (by decide)]
  have e3 : (nup (nup N 1 v) 10 10) 3 = N 3 := by rw [nup_ne (by decide), nup_ne (by decide)]
  have e6 : (nup (nup N 1 v) 10 10) 6 = N 6 := by rw [nup_ne (by decide), nup_ne (by decide)]
  have e14 : (nup (nup N 1 v) 10 10) 14 = N 14 := by rw [nup_ne (by decide), nup_ne (by decide)]
  have e7 : (nup (nup N 1 v) 10 10) 7 = N 7 := by rw [nup_ne (by decide), nup_ne (by decide)]
  have e13 : (nup (nup N 1 v) 10 10) 13 = N 13 := by rw [nup_ne (by decide), nup_ne (by decide)]
  refine ⟨?_, ?_, ?_⟩
  · unfold NR
    rw [e4, e0, e1, e10, e11, e12, e9, e2, e5, e3, e6, e14, e7, e13]
    refine ⟨⟨⟨by omega, by omega⟩, ⟨by omega, by omega⟩, ⟨by omega, by omega⟩, ⟨by omega, by omega⟩, ⟨by omega, by omega⟩, by omega, by omega⟩, ⟨⟨by omega, by omega⟩, ⟨by omega, by omega⟩, ⟨by omega, by omega⟩, ⟨by omega, by omega⟩, ⟨by omega, by omega⟩, ⟨by omega, by omega⟩, ⟨by omega, by omega⟩, by omega, by omega⟩, ?_, ?_, ?_⟩
    · exact fun q h0 h1 => absurd h1 (by omega)
    · exact fun q h0 h1 => absurd h1 (by omega)
    · exact fun q h0 h1 => absurd h1 (by omega)
  · intro s s0 s1
    rw [e2] at s1
    exact absurd s1 (by omega)
  · exact logi_same hg e14 e4 (fun j h1 h2 => eg j (by omega)) b4
theorem gi_snow (h : GI N) (hv : 0 ≤ v ∧ v ≤ N 1 - 1) (hw : 0 ≤ w ∧ w ≤ 9) : GI (nup (nup N 10 v) 11 w) := by
  obtain ⟨hN, hS, hg⟩ := h
  obtain ⟨⟨⟨a0, b0⟩, ⟨a1, b1⟩, ⟨a10, b10⟩, ⟨a11, b11⟩, ⟨a12, b12⟩, a9, b9⟩, ⟨⟨a2, b2⟩, ⟨a5, b5⟩, ⟨a3, b3⟩, ⟨a4, b4⟩, ⟨a6, b6⟩, ⟨a14, b14⟩, ⟨a7, b7⟩, a13, b13⟩, rF, rP, rL⟩ := id hN
  have eg : ∀ j, 15 ≤ j → (nup (nup N 10 v) 11 w) j = N j := fun j h => by rw [nup_ne (by omega), nup_ne (by omega)]
  have e4 : (nup (nup N 10 v) 11 w) 4 = N 4 := by rw [nup_ne (by decide), nup_ne (by decide)]
  have e0 : (nup (nup N 10 v) 11 w) 0 = N 0 := by rw [nup_ne (by decide), nup_ne (by decide)]
  have e1 : (nup (nup N 10 v) 11 w) 1 = N 1 := by rw [nup_ne (by decide), nup_ne (by decide)]
  have e10 : (nup (nup N 10 v) 11 w) 10 = v := by rw [nup_ne (by decide), nup_at]
  have e11 : (nup (nup N 10 v) 11 w) 11 = w := by rw [nup_at]
  have e12 : (nup (nup N 10 v) 11 w) 12 = N 12 := by rw [nup_ne (by decide), nup_ne (by decide)]
  have e9 : (nup (nup N 10 v) 11 w) 9 = N 9 := by rw [nup_ne (by decide), nup_ne (by decide)]
  have e2 : (nup (nup N 10 v) 11 w) 2 = N 2 := by rw [nup_ne (by decide), nup_ne (by decide)]
  have e5 : (nup (nup N 10 v) 11 w) 5 = N 5 := by rw [nup_ne (by decide), nup_ne (by decide)]
  have e3 : (nup (nup N 10 v) 11 w) 3 = N 3 := by rw [nup_ne (by decide), nup_ne (by decide)]
  have e6 : (nup (nup N 10 v) 11 w) 6 = N 6 := by rw [nup_ne (by decide), nup_ne (by decide)]
  have e14 : (nup (nup N 10 v) 11 w) 14 = N 14 := by rw [nup_ne (by decide), nup_ne (by decide)]
  have e7 : (nup (nup N 10 v) 11 w) 7 = N 7 := by rw [nup_ne (by decide), nup_ne (by decide)]
  have e13 : (nup (nup N 10 v) 11 w) 13 = N 13 := by rw [nup_ne (by decide), nup_ne (by decide)]
  refine ⟨?_, ?_, ?_⟩
  · unfold NR
    rw [e4, e0, e1, e10, e11, e12, e9, e2, e5, e3, e6, e14, e7, e13]
    refine ⟨⟨⟨by omega, by omega⟩, ⟨by omega, by omega⟩, ⟨by omega, by omega⟩, ⟨by omega, by omega⟩, ⟨by omega, by omega⟩, by omega, by omega⟩, ⟨⟨by omega, by omega⟩, ⟨by omega, by omega⟩, ⟨by omega, by omega⟩, ⟨by omega, by omega⟩, ⟨by omega, by omega⟩, ⟨by omega, by omega⟩, ⟨by omega, by omega⟩, by omega, by omega⟩, ?_, ?_, ?_⟩
    · intro q h0 h1
      rw [eg (71 + (q * 3 + 0)) (by omega), eg (71 + (q * 3 + 1)) (by omega), eg (71 + (q * 3 + 2)) (by omega)]
      exact rF q h0 h1
    · intro q h0 h1
      rw [eg (95 + (q * 3 + 0)) (by omega), eg (95 + (q * 3 + 1)) (by omega), eg (95 + (q * 3 + 2)) (by omega)]
      exact rP q h0 h1
    · intro q h0 h1
      rw [eg (119 + (q * 7 + 0)) (by omega), eg (119 + (q * 7 + 1)) (by omega), eg (119 + (q * 7 + 2)) (by omega), eg (119 + (q * 7 + 3)) (by omega), eg (119 + (q * 7 + 4)) (by omega), eg (119 + (q * 7 + 5)) (by omega), eg (119 + (q * 7 + 6)) (by omega)]
      exact rL q h0 h1
  · exact ns_same hS e0 e2 (fun j h1 h2 => eg j (by omega)) b2 b0
  · exact logi_same hg e14 e4 (fun j h1 h2 => eg j (by omega)) b4
theorem gi_stripe (h : GI N) (hv : 0 ≤ v ∧ v ≤ N 0) : GI (nup N 12 v) := by
  obtain ⟨hN, hS, hg⟩ := h
  obtain ⟨⟨⟨a0, b0⟩, ⟨a1, b1⟩, ⟨a10, b10⟩, ⟨a11, b11⟩, ⟨a12, b12⟩, a9, b9⟩, ⟨⟨a2, b2⟩, ⟨a5, b5⟩, ⟨a3, b3⟩, ⟨a4, b4⟩, ⟨a6, b6⟩, ⟨a14, b14⟩, ⟨a7, b7⟩, a13, b13⟩, rF, rP, rL⟩ := id hN
  have eg : ∀ j, 15 ≤ j → (nup N 12 v) j = N j := fun j h => by rw [nup_ne (by omega)]
  have e4 : (nup N 12 v) 4 = N 4 := by rw [nup_ne (by decide)]
  have e0 : (nup N 12 v) 0 = N 0 := by rw [nup_ne (by decide)]
  have e1 : (nup N 12 v) 1 = N 1 := by rw [nup_ne (by decide)]
  have e10 : (nup N 12 v) 10 = N 10 := by rw [nup_ne (by decide)]
  have e11 : (nup N 12 v) 11 = N 11 := by rw [nup_ne (by decide)]
  have e12 : (nup N 12 v) 12 = v := by rw [nup_at]
  have e9 : (nup N 12 v) 9 = N 9 := by rw [nup_ne (by decide)]
  have e2 : (nup N 12 v) 2 = N 2 := by rw [nup_ne (by decide)]
  have e5 : (nup N 12 v) 5 = N 5 := by rw [nup_ne (by decide)]
  have e3 : (nup N 12 v) 3 = N 3 := by rw [nup_ne (by decide)]
  have e6 : (nup N 12 v) 6 = N 6 := by rw [nup_ne (by decide)]
  have e14 : (nup N 12 v) 14 = N 14 := by rw [nup_ne (by decide)]
  have e7 : (nup N 12 v) 7 = N 7 := by rw [nup_ne (by decide)]
  have e13 : (nup N 12 v) 13 = N 13 := by rw [nup_ne (by decide)]
  refine ⟨?_, ?_, ?_⟩
  · unfold NR
    rw [e4, e0, e1, e10, e11, e12, e9, e2, e5, e3, e6, e14, e7, e13]
    refine ⟨⟨⟨by omega, by omega⟩, ⟨by omega, by omega⟩, ⟨by omega, by omega⟩, ⟨by omega, by omega⟩, ⟨by omega, by omega⟩, by omega, by omega⟩, ⟨⟨by omega, by omega⟩, ⟨by omega, by omega⟩, ⟨by omega, by omega⟩, ⟨by omega, by omega⟩, ⟨by omega, by omega⟩, ⟨by omega, by omega⟩, ⟨by omega, by omega⟩, by omega, by omega⟩, ?_, ?_, ?_⟩
    · intro q h0 h1
      rw [eg (71 + (q * 3 + 0)) (by omega), eg (71 + (q * 3 + 1)) (by omega), eg (71 + (q * 3 + 2)) (by omega)]
      exact rF q h0 h1
    · intro q h0 h1
      rw [eg (95 + (q * 3 + 0)) (by omega), eg (95 + (q * 3 + 1)) (by omega), eg (95 + (q * 3 + 2)) (by omega)]
      exact rP q h0 h1
    · intro q h0 h1
      rw [eg (119 + (q * 7 + 0)) (by omega), eg (119 + (q * 7 + 1)) (by omega), eg (119 + (q * 7 + 2)) (by omega), eg (119 + (q * 7 + 3)) (by omega), eg (119 + (q * 7 + 4)) (by omega), eg (119 + (q * 7 + 5)) (by omega), eg (119 + (q * 7 + 6)) (by omega)]
      exact rL q h0 h1
  · exact ns_same hS e0 e2 (fun j h1 h2 => eg j (by omega)) b2 b0
  · exact logi_same hg e14 e4 (fun j h1 h2 => eg j (by omega)) b4
theorem gi_seed (h : GI N) (hv : 0 ≤ v ∧ v ≤ 9999) : GI (nup N 13 v) := by
  obtain ⟨hN, hS, hg⟩ := h
  obtain ⟨⟨⟨a0, b0⟩, ⟨a1, b1⟩, ⟨a10, b10⟩, ⟨a11, b11⟩, ⟨a12, b12⟩, a9, b9⟩, ⟨⟨a2, b2⟩, ⟨a5, b5⟩, ⟨a3, b3⟩, ⟨a4, b4⟩, ⟨a6, b6⟩, ⟨a14, b14⟩, ⟨a7, b7⟩, a13, b13⟩, rF, rP, rL⟩ := id hN
  have eg : ∀ j, 15 ≤ j → (nup N 13 v) j = N j := fun j h => by rw [nup_ne (by omega)]
  have e4 : (nup N 13 v) 4 = N 4 := by rw [nup_ne (by decide)]
  have e0 : (nup N 13 v) 0 = N 0 := by rw [nup_ne (by decide)]
  have e1 : (nup N 13 v) 1 = N 1 := by rw [nup_ne (by decide)]
  have e10 : (nup N 13 v) 10 = N 10 := by rw [nup_ne (by decide)]
  have e11 : (nup N 13 v) 11 = N 11 := by rw [nup_ne (by decide)]
  have e12 : (nup N 13 v) 12 = N 12 := by rw [nup_ne (by decide)]
  have e9 : (nup N 13 v) 9 = N 9 := by rw [nup_ne (by decide)]
  have e2 : (nup N 13 v) 2 = N 2 := by rw [nup_ne (by decide)]
  have e5 : (nup N 13 v) 5 = N 5 := by rw [nup_ne (by decide)]
  have e3 : (nup N 13 v) 3 = N 3 := by rw [nup_ne (by decide)]
  have e6 : (nup N 13 v) 6 = N 6 := by rw [nup_ne (by decide)]
  have e14 : (nup N 13 v) 14 = N 14 := by rw [nup_ne (by decide)]
  have e7 : (nup N 13 v) 7 = N 7 := by rw [nup_ne (by decide)]
  have e13 : (nup N 13 v) 13 = v := by rw [nup_at]
  refine ⟨?_, ?_, ?_⟩
  · unfold NR
    rw [e4, e0, e1, e10, e11, e12, e9, e2, e5, e3, e6, e14, e7, e13]
    refine ⟨⟨⟨by omega, by omega⟩, ⟨by omega, by omega⟩, ⟨by omega, by omega⟩, ⟨by omega, by omega⟩, ⟨by omega, by omega⟩, by omega, by omega⟩, ⟨⟨by omega, by omega⟩, ⟨by omega, by omega⟩, ⟨by omega, by omega⟩, ⟨by omega, by omega⟩, ⟨by omega, by omega⟩, ⟨by omega, by omega⟩, ⟨by omega, by omega⟩, by omega, by omega⟩, ?_, ?_, ?_⟩
    · intro q h0 h1
      rw [eg (71 + (q * 3 + 0)) (by omega), eg (71 + (q * 3 + 1)) (by omega), eg (71 + (q * 3 + 2)) (by omega)]
      exact rF q h0 h1
    · intro q h0 h1
      rw [eg (95 + (q * 3 + 0)) (by omega), eg (95 + (q * 3 + 1)) (by omega), eg (95 + (q * 3 + 2)) (by omega)]
      exact rP q h0 h1
    · intro q h0 h1
      rw [eg (119 + (q * 7 + 0)) (by omega), eg (119 + (q * 7 + 1)) (by omega), eg (119 + (q * 7 + 2)) (by omega), eg (119 + (q * 7 + 3)) (by omega), eg (119 + (q * 7 + 4)) (by omega), eg (119 + (q * 7 + 5)) (by omega), eg (119 + (q * 7 + 6)) (by omega)]
      exact rL q h0 h1
  · exact ns_same hS e0 e2 (fun j h1 h2 => eg j (by omega)) b2 b0
  · exact logi_same hg e14 e4 (fun j h1 h2 => eg j (by omega)) b4
variable {a r m : Int}
theorem gi_flood (h : GI N) (h8 : ¬ N 5 = 8) (ha : N 9 ≤ a ∧ a ≤ 299) (hr : 0 ≤ r ∧ r ≤ N 1 - 1) (hm : 1 ≤ m ∧ m ≤ 20) : GI (nup (nup (nup (nup N 5 (N 5 + 1)) (71 + (N 5 * 3 + 0)) a) (71 + (N 5 * 3 + 1)) r) (71 + (N 5 * 3 + 2)) m) := by
  obtain ⟨hN, hS, hg⟩ := h
  obtain ⟨⟨⟨a0, b0⟩, ⟨a1, b1⟩, ⟨a10, b10⟩, ⟨a11, b11⟩, ⟨a12, b12⟩, a9, b9⟩, ⟨⟨a2, b2⟩, ⟨a5, b5⟩, ⟨a3, b3⟩, ⟨a4, b4⟩, ⟨a6, b6⟩, ⟨a14, b14⟩, ⟨a7, b7⟩, a13, b13⟩, rF, rP, rL⟩ := id hN
  have eg : ∀ j, 95 ≤ j ∨ (15 ≤ j ∧ j < 71) → (nup (nup (nup (nup N 5 (N 5 + 1)) (71 + (N 5 * 3 + 0)) a) (71 + (N 5 * 3 + 1)) r) (71 + (N 5 * 3 + 2)) m) j = N j := fun j h => by rw [nup_ne (by omega), nup_ne (by omega), nup_ne (by omega), nup_ne (by omega)]
  have eq : ∀ q, 0 ≤ q → q < N 5 → ∀ c, 0 ≤ c ∧ c < 3 → (nup (nup (nup (nup N 5 (N 5 + 1)) (71 + (N 5 * 3 + 0)) a) (71 + (N 5 * 3 + 1)) r) (71 + (N 5 * 3 + 2)) m) (71 + (q * 3 + c)) = N (71 + (q * 3 + c)) := fun q q0 q1 c hc => by rw [nup_ne (by omega), nup_ne (by omega), nup_ne (by omega), nup_ne (by omega)]
  have e4 : (nup (nup (nup (nup N 5 (N 5 + 1)) (71 + (N 5 * 3 + 0)) a) (71 + (N 5 * 3 + 1)) r) (71 + (N 5 * 3 + 2)) m) 4 = N 4 := by rw [nup_ne (by omega), nup_ne (by omega), nup_ne (by omega), nup_ne (by decide)]
  have e0 : (nup (nup (nup (nup N 5 (N 5 + 1)) (71 + (N 5 * 3 + 0)) a) (71 + (N 5 * 3 + 1)) r) (71 + (N 5 * 3 + 2)) m) 0 = N 0 := by rw [nup_ne (by omega), nup_ne (by omega), nup_ne (by omega), nup_ne (by decide)]
  have e1 : (nup (nup (nup (nup N 5 (N 5 + 1)) (71 + (N 5 * 3 + 0)) a) (71 + (N 5 * 3 + 1)) r) (71 + (N 5 * 3 + 2)) m) 1 = N 1 := by rw [nup_ne (by omega), nup_ne (by omega), nup_ne (by omega), nup_ne (by decide)]
  have e10 : (nup (nup (nup (nup N 5 (N 5 + 1)) (71 + (N 5 * 3 + 0)) a) (71 + (N 5 * 3 + 1)) r) (71 + (N 5 * 3 + 2)) m) 10 = N 10 := by rw [nup_ne (by omega), nup_ne (by omega), nup_ne (by omega), nup_ne (by decide)]
  have e11 : (nup (nup (nup (nup N 5 (N 5 + 1)) (71 + (N 5 * 3 + 0)) a) (71 + (N 5 * 3 + 1)) r) (71 + (N 5 * 3 + 2)) m) 11 = N 11 := by rw [nup_ne (by omega), nup_ne (by omega), nup_ne (by omega), nup_ne (by decide)]
  have e12 : (nup (nup (nup (nup N 5 (N 5 + 1)) (71 + (N 5 * 3 + 0)) a) (71 + (N 5 * 3 + 1)) r) (71 + (N 5 * 3 + 2)) m) 12 = N 12 := by rw [nup_ne (by omega), nup_ne (by omega), nup_ne (by omega), nup_ne (by decide)]
  have e9 : (nup (nup (nup (nup N 5 (N 5 + 1)) (71 + (N 5 * 3 + 0)) a) (71 + (N 5 * 3 + 1)) r) (71 + (N 5 * 3 + 2)) m) 9 = N 9 := by rw [nup_ne (by omega), nup_ne (by omega), nup_ne (by omega), nup_ne (by decide)]
  have e2 : (nup (nup (nup (nup N 5 (N 5 + 1)) (71 + (N 5 * 3 + 0)) a) (71 + (N 5 * 3 + 1)) r) (71 + (N 5 * 3 + 2)) m) 2 = N 2 := by rw [nup_ne (by omega), nup_ne (by omega), nup_ne (by omega), nup_ne (by decide)]
  have e5 : (nup (nup (nup (nup N 5 (N 5 + 1)) (71 + (N 5 * 3 + 0)) a) (71 + (N 5 * 3 + 1)) r) (71 + (N 5 * 3 + 2)) m) 5 = N 5 + 1 := by rw [nup_ne (by omega), nup_ne (by omega), nup_ne (by omega), nup_at]
  have e3 : (nup (nup (nup (nup N 5 (N 5 + 1)) (71 + (N 5 * 3 + 0)) a) (71 + (N 5 * 3 + 1)) r) (71 + (N 5 * 3 + 2)) m) 3 = N 3 := by rw [nup_ne (by omega), nup_ne (by omega), nup_ne (by omega), nup_ne (by decide)]
  have e6 : (nup (nup (nup (nup N 5 (N 5 + 1)) (71 + (N 5 * 3 + 0)) a) (71 + (N 5 * 3 + 1)) r) (71 + (N 5 * 3 + 2)) m) 6 = N 6 := by rw [nup_ne (by omega), nup_ne (by omega), nup_ne (by omega), nup_ne (by decide)]
  have e14 : (nup (nup (nup (nup N 5 (N 5 + 1)) (71 + (N 5 * 3 + 0)) a) (71 + (N 5 * 3 + 1)) r) (71 + (N 5 * 3 + 2)) m) 14 = N 14 := by rw [nup_ne (by omega), nup_ne (by omega), nup_ne (by omega), nup_ne (by decide)]
  have e7 : (nup (nup (nup (nup N 5 (N 5 + 1)) (71 + (N 5 * 3 + 0)) a) (71 + (N 5 * 3 + 1)) r) (71 + (N 5 * 3 + 2)) m) 7 = N 7 := by rw [nup_ne (by omega), nup_ne (by omega), nup_ne (by omega), nup_ne (by decide)]
  have e13 : (nup (nup (nup (nup N 5 (N 5 + 1)) (71 + (N 5 * 3 + 0)) a) (71 + (N 5 * 3 + 1)) r) (71 + (N 5 * 3 + 2)) m) 13 = N 13 := by rw [nup_ne (by omega), nup_ne (by omega), nup_ne (by omega), nup_ne (by decide)]
  refine ⟨?_, ?_, ?_⟩
  · unfold NR
    rw [e4, e0, e1, e10, e11, e12, e9, e2, e5, e3, e6, e14, e7, e13]
    refine ⟨⟨⟨by omega, by omega⟩, ⟨by omega, by omega⟩, ⟨by omega, by omega⟩, ⟨by omega, by omega⟩, ⟨by omega, by omega⟩, by omega, by omega⟩, ⟨⟨by omega, by omega⟩, ⟨by omega, by omega⟩, ⟨by omega, by omega⟩, ⟨by omega, by omega⟩, ⟨by omega, by omega⟩, ⟨by omega, by omega⟩, ⟨by omega, by omega⟩, by omega, by omega⟩, ?_, ?_, ?_⟩
    · intro q h0 h1
      by_cases hq : q = N 5
      · subst hq
        rw [show (nup (nup (nup (nup N 5 (N 5 + 1)) (71 + (N 5 * 3 + 0)) a) (71 + (N 5 * 3 + 1)) r) (71 + (N 5 * 3 + 2)) m) (71 + (N 5 * 3 + 0)) = a by rw [nup_ne (by omega), nup_ne (by omega), nup_at], show (nup (nup (nup (nup N 5 (N 5 + 1)) (71 + (N 5 * 3 + 0)) a) (71 + (N 5 * 3 + 1)) r) (71 + (N 5 * 3 + 2)) m) (71 + (N 5 * 3 + 1)) = r by rw [nup_ne (by omega), nup_at], show (nup (nup (nup (nup N 5 (N 5 + 1)) (71 + (N 5 * 3 + 0)) a) (71 + (N 5 * 3 + 1)) r) (71 + (N 5 * 3 + 2)) m) (71 + (N 5 * 3 + 2)) = m by rw [nup_at]]
        exact ⟨⟨by omega, by omega⟩, ⟨by omega, by omega⟩, ⟨by omega, by omega⟩⟩
      · rw [eq q h0 (by omega) 0 (by decide), eq q h0 (by omega) 1 (by decide), eq q h0 (by omega) 2 (by decide)]
        exact rF q h0 (by omega)
    · intro q h0 h1
      rw [eg (95 + (q * 3 + 0)) (by omega), eg (95 + (q * 3 + 1)) (by omega), eg (95 + (q * 3 + 2)) (by omega)]
      exact rP q h0 h1
    · intro q h0 h1
      rw [eg (119 + (q * 7 + 0)) (by omega), eg (119 + (q * 7 + 1)) (by omega), eg (119 + (q * 7 + 2)) (by omega), eg (119 + (q * 7 + 3)) (by omega), eg (119 + (q * 7 + 4)) (by omega), eg (119 + (q * 7 + 5)) (by omega), eg (119 + (q * 7 + 6)) (by omega)]
      exact rL q h0 h1
  · exact ns_same hS e0 e2 (fun j h1 h2 => eg j (by omega)) b2 b0
  · exact logi_same hg e14 e4 (fun j h1 h2 => eg j (by omega)) b4
theorem gi_person (h : GI N) (h8 : ¬ N 3 = 8) (ha : 0 ≤ a ∧ a ≤ N 0 - 1) (hr : 0 ≤ r ∧ r ≤ N 1 - 1) (hw : -1 ≤ w ∧ w ≤ N 0 - 1) : GI (nper N a r w) := by
  obtain ⟨hN, hS, hg⟩ := h
  obtain ⟨⟨⟨a0, b0⟩, ⟨a1, b1⟩, ⟨a10, b10⟩, ⟨a11, b11⟩, ⟨a12, b12⟩, a9, b9⟩, ⟨⟨a2, b2⟩, ⟨a5, b5⟩, ⟨a3, b3⟩, ⟨a4, b4⟩, ⟨a6, b6⟩, ⟨a14, b14⟩, ⟨a7, b7⟩, a13, b13⟩, rF, rP, rL⟩ := id hN
  have eg : ∀ j, 119 ≤ j ∨ (15 ≤ j ∧ j < 95) → (nper N a r w) j = N j := fun j h => by unfold nper; rw [nup_ne (by omega), nup_ne (by omega), nup_ne (by omega), nup_ne (by omega)]
  have eq : ∀ q, 0 ≤ q → q < N 3 → ∀ c, 0 ≤ c ∧ c < 3 → (nper N a r w) (95 + (q * 3 + c)) = N (95 + (q * 3 + c)) := fun q q0 q1 c hc => by unfold nper; rw [nup_ne (by omega), nup_ne (by omega), nup_ne (by omega), nup_ne (by omega)]
  have e4 : (nper N a r w) 4 = N 4 := by unfold nper; rw [nup_ne (by omega), nup_ne (by omega), nup_ne (by omega), nup_ne (by decide)]
  have e0 : (nper N a r w) 0 = N 0 := by unfold nper; rw [nup_ne (by omega), nup_ne (by omega), nup_ne (by omega), nup_ne (by decide)]
  have e1 : (nper N a r w) 1 = N 1 := by unfold nper; rw [nup_ne (by omega), nup_ne (by omega), nup_ne (by omega), nup_ne (by decide)]
  have e10 : (nper N a r w) 10 = N 10 := by unfold nper; rw [nup_ne (by omega), nup_ne (by omega), nup_ne (by omega), nup_ne (by decide)]
  have e11 : (nper N a r w) 11 = N 11 := by unfold nper; rw [nup_ne (by omega), nup_ne (by omega), nup_ne (by omega), nup_ne (by decide)]
  have e12 : (nper N a r w) 12 = N 12 := by unfold nper; rw [nup_ne (by omega), nup_ne (by omega), nup_ne (by omega), nup_ne (by decide)]
  have e9 : (nper N a r w) 9 = N 9 := by unfold nper; rw [nup_ne (by omega), nup_ne (by omega), nup_ne (by omega), nup_ne (by decide)]
  have e2 : (nper N a r w) 2 = N 2 := by unfold nper; rw [nup_ne (by omega), nup_ne (by omega), nup_ne (by omega), nup_ne (by decide)]
  have e5 : (nper N a r w) 5 = N 5 := by unfold nper; rw [nup_ne (by omega), nup_ne (by omega), nup_ne (by omega), nup_ne (by decide)]
  have e3 : (nper N a r w) 3 = N 3 + 1 := by unfold nper; rw [nup_ne (by omega), nup_ne (by omega), nup_ne (by omega), nup_at]
  have e6 : (nper N a r w) 6 = N 6 := by unfold nper; rw [nup_ne (by omega), nup_ne (by omega), nup_ne (by omega), nup_ne (by decide)]
  have e14 : (nper N a r w) 14 = N 14 := by unfold nper; rw [nup_ne (by omega), nup_ne (by omega), nup_ne (by omega), nup_ne (by decide)]
  have e7 : (nper N a r w) 7 = N 7 := by unfold nper; rw [nup_ne (by omega), nup_ne (by omega), nup_ne (by omega), nup_ne (by decide)]
  have e13 : (nper N a r w) 13 = N 13 := by unfold nper; rw [nup_ne (by omega), nup_ne (by omega), nup_ne (by omega), nup_ne (by decide)]
  refine ⟨?_, ?_, ?_⟩
  · unfold NR
    rw [e4, e0, e1, e10, e11, e12, e9, e2, e5, e3, e6, e14, e7, e13]
    refine ⟨⟨⟨by omega, by omega⟩, ⟨by omega, by omega⟩, ⟨by omega, by omega⟩, ⟨by omega, by omega⟩, ⟨by omega, by omega⟩, by omega, by omega⟩, ⟨⟨by omega, by omega⟩, ⟨by omega, by omega⟩, ⟨by omega, by omega⟩, ⟨by omega, by omega⟩, ⟨by omega, by omega⟩, ⟨by omega, by omega⟩, ⟨by omega, by omega⟩, by omega, by omega⟩, ?_, ?_, ?_⟩
    · intro q h0 h1
      rw [eg (71 + (q * 3 + 0)) (by omega), eg (71 + (q * 3 + 1)) (by omega), eg (71 + (q * 3 + 2)) (by omega)]
      exact rF q h0 h1
    · intro q h0 h1
      by_cases hq : q = N 3
      · subst hq
        rw [show (nper N a r w) (95 + (N 3 * 3 + 0)) = a by unfold nper; rw [nup_ne (by omega), nup_ne (by omega), nup_at], show (nper N a r w) (95 + (N 3 * 3 + 1)) = r by unfold nper; rw [nup_ne (by omega), nup_at], show (nper N a r w) (95 + (N 3 * 3 + 2)) = w by unfold nper; rw [nup_at]]
        exact ⟨⟨by omega, by omega⟩, ⟨by omega, by omega⟩, ⟨by omega, by omega⟩⟩
      · rw [eq q h0 (by omega) 0 (by decide), eq q h0 (by omega) 1 (by decide), eq q h0 (by omega) 2 (by decide)]
        exact rP q h0 (by omega)
    · intro q h0 h1
      rw [eg (119 + (q * 7 + 0)) (by omega), eg (119 + (q * 7 + 1)) (by omega), eg (119 + (q * 7 + 2)) (by omega), eg (119 + (q * 7 + 3)) (by omega), eg (119 + (q * 7 + 4)) (by omega), eg (119 + (q * 7 + 5)) (by omega), eg (119 + (q * 7 + 6)) (by omega)]
      obtain ⟨k1, k2, k3, k4, k5, k6, k7, k8⟩ := rL q h0 h1
      exact ⟨⟨k1.1, by omega⟩, ⟨k2.1, by omega⟩, k3, k4, k5, ⟨k6.1, by omega⟩, k7, k8⟩
  · exact ns_same hS e0 e2 (fun j h1 h2 => eg j (by omega)) b2 b0
  · exact logi_same hg e14 e4 (fun j h1 h2 => eg j (by omega)) b4
theorem gi_section (h : GI N) (h8 : ¬ N 2 = 8) (h2 : N2 2 = N 2 + 1) (hrow : N2 (15 + (N 2 * 7 + 0)) = v) (hv : 0 ≤ v ∧ v ≤ 98) (hsp : ∀ j, 15 + (N 2 * 7 + (1 + 0)) ≤ j → j < 15 + (N 2 * 7 + (1 + 0)) + N 0 → 0 ≤ N2 j ∧ N2 j ≤ 20) (ho : ∀ j, ¬ j = 2 → j < 15 + (N 2 * 7 + 0) ∨ 71 ≤ j → N2 j = N j) : GI (N2) := by
  obtain ⟨hN, hS, hg⟩ := h
  obtain ⟨⟨⟨a0, b0⟩, ⟨a1, b1⟩, ⟨a10, b10⟩, ⟨a11, b11⟩, ⟨a12, b12⟩, a9, b9⟩, ⟨⟨a2, b2⟩, ⟨a5, b5⟩, ⟨a3, b3⟩, ⟨a4, b4⟩, ⟨a6, b6⟩, ⟨a14, b14⟩, ⟨a7, b7⟩, a13, b13⟩, rF, rP, rL⟩ := id hN
  have eg : ∀ j, 71 ≤ j → N2 j = N j := fun j h => ho j (by omega) (Or.inr h)
  have eo : ∀ j, 15 ≤ j → j < 15 + (N 2 * 7 + 0) → N2 j = N j := fun j h h9 => ho j (by omega) (Or.inl h9)
  have e4 : (N2) 4 = N 4 := ho _ (by decide) (by omega)
  have e0 : (N2) 0 = N 0 := ho _ (by decide) (by omega)
  have e1 : (N2) 1 = N 1 := ho _ (by decide) (by omega)
  have e10 : (N2) 10 = N 10 := ho _ (by decide) (by omega)
  have e11 : (N2) 11 = N 11 := ho _ (by decide) (by omega)
  have e12 : (N2) 12 = N 12 := ho _ (by decide) (by omega)
  have e9 : (N2) 9 = N 9 := ho _ (by decide) (by omega)
  have e2 : (N2) 2 = N 2 + 1 := h2
  have e5 : (N2) 5 = N 5 := ho _ (by decide) (by omega)
  have e3 : (N2) 3 = N 3 := ho _ (by decide) (by omega)
  have e6 : (N2) 6 = N 6 := ho _ (by decide) (by omega)
  have e14 : (N2) 14 = N 14 := ho _ (by decide) (by omega)
  have e7 : (N2) 7 = N 7 := ho _ (by decide) (by omega)
  have e13 : (N2) 13 = N 13 := ho _ (by decide) (by omega)
  refine ⟨?_, ?_, ?_⟩
  · unfold NR
    rw [e4, e0, e1, e10, e11, e12, e9, e2, e5, e3, e6, e14, e7, e13]
    refine ⟨⟨⟨by omega, by omega⟩, ⟨by omega, by omega⟩, ⟨by omega, by omega⟩, ⟨by omega, by omega⟩, ⟨by omega, by omega⟩, by omega, by omega⟩, ⟨⟨by omega, by omega⟩, ⟨by omega, by omega⟩, ⟨by omega, by omega⟩, ⟨by omega, by omega⟩, ⟨by omega, by omega⟩, ⟨by omega, by omega⟩, ⟨by omega, by omega⟩, by omega, by omega⟩, ?_, ?_, ?_⟩
    · intro q h0 h1
      rw [eg (71 + (q * 3 + 0)) (by omega), eg (71 + (q * 3 + 1)) (by omega), eg (71 + (q * 3 + 2)) (by omega)]
      exact rF q h0 h1
    · intro q h0 h1
      rw [eg (95 + (q * 3 + 0)) (by omega), eg (95 + (q * 3 + 1)) (by omega), eg (95 + (q * 3 + 2)) (by omega)]
      exact rP q h0 h1
    · intro q h0 h1
      rw [eg (119 + (q * 7 + 0)) (by omega), eg (119 + (q * 7 + 1)) (by omega), eg (119 + (q * 7 + 2)) (by omega), eg (119 + (q * 7 + 3)) (by omega), eg (119 + (q * 7 + 4)) (by omega), eg (119 + (q * 7 + 5)) (by omega), eg (119 + (q * 7 + 6)) (by omega)]
      exact rL q h0 h1
  · intro s s0 s1
    rw [e2] at s1
    by_cases hs : s = N 2
    · subst hs
      refine ⟨?_, fun l l0 l1 => ?_⟩
      · rw [show (15 : Int) + 7 * N 2 = 15 + (N 2 * 7 + 0) by omega, hrow]
        exact ⟨by omega, by omega⟩
      · rw [e0] at l1
        rw [show (15 : Int) + 7 * N 2 + 1 + l = 15 + (N 2 * 7 + (1 + 0)) + l by omega]
        exact hsp _ (by omega) (by omega)
    · obtain ⟨k1, k2⟩ := hS s s0 (by omega)
      refine ⟨by rw [eo _ (by omega) (by omega)]; exact k1, fun l l0 l1 => ?_⟩
      rw [e0] at l1
      rw [eo _ (by omega) (by omega)]
      exact k2 l l0 l1
  · exact logi_same hg e14 e4 (fun j h1 h2 => eg j (by omega)) b4
theorem gi_table (h : GI N) (h8 : ¬ N 6 = 6) (h6 : N2 6 = N 6 + 1) (ho : ∀ j, ¬ j = 6 → j < 287 → N2 j = N j) : GI (N2) := by
  obtain ⟨hN, hS, hg⟩ := h
  obtain ⟨⟨⟨a0, b0⟩, ⟨a1, b1⟩, ⟨a10, b10⟩, ⟨a11, b11⟩, ⟨a12, b12⟩, a9, b9⟩, ⟨⟨a2, b2⟩, ⟨a5, b5⟩, ⟨a3, b3⟩, ⟨a4, b4⟩, ⟨a6, b6⟩, ⟨a14, b14⟩, ⟨a7, b7⟩, a13, b13⟩, rF, rP, rL⟩ := id hN
  have eg : ∀ j, 71 ≤ j ∧ j < 287 → N2 j = N j := fun j h => ho j (by omega) h.2
  have e4 : (N2) 4 = N 4 := ho _ (by decide) (by decide)
  have e0 : (N2) 0 = N 0 := ho _ (by decide) (by decide)
  have e1 : (N2) 1 = N 1 := ho _ (by decide) (by decide)
  have e10 : (N2) 10 = N 10 := ho _ (by decide) (by decide)
  have e11 : (N2) 11 = N 11 := ho _ (by decide) (by decide)
  have e12 : (N2) 12 = N 12 := ho _ (by decide) (by decide)
  have e9 : (N2) 9 = N 9 := ho _ (by decide) (by decide)
  have e2 : (N2) 2 = N 2 := ho _ (by decide) (by decide)
  have e5 : (N2) 5 = N 5 := ho _ (by decide) (by decide)
  have e3 : (N2) 3 = N 3 := ho _ (by decide) (by decide)
  have e6 : (N2) 6 = N 6 + 1 := h6
  have e14 : (N2) 14 = N 14 := ho _ (by decide) (by decide)
  have e7 : (N2) 7 = N 7 := ho _ (by decide) (by decide)
  have e13 : (N2) 13 = N 13 := ho _ (by decide) (by decide)
  refine ⟨?_, ?_, ?_⟩
  · unfold NR
    rw [e4, e0, e1, e10, e11, e12, e9, e2, e5, e3, e6, e14, e7, e13]
    refine ⟨⟨⟨by omega, by omega⟩, ⟨by omega, by omega⟩, ⟨by omega, by omega⟩, ⟨by omega, by omega⟩, ⟨by omega, by omega⟩, by omega, by omega⟩, ⟨⟨by omega, by omega⟩, ⟨by omega, by omega⟩, ⟨by omega, by omega⟩, ⟨by omega, by omega⟩, ⟨by omega, by omega⟩, ⟨by omega, by omega⟩, ⟨by omega, by omega⟩, by omega, by omega⟩, ?_, ?_, ?_⟩
    · intro q h0 h1
      rw [eg (71 + (q * 3 + 0)) (by omega), eg (71 + (q * 3 + 1)) (by omega), eg (71 + (q * 3 + 2)) (by omega)]
      exact rF q h0 h1
    · intro q h0 h1
      rw [eg (95 + (q * 3 + 0)) (by omega), eg (95 + (q * 3 + 1)) (by omega), eg (95 + (q * 3 + 2)) (by omega)]
      exact rP q h0 h1
    · intro q h0 h1
      rw [eg (119 + (q * 7 + 0)) (by omega), eg (119 + (q * 7 + 1)) (by omega), eg (119 + (q * 7 + 2)) (by omega), eg (119 + (q * 7 + 3)) (by omega), eg (119 + (q * 7 + 4)) (by omega), eg (119 + (q * 7 + 5)) (by omega), eg (119 + (q * 7 + 6)) (by omega)]
      exact rL q h0 h1
  · exact ns_same hS e0 e2 (fun j h1 h2 => ho j (by omega) (by omega)) b2 b0
  · exact logi_same hg e14 e4 (fun j h1 h2 => ho j (by omega) (by omega)) b4
/-- a LINE keeps what always holds -/
theorem v_line_g (h : GI N) (hb : 0 ≤ b ∧ b ≤ e) (ht : (v_line f e N b).1 = true) : GI (v_line f e N b).2.2 := by
  have hN := h.1
  have hS := h.2.1
  have b0 := hN.1.1
  have b2 := hN.2.1.1
  revert ht
  unfold v_line
  by_cases w_lanes : tx_is f e b wv_lanes
  · rw [tif_t w_lanes]
    unfold v_lanes
    by_cases h1 : v_emp N
    · rw [tif_t h1]
      by_cases h2 : vn f e 1 6 (tx_n f e b)
      · rw [tif_t h2]
        exact fun _ => gi_lanes h h2.2 h1
      · rw [tif_f h2]
        exact fun h => by cases h
    · rw [tif_f h1]
      exact fun h => by cases h
  rw [tif_f w_lanes]
  by_cases w_last : tx_is f e b wv_last
  · rw [tif_t w_last]
    unfold v_last
    by_cases h1 : v_emp N
    · rw [tif_t h1]
      by_cases h2 : vn f e 10 99 (tx_n f e b)
      · rw [tif_t h2]
        exact fun _ => gi_last h h2.2 h1
      · rw [tif_f h2]
        exact fun h => by cases h
    · rw [tif_f h1]
      exact fun h => by cases h
  rw [tif_f w_last]
  by_cases w_section : tx_is f e b wv_section
  · rw [tif_t w_section]
    unfold v_section
    by_cases h1 : N 2 = 8
    · rw [tif_t h1]
      exact fun h => by cases h
    · rw [tif_f h1]
      by_cases h2 : vn f e (if N 2 = 0 then 0 else N (15 + ((N 2 - 1) * 7 + 0)) + 1) (if N 2 = 0 then 0 else N 1 - 1) (tx_n f e b)
      · rw [tif_t h2]
        intro ht
        obtain ⟨s1, s2⟩ := v_sp_w _ _ _ _ ht
        have hv : 0 ≤ tx_v f e 4 (tx_n f e b) ∧ tx_v f e 4 (tx_n f e b) ≤ 98 := by
          obtain ⟨-, k1, k2⟩ := h2
          have b1 := hN.1.2.1
          by_cases hz : N 2 = 0
          · rw [if_pos hz] at k1 k2
            omega
          · rw [if_neg hz] at k1 k2
            have := (hS (N 2 - 1) (by omega) (by omega)).1
            rw [show (15 : Int) + 7 * (N 2 - 1) = 15 + ((N 2 - 1) * 7 + 0) by omega] at this
            omega
        refine gi_section h h1 ?_ ?_ hv (fun j j0 j1 => s2 j j0 (by omega)) (fun j j2 jo => ?_)
        · rw [s1 2 (by omega), nup_ne (by omega), nup_at]
        · rw [s1 _ (by omega), nup_at]
        · rw [s1 j (by omega), nup_ne (by omega), nup_ne j2]
      · rw [tif_f h2]
        exact fun h => by cases h
  rw [tif_f w_section]
  by_cases w_snow : tx_is f e b wv_snow
  · rw [tif_t w_snow]
    unfold v_snow
    by_cases h1 : vn f e 0 (N 1 - 1) (tx_n f e b)
    · rw [tif_t h1]
      by_cases h2 : tx_is f e (tx_n f e (tx_n f e b)) wv_fall
      · rw [tif_t h2]
        by_cases h3 : vn f e 0 9 (tx_n f e (tx_n f e (tx_n f e b)))
        · rw [tif_t h3]
          exact fun _ => gi_snow h h1.2 h3.2
        · rw [tif_f h3]
          exact fun h => by cases h
      · rw [tif_f h2]
        exact fun h => by cases h
    · rw [tif_f h1]
      exact fun h => by cases h
  rw [tif_f w_snow]
  by_cases w_stripe : tx_is f e b wv_stripe
  · rw [tif_t w_stripe]
    unfold v_stripe
    by_cases h1 : vn f e 0 (N 0) (tx_n f e b)
    · rw [tif_t h1]
      exact fun _ => gi_stripe h h1.2
    · rw [tif_f h1]
      exact fun h => by cases h
  rw [tif_f w_stripe]
  by_cases w_seed : tx_is f e b wv_seed
  · rw [tif_t w_seed]
    unfold v_seed
    by_cases h1 : vn f e 0 9999 (tx_n f e b)
    · rw [tif_t h1]
      exact fun _ => gi_seed h h1.2
    · rw [tif_f h1]
      exact fun h => by cases h
  rw [tif_f w_seed]
  by_cases w_flood : tx_is f e b wv_flood
  · rw [tif_t w_flood]
    unfold v_flood
    by_cases h1 : N 5 = 8
    · rw [tif_t h1]
      exact fun h => by cases h
    · rw [tif_f h1]
      by_cases h2 : vn f e (N 9) 299 (tx_n f e b)
      · rw [tif_t h2]
        by_cases h3 : vn f e 0 (N 1 - 1) (tx_n f e (tx_n f e b))
        · rw [tif_t h3]
          by_cases h4 : vn f e 1 20 (tx_n f e (tx_n f e (tx_n f e b)))
          · rw [tif_t h4]
            exact fun _ => gi_flood h h1 h2.2 h3.2 h4.2
          · rw [tif_f h4]
            exact fun h => by cases h
        · rw [tif_f h3]
          exact fun h => by cases h
      · rw [tif_f h2]
        exact fun h => by cases h
  rw [tif_f w_flood]
  by_cases w_person : tx_is f e b wv_person
  · rw [tif_t w_person]
    unfold v_person
    by_cases h1 : N 3 = 8
    · rw [tif_t h1]
      exact fun h => by cases h
    · rw [tif_f h1]
      by_cases h2 : vn f e 0 (N 0 - 1) (tx_n f e b)
      · rw [tif_t h2]
        by_cases h3 : vn f e 0 (N 1 - 1) (tx_n f e (tx_n f e b))
        · rw [tif_t h3]
          by_cases h4 : tx_is f e (tx_n f e (tx_n f e (tx_n f e b))) wv_watch
          · rw [tif_t h4]
            by_cases h5 : vn f e 0 (N 0 - 1) (tx_n f e (tx_n f e (tx_n f e (tx_n f e b))))
            · rw [tif_t h5]
              exact fun _ => gi_person h h1 h2.2 h3.2 ⟨by have := h5.2.1; omega, h5.2.2⟩
            · rw [tif_f h5]
              exact fun h => by cases h
          · rw [tif_f h4]
            exact fun _ => gi_person h h1 h2.2 h3.2 ⟨by omega, by omega⟩
        · rw [tif_f h3]
          exact fun h => by cases h
      · rw [tif_f h2]
        exact fun h => by cases h
  rw [tif_f w_person]
  by_cases w_rock : tx_is f e b wv_rock
  · rw [tif_t w_rock]
    unfold v_rock
    by_cases h1 : N 4 = 24
    · rw [tif_t h1]
      exact fun h => by cases h
    · rw [tif_f h1]
      by_cases h2 : vn f e 0 (N 0 - 1) (tx_n f e b)
      · rw [tif_t h2]
        by_cases h3 : vn f e 0 (N 1 - 1) (tx_n f e (tx_n f e b))
        · rw [tif_t h3]
          have b4 := hN.2.1.2.2.2.1
          have b3 := hN.2.1.2.2.1
          have k2 := h2.2
          have k3 := h3.2
          exact fun _ => gi_nthr h (by omega) ⟨by omega, by omega⟩ ⟨by omega, by omega⟩ ⟨by omega, by omega⟩ ⟨by omega, by omega⟩ (fun h => by omega)
        · rw [tif_f h3]
          exact fun h => by cases h
      · rw [tif_f h2]
        exact fun h => by cases h
  rw [tif_f w_rock]
  by_cases w_table : tx_is f e b wv_table
  · rw [tif_t w_table]
    unfold v_table
    by_cases h1 : N 6 = 6
    · rw [tif_t h1]
      exact fun h => by cases h
    · rw [tif_f h1]
      intro ht
      obtain ⟨s1, s2⟩ := v_sp_w _ _ _ _ ht
      have b6 := hN.2.1.2.2.2.2.1
      refine gi_table h h1 ?_ (fun j j6 jo => ?_)
      · rw [s1 6 (by omega), nup_at]
      · rw [s1 j (by omega), nup_ne j6]
  rw [tif_f w_table]
  exact fun h => by cases h
theorem v_txt_g : ∀ (t : Nat) (N : Int → Int) (b : Int), GI N → 0 ≤ b ∧ b ≤ e → (v_txt f e t N b).1 = true → GI (v_txt f e t N b).2.2 := by
  intro t
  induction t with
  | zero => exact fun N b _ _ h => by cases h
  | succ t ih =>
    intro N b h hb ht
    have q := v_line_b (f := f) (N := N) hb
    by_cases h1 : (v_line f e N b).1 = true
    · by_cases h2 : tx_k f e (v_line f e N b).2.1 = 256
      · rw [show v_txt f e (t + 1) N b = v_line f e N b by show tif _ _ _ = _; rw [tif_t h1, tif_t h2]]
        exact v_line_g h hb h1
      · by_cases h3 : tx_k f e (v_line f e N b).2.1 = 59
        · rw [show v_txt f e (t + 1) N b = v_txt f e t (v_line f e N b).2.2 (tx_n f e (v_line f e N b).2.1) by show tif _ _ _ = _; rw [tif_t h1, tif_f h2, tif_t h3]] at ht ⊢
          have n1 := tx_nb (f := f) q.2
          exact ih _ _ (v_line_g h hb h1) ⟨by omega, n1.2.1⟩ ht
        · rw [show v_txt f e (t + 1) N b = (false, (v_line f e N b).2.1, N) by show tif _ _ _ = _; rw [tif_t h1, tif_f h2, tif_f h3]] at ht
          cases ht
    · rw [show v_txt f e (t + 1) N b = (false, (v_line f e N b).2.1, N) from tif_f h1] at ht
      cases ht
theorem v_val_g (h : GI N) (he : 0 ≤ e) (ht : (v_val f e N).1 = true) : GI (v_val f e N).2.2 := by
  obtain ⟨g1, g2, -⟩ := tx_gb (f := f) he
  by_cases h1 : tx_k f e (tx_g f e 0) = 256
  · rw [show v_val f e N = (true, tx_g f e 0, N) from tif_t h1]
    exact h
  · rw [show v_val f e N = v_txt f e 14 N (tx_g f e 0) from tif_f h1] at ht ⊢
    exact v_txt_g _ _ _ h ⟨g1, g2⟩ ht
end VG
end
/-! 7a37.v1wd -/
section
/-! THE WORDS OF THE CLASS'S READER OF A VALLEY (laid by wip/core/v1.py out of p5's texts). -/
noncomputable def vm (M : gm_M) (p b w k v : Int) : gm_M := fun a j => if a = 214 then (if j = 3 then p else if j = 4 then b else if j = 5 then w else if j = 6 then k else if j = 7 then v else M a j) else M a j
/-- as it stands on a token -/
noncomputable def vt (M : gm_M) (e b w : Int) : gm_M := vm M (tx_s (M 2) e b) b w (tx_k (M 2) e b) (tx_v (M 2) e 4 b)
section VM
variable {M : gm_M} {e p b w k v x : Int}
theorem vm_p : gm_uM (vm M p b w k v) 214 ((3 : Nat) : Int) x = vm M x b w k v := by
  show gm_uM (vm M p b w k v) 214 3 x = vm M x b w k v
  funext a j
  by_cases ha : a = 214 <;> by_cases hj : j = 3 <;> simp [gm_uM, vm, ha, hj]
theorem vm_b : gm_uM (vm M p b w k v) 214 ((4 : Nat) : Int) x = vm M p x w k v := by
  show gm_uM (vm M p b w k v) 214 4 x = vm M p x w k v
  funext a j
  by_cases ha : a = 214 <;> by_cases hj : j = 4 <;> simp [gm_uM, vm, ha, hj]
theorem vm_w : gm_uM (vm M p b w k v) 214 ((5 : Nat) : Int) x = vm M p b x k v := by
  show gm_uM (vm M p b w k v) 214 5 x = vm M p b x k v
  funext a j
  by_cases ha : a = 214 <;> by_cases hj : j = 5 <;> simp [gm_uM, vm, ha, hj]
theorem vm_k : gm_uM (vm M p b w k v) 214 ((6 : Nat) : Int) x = vm M p b w x v := by
  show gm_uM (vm M p b w k v) 214 6 x = vm M p b w x v
  funext a j
  by_cases ha : a = 214 <;> by_cases hj : j = 6 <;> simp [gm_uM, vm, ha, hj]
theorem vm_v : gm_uM (vm M p b w k v) 214 ((7 : Nat) : Int) x = vm M p b w k x := by
  show gm_uM (vm M p b w k v) 214 7 x = vm M p b w k x
  funext a j
  by_cases ha : a = 214 <;> by_cases hj : j = 7 <;> simp [gm_uM, vm, ha, hj]
theorem vt_w : gm_uM (vt M e b w) 214 ((5 : Nat) : Int) x = vt M e b x := vm_w
theorem vm_id : vm M (M 214 3) (M 214 4) (M 214 5) (M 214 6) (M 214 7) = M := by
  funext a j
  unfold vm
  by_cases h1 : a = 214
  · subst h1
    by_cases g1 : j = 3
    · subst g1; rfl
    by_cases g2 : j = 4
    · subst g2; rfl
    by_cases g3 : j = 5
    · subst g3; rfl
    by_cases g4 : j = 6
    · subst g4; rfl
    by_cases g5 : j = 7
    · subst g5; rfl
    rw [if_pos rfl, if_neg g1, if_neg g2, if_neg g3, if_neg g4, if_neg g5]
  · rw [if_neg h1]
end VM
/-- what stays while a valley's text is read -/
noncomputable def vE (n : Nat) (K : gm_K) (R : gm_R) (M : gm_M) (e : Int) : Prop := (((1 ≤ 2 ∧ 2 ≤ n) ∧ K 2 = (1, 400)) ∧ (1 ≤ 214 ∧ 214 ≤ n) ∧ K 214 = (12, 0)) ∧ (R 214 0 = 2 ∧ M 214 1 = 4) ∧ (M 214 2 = e ∧ 0 ≤ e ∧ e ≤ 400) ∧ ∀ j, 0 ≤ j → j < 400 → -128 ≤ M 2 j ∧ M 2 j ≤ 127
section VE
variable {n : Nat} {K : gm_K} {R : gm_R} {M : gm_M} {e : Int}
theorem vE2 (h : vE n K R M e) : (1 ≤ 2 ∧ 2 ≤ n) ∧ K 2 = (1, 400) := h.1.1
theorem vE214 (h : vE n K R M e) : (1 ≤ 214 ∧ 214 ≤ n) ∧ (K 214).1 = 8 + 4 := ⟨h.1.2.1, by rw [h.1.2.2]⟩
theorem vEe (h : vE n K R M e) : M 214 2 = e ∧ 0 ≤ e ∧ e ≤ 400 := h.2.2.1
theorem vEb (h : vE n K R M e) {j : Int} (h1 : 0 ≤ j) (h2 : j < 400) : -128 ≤ M 2 j ∧ M 2 j ≤ 127 := h.2.2.2 j h1 h2
end VE
section VW
variable {X : Int → Int} {LX d bc bs n : Nat} {K : gm_K} {R : gm_R} {M : gm_M} {Q : gm_Q} {e p b w k v x : Int}
theorem vx_n0 (hd : 1 ≤ d) (hE : vE n K R M e) : ∀ p, 0 ≤ p → p ≤ e → gm_Wp X LX d bc bs 76 38 [some (gm_vr 214), none] [] n K R (vm M (tx_g (M 2) e p) b w k v) Q → gm_Wp X LX d bc bs 76 0 [some (gm_vr 214), none] [] n K R (vm M p b w k v) Q := by
  obtain ⟨-, he0, he4⟩ := vEe hE
  refine fw_ind (fun p hp0 hpe ih kq => ?_)
  refine gm_sz (gm_p_load (pc := 0) (i := .aload_n 0) (sr := 2) (j := 0) (by decide +kernel) rfl rfl rfl) ?_
  refine gm_sz (fw_gi (pc := 1) (ix := 15) (ci := 8) (j := 3) (x := p) (by decide +kernel) (vE214 hE) (by decide +kernel) (by decide +kernel) rfl) ?_
  refine gm_sz (gm_p_load (pc := 4) (i := .aload_n 0) (sr := 2) (j := 0) (by decide +kernel) rfl rfl rfl) ?_
  refine gm_sz (fw_gi (pc := 5) (ix := 9) (ci := 8) (j := 2) (x := e) (by decide +kernel) (vE214 hE) (by decide +kernel) (by decide +kernel) (vEe hE).1) ?_
  refine fw_ic (cc := .ge) (pc := 8) (off := 30) (by decide +kernel) (by decide) ⟨by omega, by omega⟩ ⟨by omega, by omega⟩ (fun j1 => ?_) (fun j1 => ?_)
  · have j1 : e ≤ p := j1
    rw [tx_gg (fun h => by omega)] at kq
    exact kq
  · have j1 : ¬ e ≤ p := j1
    refine gm_sz (gm_p_load (pc := 11) (i := .aload_n 0) (sr := 2) (j := 0) (by decide +kernel) rfl rfl rfl) ?_
    refine gm_sz (fw_gr (pc := 12) (ix := 30) (ci := 8) (j := 0) (r := 2) (by decide +kernel) (vE214 hE) (by decide +kernel) (by decide +kernel) (show R 214 0 = 2 ∧ M 214 1 = 4 from hE.2.1).1) ?_
    refine gm_sz (gm_p_load (pc := 15) (i := .aload_n 0) (sr := 2) (j := 0) (by decide +kernel) rfl rfl rfl) ?_
    refine gm_sz (fw_gi (pc := 16) (ix := 15) (ci := 8) (j := 3) (x := p) (by decide +kernel) (vE214 hE) (by decide +kernel) (by decide +kernel) rfl) ?_
    refine gm_sz (fw_ba (pc := 19) (k := 2) (len := 400) (e0 := p) (x := M 2 p) (by decide +kernel) (vE2 hE).1 (vE2 hE).2 (by decide) ⟨by omega, by omega⟩ rfl) ?_
    have y2 := vEb hE (j := p) (by omega) (by omega)
    refine gm_sz (gm_p_const (pc := 20) (i := .bipush 32) (v := gm_vi 32) (by decide +kernel) (by decide +kernel)) ?_
    refine fw_ic (cc := .ne) (pc := 22) (off := 16) (by decide +kernel) (by decide) ⟨by omega, by omega⟩ ⟨by decide, by decide⟩ (fun j3 => ?_) (fun j3 => ?_)
    · have j3 : ¬ (M 2 p) = 32 := j3
      rw [tx_gg (fun h => by omega)] at kq
      exact kq
    · have j3 : (M 2 p) = 32 := Classical.not_not.mp j3
      refine gm_sz (gm_p_load (pc := 25) (i := .aload_n 0) (sr := 2) (j := 0) (by decide +kernel) rfl rfl rfl) ?_
      refine gm_sz (gm_p_dup (pc := 26) (by decide +kernel) fw_sr) ?_
      refine gm_sz (fw_gi (pc := 27) (ix := 15) (ci := 8) (j := 3) (x := p) (by decide +kernel) (vE214 hE) (by decide +kernel) (by decide +kernel) rfl) ?_
      refine gm_sz (gm_p_const (pc := 30) (i := .iconst 1) (v := gm_vi 1) (by decide +kernel) (by decide +kernel)) ?_
      refine gm_sz (gm_p_bin (pc := 31) (i := .iadd) (f := fun x y => x + y) (by decide +kernel) rfl) ?_
      refine gm_sz (fw_pi (pc := 32) (ix := 15) (ci := 8) (j := 3) (M' := vm M (p + 1) b w k v) (by decide +kernel) (vE214 hE) (by decide +kernel) (by decide +kernel) (by decide +kernel) vm_p) ?_
      refine gm_sz (gm_p_goto (pc := 35) (off := (-35)) (by decide +kernel) (by decide)) ?_
      rw [tx_gt (by omega) (by omega)] at kq
      exact ih (by omega) kq

theorem vx_n1 (hd : 1 ≤ d) (hE : vE n K R M e) : ∀ p, 0 ≤ p → p ≤ e → gm_Wp X LX d bc bs 76 288 [some (gm_vr 214), none] [] n K R (vm M (tx_r (tx_l (M 2)) e p) b w k v) Q → gm_Wp X LX d bc bs 76 94 [some (gm_vr 214), none] [] n K R (vm M p b w k v) Q := by
  obtain ⟨-, he0, he4⟩ := vEe hE
  refine fw_ind (fun p hp0 hpe ih kq => ?_)
  refine gm_sz (gm_p_load (pc := 94) (i := .aload_n 0) (sr := 2) (j := 0) (by decide +kernel) rfl rfl rfl) ?_
  refine gm_sz (fw_gi (pc := 95) (ix := 15) (ci := 8) (j := 3) (x := p) (by decide +kernel) (vE214 hE) (by decide +kernel) (by decide +kernel) rfl) ?_
  refine gm_sz (gm_p_load (pc := 98) (i := .aload_n 0) (sr := 2) (j := 0) (by decide +kernel) rfl rfl rfl) ?_
  refine gm_sz (fw_gi (pc := 99) (ix := 9) (ci := 8) (j := 2) (x := e) (by decide +kernel) (vE214 hE) (by decide +kernel) (by decide +kernel) (vEe hE).1) ?_
  refine fw_ic (cc := .ge) (pc := 102) (off := 186) (by decide +kernel) (by decide) ⟨by omega, by omega⟩ ⟨by omega, by omega⟩ (fun j1 => ?_) (fun j1 => ?_)
  · have j1 : e ≤ p := j1
    rw [tx_rf (fun h h2 => by have := of_decide_eq_true h2; omega)] at kq
    exact kq
  · have j1 : ¬ e ≤ p := j1
    refine gm_sz (gm_p_load (pc := 105) (i := .aload_n 0) (sr := 2) (j := 0) (by decide +kernel) rfl rfl rfl) ?_
    refine gm_sz (fw_gr (pc := 106) (ix := 30) (ci := 8) (j := 0) (r := 2) (by decide +kernel) (vE214 hE) (by decide +kernel) (by decide +kernel) (show R 214 0 = 2 ∧ M 214 1 = 4 from hE.2.1).1) ?_
    refine gm_sz (gm_p_load (pc := 109) (i := .aload_n 0) (sr := 2) (j := 0) (by decide +kernel) rfl rfl rfl) ?_
    refine gm_sz (fw_gi (pc := 110) (ix := 15) (ci := 8) (j := 3) (x := p) (by decide +kernel) (vE214 hE) (by decide +kernel) (by decide +kernel) rfl) ?_
    refine gm_sz (fw_ba (pc := 113) (k := 2) (len := 400) (e0 := p) (x := M 2 p) (by decide +kernel) (vE2 hE).1 (vE2 hE).2 (by decide) ⟨by omega, by omega⟩ rfl) ?_
    have y2 := vEb hE (j := p) (by omega) (by omega)
    refine gm_c_stat (mj := 77) (ix := 46) (pc := 114) (as := [gm_vi (M 2 p)]) (st := []) (d' := d - 1) (bc' := 0) (bs' := 0) (by decide +kernel) (by decide +kernel) (by decide +kernel) (by decide +kernel) (show 1 = gm_na 77 by decide +kernel) (fw_c1 fw_si) (show 1 ≤ gm_ml 77 by decide +kernel) (Nat.le_of_ble_eq_true rfl) (by omega) (Nat.zero_le _) (Nat.zero_le _) ?_
    refine tx_c77 ⟨by omega, by omega⟩ (fun j3 => ?_) (fun j3 => ?_)
    · show gm_Wp X LX d _ _ 76 117 _ [gm_vi 1] n K R _ Q
      have j3 : 97 ≤ M 2 p ∧ M 2 p ≤ 122 := j3
      refine fw_iffd (cc := .eq) (pc := 117) (off := 171) (by decide +kernel) (by decide) ⟨by decide, by decide⟩ (by decide) ?_
      refine gm_sz (gm_p_load (pc := 120) (i := .aload_n 0) (sr := 2) (j := 0) (by decide +kernel) rfl rfl rfl) ?_
      refine gm_sz (gm_p_dup (pc := 121) (by decide +kernel) fw_sr) ?_
      refine gm_sz (fw_gi (pc := 122) (ix := 15) (ci := 8) (j := 3) (x := p) (by decide +kernel) (vE214 hE) (by decide +kernel) (by decide +kernel) rfl) ?_
      refine gm_sz (gm_p_const (pc := 125) (i := .iconst 1) (v := gm_vi 1) (by decide +kernel) (by decide +kernel)) ?_
      refine gm_sz (gm_p_bin (pc := 126) (i := .iadd) (f := fun x y => x + y) (by decide +kernel) rfl) ?_
      refine gm_sz (fw_pi (pc := 127) (ix := 15) (ci := 8) (j := 3) (M' := vm M (p + 1) b w k v) (by decide +kernel) (vE214 hE) (by decide +kernel) (by decide +kernel) (by decide +kernel) vm_p) ?_
      refine gm_sz (gm_p_goto (pc := 130) (off := (-36)) (by decide +kernel) (by decide)) ?_
      rw [tx_rt (by omega) (decide_eq_true (by omega))] at kq
      exact ih (by omega) kq
    · show gm_Wp X LX d _ _ 76 117 _ [gm_vi 0] n K R _ Q
      have j3 : ¬ (97 ≤ M 2 p ∧ M 2 p ≤ 122) := j3
      refine fw_iftd (cc := .eq) (pc := 117) (off := 171) (by decide +kernel) (by decide) ⟨by decide, by decide⟩ (by decide) ?_
      rw [tx_rf (fun h h2 => by have := of_decide_eq_true h2; omega)] at kq
      exact kq

theorem vx_n2 (hd : 1 ≤ d) (hE : vE n K R M e) : ∀ p, 0 ≤ p → p ≤ e → ∀ (v : Int) (z : Option gm_V), b ≤ p → 0 ≤ b → (v = -1 ∨ (0 ≤ v ∧ v < tx_t (p - b))) → (∀ z, gm_Wp X LX d bc bs 76 288 [some (gm_vr 214), z] [] n K R (vm M (tx_r (tx_d (M 2)) e p) b w k (tx_u (M 2) e 4 b (e - p).toNat p v)) Q) → gm_Wp X LX d bc bs 76 160 [some (gm_vr 214), z] [] n K R (vm M p b w k v) Q := by
  obtain ⟨-, he0, he4⟩ := vEe hE
  refine fw_ind (fun p hp0 hpe ih v z hbp hb0 hv kq => ?_)
  have htb := tx_tb (k := p - b)
  refine gm_sz (gm_p_load (pc := 160) (i := .aload_n 0) (sr := 2) (j := 0) (by decide +kernel) rfl rfl rfl) ?_
  refine gm_sz (fw_gi (pc := 161) (ix := 15) (ci := 8) (j := 3) (x := p) (by decide +kernel) (vE214 hE) (by decide +kernel) (by decide +kernel) rfl) ?_
  refine gm_sz (gm_p_load (pc := 164) (i := .aload_n 0) (sr := 2) (j := 0) (by decide +kernel) rfl rfl rfl) ?_
  refine gm_sz (fw_gi (pc := 165) (ix := 9) (ci := 8) (j := 2) (x := e) (by decide +kernel) (vE214 hE) (by decide +kernel) (by decide +kernel) (vEe hE).1) ?_
  refine fw_ic (cc := .ge) (pc := 168) (off := 120) (by decide +kernel) (by decide) ⟨by omega, by omega⟩ ⟨by omega, by omega⟩ (fun j1 => ?_) (fun j1 => ?_)
  · have j1 : e ≤ p := j1
    have kq := kq z
    rw [tx_rf (fun h h2 => by have := of_decide_eq_true h2; omega), tx_uf (fun h h2 => by have := of_decide_eq_true h2; omega)] at kq
    exact kq
  · have j1 : ¬ e ≤ p := j1
    refine gm_sz (gm_p_load (pc := 171) (i := .aload_n 0) (sr := 2) (j := 0) (by decide +kernel) rfl rfl rfl) ?_
    refine gm_sz (fw_gr (pc := 172) (ix := 30) (ci := 8) (j := 0) (r := 2) (by decide +kernel) (vE214 hE) (by decide +kernel) (by decide +kernel) (show R 214 0 = 2 ∧ M 214 1 = 4 from hE.2.1).1) ?_
    refine gm_sz (gm_p_load (pc := 175) (i := .aload_n 0) (sr := 2) (j := 0) (by decide +kernel) rfl rfl rfl) ?_
    refine gm_sz (fw_gi (pc := 176) (ix := 15) (ci := 8) (j := 3) (x := p) (by decide +kernel) (vE214 hE) (by decide +kernel) (by decide +kernel) rfl) ?_
    refine gm_sz (fw_ba (pc := 179) (k := 2) (len := 400) (e0 := p) (x := M 2 p) (by decide +kernel) (vE2 hE).1 (vE2 hE).2 (by decide) ⟨by omega, by omega⟩ rfl) ?_
    have y2 := vEb hE (j := p) (by omega) (by omega)
    refine gm_c_stat (mj := 78) (ix := 50) (pc := 180) (as := [gm_vi (M 2 p)]) (st := []) (d' := d - 1) (bc' := 0) (bs' := 0) (by decide +kernel) (by decide +kernel) (by decide +kernel) (by decide +kernel) (show 1 = gm_na 78 by decide +kernel) (fw_c1 fw_si) (show 1 ≤ gm_ml 78 by decide +kernel) (Nat.le_of_ble_eq_true rfl) (by omega) (Nat.zero_le _) (Nat.zero_le _) ?_
    refine tx_c78 ⟨by omega, by omega⟩ (fun j3 => ?_) (fun j3 => ?_)
    · show gm_Wp X LX d _ _ 76 183 _ [gm_vi 1] n K R _ Q
      have j3 : 48 ≤ M 2 p ∧ M 2 p ≤ 57 := j3
      refine fw_iffd (cc := .eq) (pc := 183) (off := 105) (by decide +kernel) (by decide) ⟨by decide, by decide⟩ (by decide) ?_
      refine gm_sz (gm_p_load (pc := 186) (i := .aload_n 0) (sr := 2) (j := 0) (by decide +kernel) rfl rfl rfl) ?_
      refine gm_sz (fw_gi (pc := 187) (ix := 15) (ci := 8) (j := 3) (x := p) (by decide +kernel) (vE214 hE) (by decide +kernel) (by decide +kernel) rfl) ?_
      refine gm_sz (gm_p_load (pc := 190) (i := .aload_n 0) (sr := 2) (j := 0) (by decide +kernel) rfl rfl rfl) ?_
      refine gm_sz (fw_gi (pc := 191) (ix := 18) (ci := 8) (j := 4) (x := b) (by decide +kernel) (vE214 hE) (by decide +kernel) (by decide +kernel) rfl) ?_
      refine gm_sz (gm_p_bin (pc := 194) (i := .isub) (f := fun x y => x - y) (by decide +kernel) rfl) ?_
      refine gm_sz (gm_p_load (pc := 195) (i := .aload_n 0) (sr := 2) (j := 0) (by decide +kernel) rfl rfl rfl) ?_
      refine gm_sz (fw_gi (pc := 196) (ix := 34) (ci := 8) (j := 1) (x := 4) (by decide +kernel) (vE214 hE) (by decide +kernel) (by decide +kernel) (show R 214 0 = 2 ∧ M 214 1 = 4 from hE.2.1).2) ?_
      refine fw_ic (cc := .ge) (pc := 199) (off := 15) (by decide +kernel) (by decide) ⟨by omega, by omega⟩ ⟨by decide, by decide⟩ (fun j4 => ?_) (fun j4 => ?_)
      · have j4 : 4 ≤ (p - b) := j4
        refine gm_sz (gm_p_const (pc := 214) (i := .iconst 0) (v := gm_vi 0) (by decide +kernel) (by decide +kernel)) ?_
        refine gm_sz (gm_p_stor (pc := 215) (i := .istore_n 1) (sr := 0) (j := 1) (by decide +kernel) rfl (show 2 ≤ _ from Nat.le_of_ble_eq_true rfl) rfl) ?_
        refine gm_sz (gm_p_load (pc := 216) (i := .aload_n 0) (sr := 2) (j := 0) (by decide +kernel) rfl rfl rfl) ?_
        refine gm_sz (gm_p_load (pc := 217) (i := .iload_n 1) (sr := 0) (j := 1) (by decide +kernel) rfl rfl rfl) ?_
        refine fw_iftd (cc := .eq) (pc := 218) (off := 26) (by decide +kernel) (by decide) ⟨by decide, by decide⟩ (by decide) ?_
        refine gm_sz (gm_p_const (pc := 244) (i := .iconst (-1)) (v := gm_vi (-1)) (by decide +kernel) (by decide +kernel)) ?_
        refine gm_sz (fw_pi (pc := 245) (ix := 27) (ci := 8) (j := 7) (M' := vm M p b w k (-1)) (by decide +kernel) (vE214 hE) (by decide +kernel) (by decide +kernel) (by decide +kernel) vm_v) ?_
        refine gm_sz (gm_p_load (pc := 248) (i := .aload_n 0) (sr := 2) (j := 0) (by decide +kernel) rfl rfl rfl) ?_
        refine gm_sz (gm_p_dup (pc := 249) (by decide +kernel) fw_sr) ?_
        refine gm_sz (fw_gi (pc := 250) (ix := 15) (ci := 8) (j := 3) (x := p) (by decide +kernel) (vE214 hE) (by decide +kernel) (by decide +kernel) rfl) ?_
        refine gm_sz (gm_p_const (pc := 253) (i := .iconst 1) (v := gm_vi 1) (by decide +kernel) (by decide +kernel)) ?_
        refine gm_sz (gm_p_bin (pc := 254) (i := .iadd) (f := fun x y => x + y) (by decide +kernel) rfl) ?_
        refine gm_sz (fw_pi (pc := 255) (ix := 15) (ci := 8) (j := 3) (M' := vm M (p + 1) b w k (-1)) (by decide +kernel) (vE214 hE) (by decide +kernel) (by decide +kernel) (by decide +kernel) vm_p) ?_
        refine gm_sz (gm_p_goto (pc := 258) (off := (-98)) (by decide +kernel) (by decide)) ?_
        have hdg : tx_d (M 2) p = true := decide_eq_true (by omega)
        rw [tx_rt (by omega) hdg, tx_ut (by omega) hdg] at kq
        rw [if_neg (show ¬ (p - b < 4 ∧ ¬ v = -1) by omega)] at kq
        exact ih (by omega) _ _ (by omega) hb0 (Or.inl rfl) kq
      · have j4 : ¬ 4 ≤ (p - b) := j4
        refine gm_sz (gm_p_load (pc := 202) (i := .aload_n 0) (sr := 2) (j := 0) (by decide +kernel) rfl rfl rfl) ?_
        refine gm_sz (fw_gi (pc := 203) (ix := 27) (ci := 8) (j := 7) (x := v) (by decide +kernel) (vE214 hE) (by decide +kernel) (by decide +kernel) rfl) ?_
        refine gm_sz (gm_p_const (pc := 206) (i := .iconst (-1)) (v := gm_vi (-1)) (by decide +kernel) (by decide +kernel)) ?_
        refine fw_ic (cc := .eq) (pc := 207) (off := 7) (by decide +kernel) (by decide) ⟨by omega, by omega⟩ ⟨by decide, by decide⟩ (fun j5 => ?_) (fun j5 => ?_)
        · have j5 : v = (-1) := j5
          refine gm_sz (gm_p_const (pc := 214) (i := .iconst 0) (v := gm_vi 0) (by decide +kernel) (by decide +kernel)) ?_
          refine gm_sz (gm_p_stor (pc := 215) (i := .istore_n 1) (sr := 0) (j := 1) (by decide +kernel) rfl (show 2 ≤ _ from Nat.le_of_ble_eq_true rfl) rfl) ?_
          refine gm_sz (gm_p_load (pc := 216) (i := .aload_n 0) (sr := 2) (j := 0) (by decide +kernel) rfl rfl rfl) ?_
          refine gm_sz (gm_p_load (pc := 217) (i := .iload_n 1) (sr := 0) (j := 1) (by decide +kernel) rfl rfl rfl) ?_
          refine fw_iftd (cc := .eq) (pc := 218) (off := 26) (by decide +kernel) (by decide) ⟨by decide, by decide⟩ (by decide) ?_
          refine gm_sz (gm_p_const (pc := 244) (i := .iconst (-1)) (v := gm_vi (-1)) (by decide +kernel) (by decide +kernel)) ?_
          refine gm_sz (fw_pi (pc := 245) (ix := 27) (ci := 8) (j := 7) (M' := vm M p b w k (-1)) (by decide +kernel) (vE214 hE) (by decide +kernel) (by decide +kernel) (by decide +kernel) vm_v) ?_
          refine gm_sz (gm_p_load (pc := 248) (i := .aload_n 0) (sr := 2) (j := 0) (by decide +kernel) rfl rfl rfl) ?_
          refine gm_sz (gm_p_dup (pc := 249) (by decide +kernel) fw_sr) ?_
          refine gm_sz (fw_gi (pc := 250) (ix := 15) (ci := 8) (j := 3) (x := p) (by decide +kernel) (vE214 hE) (by decide +kernel) (by decide +kernel) rfl) ?_
          refine gm_sz (gm_p_const (pc := 253) (i := .iconst 1) (v := gm_vi 1) (by decide +kernel) (by decide +kernel)) ?_
          refine gm_sz (gm_p_bin (pc := 254) (i := .iadd) (f := fun x y => x + y) (by decide +kernel) rfl) ?_
          refine gm_sz (fw_pi (pc := 255) (ix := 15) (ci := 8) (j := 3) (M' := vm M (p + 1) b w k (-1)) (by decide +kernel) (vE214 hE) (by decide +kernel) (by decide +kernel) (by decide +kernel) vm_p) ?_
          refine gm_sz (gm_p_goto (pc := 258) (off := (-98)) (by decide +kernel) (by decide)) ?_
          have hdg : tx_d (M 2) p = true := decide_eq_true (by omega)
          rw [tx_rt (by omega) hdg, tx_ut (by omega) hdg] at kq
          rw [if_neg (show ¬ (p - b < 4 ∧ ¬ v = -1) by omega)] at kq
          exact ih (by omega) _ _ (by omega) hb0 (Or.inl rfl) kq
        · have j5 : ¬ v = (-1) := j5
          refine gm_sz (gm_p_const (pc := 210) (i := .iconst 1) (v := gm_vi 1) (by decide +kernel) (by decide +kernel)) ?_
          refine gm_sz (gm_p_goto (pc := 211) (off := 4) (by decide +kernel) (by decide)) ?_
          refine gm_sz (gm_p_stor (pc := 215) (i := .istore_n 1) (sr := 0) (j := 1) (by decide +kernel) rfl (show 2 ≤ _ from Nat.le_of_ble_eq_true rfl) rfl) ?_
          refine gm_sz (gm_p_load (pc := 216) (i := .aload_n 0) (sr := 2) (j := 0) (by decide +kernel) rfl rfl rfl) ?_
          refine gm_sz (gm_p_load (pc := 217) (i := .iload_n 1) (sr := 0) (j := 1) (by decide +kernel) rfl rfl rfl) ?_
          refine fw_iffd (cc := .eq) (pc := 218) (off := 26) (by decide +kernel) (by decide) ⟨by decide, by decide⟩ (by decide) ?_
          refine gm_sz (gm_p_load (pc := 221) (i := .aload_n 0) (sr := 2) (j := 0) (by decide +kernel) rfl rfl rfl) ?_
          refine gm_sz (fw_gi (pc := 222) (ix := 27) (ci := 8) (j := 7) (x := v) (by decide +kernel) (vE214 hE) (by decide +kernel) (by decide +kernel) rfl) ?_
          refine gm_sz (gm_p_const (pc := 225) (i := .bipush 10) (v := gm_vi 10) (by decide +kernel) (by decide +kernel)) ?_
          refine gm_sz (gm_p_bin (pc := 227) (i := .imul) (f := fun x y => x * y) (by decide +kernel) rfl) ?_
          refine gm_sz (gm_p_load (pc := 228) (i := .aload_n 0) (sr := 2) (j := 0) (by decide +kernel) rfl rfl rfl) ?_
          refine gm_sz (fw_gr (pc := 229) (ix := 30) (ci := 8) (j := 0) (r := 2) (by decide +kernel) (vE214 hE) (by decide +kernel) (by decide +kernel) (show R 214 0 = 2 ∧ M 214 1 = 4 from hE.2.1).1) ?_
          refine gm_sz (gm_p_load (pc := 232) (i := .aload_n 0) (sr := 2) (j := 0) (by decide +kernel) rfl rfl rfl) ?_
          refine gm_sz (fw_gi (pc := 233) (ix := 15) (ci := 8) (j := 3) (x := p) (by decide +kernel) (vE214 hE) (by decide +kernel) (by decide +kernel) rfl) ?_
          refine gm_sz (fw_ba (pc := 236) (k := 2) (len := 400) (e0 := p) (x := M 2 p) (by decide +kernel) (vE2 hE).1 (vE2 hE).2 (by decide) ⟨by omega, by omega⟩ rfl) ?_
          have y6 := vEb hE (j := p) (by omega) (by omega)
          refine gm_sz (gm_p_bin (pc := 237) (i := .iadd) (f := fun x y => x + y) (by decide +kernel) rfl) ?_
          refine gm_sz (gm_p_const (pc := 238) (i := .bipush 48) (v := gm_vi 48) (by decide +kernel) (by decide +kernel)) ?_
          refine gm_sz (gm_p_bin (pc := 240) (i := .isub) (f := fun x y => x - y) (by decide +kernel) rfl) ?_
          refine gm_sz (gm_p_goto (pc := 241) (off := 4) (by decide +kernel) (by decide)) ?_
          refine gm_sz (fw_pi (pc := 245) (ix := 27) (ci := 8) (j := 7) (M' := vm M p b w k (((v * 10) + (M 2 p)) - 48)) (by decide +kernel) (vE214 hE) (by decide +kernel) (by decide +kernel) (by decide +kernel) vm_v) ?_
          refine gm_sz (gm_p_load (pc := 248) (i := .aload_n 0) (sr := 2) (j := 0) (by decide +kernel) rfl rfl rfl) ?_
          refine gm_sz (gm_p_dup (pc := 249) (by decide +kernel) fw_sr) ?_
          refine gm_sz (fw_gi (pc := 250) (ix := 15) (ci := 8) (j := 3) (x := p) (by decide +kernel) (vE214 hE) (by decide +kernel) (by decide +kernel) rfl) ?_
          refine gm_sz (gm_p_const (pc := 253) (i := .iconst 1) (v := gm_vi 1) (by decide +kernel) (by decide +kernel)) ?_
          refine gm_sz (gm_p_bin (pc := 254) (i := .iadd) (f := fun x y => x + y) (by decide +kernel) rfl) ?_
          refine gm_sz (fw_pi (pc := 255) (ix := 15) (ci := 8) (j := 3) (M' := vm M (p + 1) b w k (((v * 10) + (M 2 p)) - 48)) (by decide +kernel) (vE214 hE) (by decide +kernel) (by decide +kernel) (by decide +kernel) vm_p) ?_
          refine gm_sz (gm_p_goto (pc := 258) (off := (-98)) (by decide +kernel) (by decide)) ?_
          have hdg : tx_d (M 2) p = true := decide_eq_true (by omega)
          rw [tx_rt (by omega) hdg, tx_ut (by omega) hdg] at kq
          rw [if_pos (show p - b < 4 ∧ ¬ v = -1 by omega)] at kq
          have t := tx_tv (v := v) (k := p - b) (c := M 2 p) (by omega) (by omega) (by omega)
          exact ih (by omega) _ _ (by omega) hb0 (Or.inr (by rw [show p + 1 - b = p - b + 1 by omega]; exact t)) kq
    · show gm_Wp X LX d _ _ 76 183 _ [gm_vi 0] n K R _ Q
      have j3 : ¬ (48 ≤ M 2 p ∧ M 2 p ≤ 57) := j3
      refine fw_iftd (cc := .eq) (pc := 183) (off := 105) (by decide +kernel) (by decide) ⟨by decide, by decide⟩ (by decide) ?_
      have kq := kq z
      rw [tx_rf (fun h h2 => by have := of_decide_eq_true h2; omega), tx_uf (fun h h2 => by have := of_decide_eq_true h2; omega)] at kq
      exact kq

theorem vx_nx (hd : 1 ≤ d) (hE : vE n K R M e) (hp : 0 ≤ p ∧ p ≤ e) (hq : Q (.inl none) n K R (vt M e (tx_g (M 2) e p) w)) : gm_Wp X LX d bc bs 76 0 (gm_ent 76 [gm_vr 214]) [] n K R (vm M p b w k v) Q := by
  obtain ⟨-, he0, he4⟩ := vEe hE
  refine vx_n0 hd hE p hp.1 hp.2 ?_
  obtain ⟨g1, g2, -⟩ := tx_gb (f := M 2) hp.2
  generalize tx_g (M 2) e p = q at *
  refine gm_sz (gm_p_load (pc := 38) (i := .aload_n 0) (sr := 2) (j := 0) (by decide +kernel) rfl rfl rfl) ?_
  refine gm_sz (gm_p_load (pc := 39) (i := .aload_n 0) (sr := 2) (j := 0) (by decide +kernel) rfl rfl rfl) ?_
  refine gm_sz (fw_gi (pc := 40) (ix := 15) (ci := 8) (j := 3) (x := q) (by decide +kernel) (vE214 hE) (by decide +kernel) (by decide +kernel) rfl) ?_
  refine gm_sz (fw_pi (pc := 43) (ix := 18) (ci := 8) (j := 4) (M' := vm M q q w k v) (by decide +kernel) (vE214 hE) (by decide +kernel) (by decide +kernel) (by decide +kernel) vm_b) ?_
  refine gm_sz (gm_p_load (pc := 46) (i := .aload_n 0) (sr := 2) (j := 0) (by decide +kernel) rfl rfl rfl) ?_
  refine gm_sz (gm_p_const (pc := 47) (i := .iconst (-1)) (v := gm_vi (-1)) (by decide +kernel) (by decide +kernel)) ?_
  refine gm_sz (fw_pi (pc := 48) (ix := 27) (ci := 8) (j := 7) (M' := vm M q q w k (-1)) (by decide +kernel) (vE214 hE) (by decide +kernel) (by decide +kernel) (by decide +kernel) vm_v) ?_
  refine gm_sz (gm_p_load (pc := 51) (i := .aload_n 0) (sr := 2) (j := 0) (by decide +kernel) rfl rfl rfl) ?_
  refine gm_sz (fw_gi (pc := 52) (ix := 15) (ci := 8) (j := 3) (x := q) (by decide +kernel) (vE214 hE) (by decide +kernel) (by decide +kernel) rfl) ?_
  refine gm_sz (gm_p_load (pc := 55) (i := .aload_n 0) (sr := 2) (j := 0) (by decide +kernel) rfl rfl rfl) ?_
  refine gm_sz (fw_gi (pc := 56) (ix := 9) (ci := 8) (j := 2) (x := e) (by decide +kernel) (vE214 hE) (by decide +kernel) (by decide +kernel) (vEe hE).1) ?_
  refine fw_ic (cc := .lt) (pc := 59) (off := 13) (by decide +kernel) (by decide) ⟨by omega, by omega⟩ ⟨by omega, by omega⟩ (fun j1 => ?_) (fun j1 => ?_)
  · have j1 : q < e := j1
    refine gm_sz (gm_p_load (pc := 72) (i := .aload_n 0) (sr := 2) (j := 0) (by decide +kernel) rfl rfl rfl) ?_
    refine gm_sz (fw_gr (pc := 73) (ix := 30) (ci := 8) (j := 0) (r := 2) (by decide +kernel) (vE214 hE) (by decide +kernel) (by decide +kernel) (show R 214 0 = 2 ∧ M 214 1 = 4 from hE.2.1).1) ?_
    refine gm_sz (gm_p_load (pc := 76) (i := .aload_n 0) (sr := 2) (j := 0) (by decide +kernel) rfl rfl rfl) ?_
    refine gm_sz (fw_gi (pc := 77) (ix := 15) (ci := 8) (j := 3) (x := q) (by decide +kernel) (vE214 hE) (by decide +kernel) (by decide +kernel) rfl) ?_
    refine gm_sz (fw_ba (pc := 80) (k := 2) (len := 400) (e0 := q) (x := M 2 q) (by decide +kernel) (vE2 hE).1 (vE2 hE).2 (by decide) ⟨by omega, by omega⟩ rfl) ?_
    have y2 := vEb hE (j := q) (by omega) (by omega)
    refine gm_c_stat (mj := 77) (ix := 46) (pc := 81) (as := [gm_vi (M 2 q)]) (st := []) (d' := d - 1) (bc' := 0) (bs' := 0) (by decide +kernel) (by decide +kernel) (by decide +kernel) (by decide +kernel) (show 1 = gm_na 77 by decide +kernel) (fw_c1 fw_si) (show 1 ≤ gm_ml 77 by decide +kernel) (Nat.le_of_ble_eq_true rfl) (by omega) (Nat.zero_le _) (Nat.zero_le _) ?_
    refine tx_c77 ⟨by omega, by omega⟩ (fun j3 => ?_) (fun j3 => ?_)
    · show gm_Wp X LX d _ _ 76 84 _ [gm_vi 1] n K R _ Q
      have j3 : 97 ≤ M 2 q ∧ M 2 q ≤ 122 := j3
      refine fw_iffd (cc := .eq) (pc := 84) (off := 49) (by decide +kernel) (by decide) ⟨by decide, by decide⟩ (by decide) ?_
      refine gm_sz (gm_p_load (pc := 87) (i := .aload_n 0) (sr := 2) (j := 0) (by decide +kernel) rfl rfl rfl) ?_
      refine gm_sz (gm_p_const (pc := 88) (i := .sipush 257) (v := gm_vi 257) (by decide +kernel) (by decide +kernel)) ?_
      refine gm_sz (fw_pi (pc := 91) (ix := 24) (ci := 8) (j := 6) (M' := vm M q q w 257 (-1)) (by decide +kernel) (vE214 hE) (by decide +kernel) (by decide +kernel) (by decide +kernel) vm_k) ?_
      refine vx_n1 hd hE q (by omega) (by omega) ?_
      obtain ⟨t1, t2, t3⟩ := tx_k1 (f := M 2) (e := e) (b := q) (m := 4) (by omega) (by omega)
      unfold vt at hq
      rw [t1, t2, t3] at hq
      exact gm_r_void (pc := 288) (by decide +kernel) (by decide +kernel) hq
    · show gm_Wp X LX d _ _ 76 84 _ [gm_vi 0] n K R _ Q
      have j3 : ¬ (97 ≤ M 2 q ∧ M 2 q ≤ 122) := j3
      refine fw_iftd (cc := .eq) (pc := 84) (off := 49) (by decide +kernel) (by decide) ⟨by decide, by decide⟩ (by decide) ?_
      refine gm_sz (gm_p_load (pc := 133) (i := .aload_n 0) (sr := 2) (j := 0) (by decide +kernel) rfl rfl rfl) ?_
      refine gm_sz (fw_gr (pc := 134) (ix := 30) (ci := 8) (j := 0) (r := 2) (by decide +kernel) (vE214 hE) (by decide +kernel) (by decide +kernel) (show R 214 0 = 2 ∧ M 214 1 = 4 from hE.2.1).1) ?_
      refine gm_sz (gm_p_load (pc := 137) (i := .aload_n 0) (sr := 2) (j := 0) (by decide +kernel) rfl rfl rfl) ?_
      refine gm_sz (fw_gi (pc := 138) (ix := 15) (ci := 8) (j := 3) (x := q) (by decide +kernel) (vE214 hE) (by decide +kernel) (by decide +kernel) rfl) ?_
      refine gm_sz (fw_ba (pc := 141) (k := 2) (len := 400) (e0 := q) (x := M 2 q) (by decide +kernel) (vE2 hE).1 (vE2 hE).2 (by decide) ⟨by omega, by omega⟩ rfl) ?_
      have y4 := vEb hE (j := q) (by omega) (by omega)
      refine gm_c_stat (mj := 78) (ix := 50) (pc := 142) (as := [gm_vi (M 2 q)]) (st := []) (d' := d - 1) (bc' := 0) (bs' := 0) (by decide +kernel) (by decide +kernel) (by decide +kernel) (by decide +kernel) (show 1 = gm_na 78 by decide +kernel) (fw_c1 fw_si) (show 1 ≤ gm_ml 78 by decide +kernel) (Nat.le_of_ble_eq_true rfl) (by omega) (Nat.zero_le _) (Nat.zero_le _) ?_
      refine tx_c78 ⟨by omega, by omega⟩ (fun j5 => ?_) (fun j5 => ?_)
      · show gm_Wp X LX d _ _ 76 145 _ [gm_vi 1] n K R _ Q
        have j5 : 48 ≤ M 2 q ∧ M 2 q ≤ 57 := j5
        refine fw_iffd (cc := .eq) (pc := 145) (off := 116) (by decide +kernel) (by decide) ⟨by decide, by decide⟩ (by decide) ?_
        refine gm_sz (gm_p_load (pc := 148) (i := .aload_n 0) (sr := 2) (j := 0) (by decide +kernel) rfl rfl rfl) ?_
        refine gm_sz (gm_p_const (pc := 149) (i := .sipush 258) (v := gm_vi 258) (by decide +kernel) (by decide +kernel)) ?_
        refine gm_sz (fw_pi (pc := 152) (ix := 24) (ci := 8) (j := 6) (M' := vm M q q w 258 (-1)) (by decide +kernel) (vE214 hE) (by decide +kernel) (by decide +kernel) (by decide +kernel) vm_k) ?_
        refine gm_sz (gm_p_load (pc := 155) (i := .aload_n 0) (sr := 2) (j := 0) (by decide +kernel) rfl rfl rfl) ?_
        refine gm_sz (gm_p_const (pc := 156) (i := .iconst 0) (v := gm_vi 0) (by decide +kernel) (by decide +kernel)) ?_
        refine gm_sz (fw_pi (pc := 157) (ix := 27) (ci := 8) (j := 7) (M' := vm M q q w 258 0) (by decide +kernel) (vE214 hE) (by decide +kernel) (by decide +kernel) (by decide +kernel) vm_v) ?_
        refine vx_n2 hd hE q (by omega) (by omega) 0 none (Int.le_refl _) (by omega) (Or.inr ⟨Int.le_refl _, by have := (tx_tb (k := q - q)).1; omega⟩) (fun z => ?_)
        obtain ⟨t1, t2, t3⟩ := tx_k2 (f := M 2) (e := e) (b := q) (m := 4) (by omega) (by omega)
        unfold vt at hq
        rw [t1, t2, t3] at hq
        exact gm_r_void (pc := 288) (by decide +kernel) (by decide +kernel) hq
      · show gm_Wp X LX d _ _ 76 145 _ [gm_vi 0] n K R _ Q
        have j5 : ¬ (48 ≤ M 2 q ∧ M 2 q ≤ 57) := j5
        refine fw_iftd (cc := .eq) (pc := 145) (off := 116) (by decide +kernel) (by decide) ⟨by decide, by decide⟩ (by decide) ?_
        refine gm_sz (gm_p_load (pc := 261) (i := .aload_n 0) (sr := 2) (j := 0) (by decide +kernel) rfl rfl rfl) ?_
        refine gm_sz (gm_p_load (pc := 262) (i := .aload_n 0) (sr := 2) (j := 0) (by decide +kernel) rfl rfl rfl) ?_
        refine gm_sz (fw_gr (pc := 263) (ix := 30) (ci := 8) (j := 0) (r := 2) (by decide +kernel) (vE214 hE) (by decide +kernel) (by decide +kernel) (show R 214 0 = 2 ∧ M 214 1 = 4 from hE.2.1).1) ?_
        refine gm_sz (gm_p_load (pc := 266) (i := .aload_n 0) (sr := 2) (j := 0) (by decide +kernel) rfl rfl rfl) ?_
        refine gm_sz (fw_gi (pc := 267) (ix := 15) (ci := 8) (j := 3) (x := q) (by decide +kernel) (vE214 hE) (by decide +kernel) (by decide +kernel) rfl) ?_
        refine gm_sz (fw_ba (pc := 270) (k := 2) (len := 400) (e0 := q) (x := M 2 q) (by decide +kernel) (vE2 hE).1 (vE2 hE).2 (by decide) ⟨by omega, by omega⟩ rfl) ?_
        have y6 := vEb hE (j := q) (by omega) (by omega)
        refine gm_sz (gm_p_const (pc := 271) (i := .sipush 255) (v := gm_vi 255) (by decide +kernel) (by decide +kernel)) ?_
        refine gm_sz (gm_p_bin (pc := 274) (i := .iand) (by decide +kernel) rfl) ?_
        rw [show (Int32.ofInt (M 2 q) &&& Int32.ofInt 255).toInt = (M 2 q) % 256 from tx_by ⟨by omega, by omega⟩]
        refine gm_sz (fw_pi (pc := 275) (ix := 24) (ci := 8) (j := 6) (M' := vm M q q w ((M 2 q) % 256) (-1)) (by decide +kernel) (vE214 hE) (by decide +kernel) (by decide +kernel) (by decide +kernel) vm_k) ?_
        refine gm_sz (gm_p_load (pc := 278) (i := .aload_n 0) (sr := 2) (j := 0) (by decide +kernel) rfl rfl rfl) ?_
        refine gm_sz (gm_p_dup (pc := 279) (by decide +kernel) fw_sr) ?_
        refine gm_sz (fw_gi (pc := 280) (ix := 15) (ci := 8) (j := 3) (x := q) (by decide +kernel) (vE214 hE) (by decide +kernel) (by decide +kernel) rfl) ?_
        refine gm_sz (gm_p_const (pc := 283) (i := .iconst 1) (v := gm_vi 1) (by decide +kernel) (by decide +kernel)) ?_
        refine gm_sz (gm_p_bin (pc := 284) (i := .iadd) (f := fun x y => x + y) (by decide +kernel) rfl) ?_
        refine gm_sz (fw_pi (pc := 285) (ix := 15) (ci := 8) (j := 3) (M' := vm M (q + 1) q w ((M 2 q) % 256) (-1)) (by decide +kernel) (vE214 hE) (by decide +kernel) (by decide +kernel) (by decide +kernel) vm_p) ?_
        obtain ⟨t1, t2, t3⟩ := tx_k3 (f := M 2) (e := e) (b := q) (m := 4) (by omega) (by omega) (by omega)
        unfold vt at hq
        rw [t1, t2, t3] at hq
        exact gm_r_void (pc := 288) (by decide +kernel) (by decide +kernel) hq
  · have j1 : ¬ q < e := j1
    refine gm_sz (gm_p_load (pc := 62) (i := .aload_n 0) (sr := 2) (j := 0) (by decide +kernel) rfl rfl rfl) ?_
    refine gm_sz (gm_p_const (pc := 63) (i := .sipush 256) (v := gm_vi 256) (by decide +kernel) (by decide +kernel)) ?_
    refine gm_sz (fw_pi (pc := 66) (ix := 24) (ci := 8) (j := 6) (M' := vm M q q w 256 (-1)) (by decide +kernel) (vE214 hE) (by decide +kernel) (by decide +kernel) (by decide +kernel) vm_k) ?_
    refine gm_sz (gm_p_goto (pc := 69) (off := 219) (by decide +kernel) (by decide)) ?_
    obtain ⟨t1, t2, t3⟩ := tx_k0 (f := M 2) (e := e) (b := q) (m := 4) (by omega)
    unfold vt at hq
    rw [t1, t2, t3] at hq
    exact gm_r_void (pc := 288) (by decide +kernel) (by decide +kernel) hq

theorem vx_c76 (hd : 1 ≤ d) (hE : vE n K R M e) (hb : 0 ≤ b ∧ b ≤ e) (hq : Q (.inl none) n K R (vt M e (tx_n (M 2) e b) w)) : gm_Wp X LX d bc bs 76 0 (gm_ent 76 [gm_vr 214]) [] n K R (vt M e b w) Q := by
  obtain ⟨h1, h2, -⟩ := tx_sb (f := M 2) hb.2
  exact vx_nx hd hE ⟨by omega, h2⟩ hq

theorem vx_c93 (hE : vE n K R M e) (hb : 0 ≤ b ∧ b ≤ e) (hq : Q (.inl (some (gm_vi 0))) n K R (vt M e b b)) : gm_Wp X LX d bc bs 93 0 (gm_ent 93 [gm_vr 214]) [] n K R (vt M e b (-1)) Q := by
  refine gm_sz (gm_p_load (pc := 0) (i := .aload_n 0) (sr := 2) (j := 0) (by decide +kernel) rfl rfl rfl) ?_
  refine gm_sz (fw_gi (pc := 1) (ix := 21) (ci := 8) (j := 5) (x := (-1)) (by decide +kernel) (vE214 hE) (by decide +kernel) (by decide +kernel) rfl) ?_
  refine gm_sz (gm_p_const (pc := 4) (i := .iconst (-1)) (v := gm_vi (-1)) (by decide +kernel) (by decide +kernel)) ?_
  refine fw_icfd (cc := .ne) (pc := 5) (off := 11) (by decide +kernel) (by decide) ⟨by decide, by decide⟩ ⟨by decide, by decide⟩ (by decide) ?_
  refine gm_sz (gm_p_load (pc := 8) (i := .aload_n 0) (sr := 2) (j := 0) (by decide +kernel) rfl rfl rfl) ?_
  refine gm_sz (gm_p_load (pc := 9) (i := .aload_n 0) (sr := 2) (j := 0) (by decide +kernel) rfl rfl rfl) ?_
  refine gm_sz (fw_gi (pc := 10) (ix := 18) (ci := 8) (j := 4) (x := b) (by decide +kernel) (vE214 hE) (by decide +kernel) (by decide +kernel) rfl) ?_
  refine gm_sz (fw_pi (pc := 13) (ix := 21) (ci := 8) (j := 5) (M' := vt M e b b) (by decide +kernel) (vE214 hE) (by decide +kernel) (by decide +kernel) (by decide +kernel) vt_w) ?_
  refine gm_sz (gm_p_const (pc := 16) (i := .iconst 0) (v := gm_vi 0) (by decide +kernel) (by decide +kernel)) ?_
  exact gm_r_int (pc := 17) (by decide +kernel) (Or.inr ⟨(by decide +kernel), Or.inl rfl⟩) hq

theorem vx_c121 (hE : vE n K R M e) (hq : Q (.inl (some (gm_vi w))) n K R (vt M e b w)) : gm_Wp X LX d bc bs 121 0 (gm_ent 121 [gm_vr 214]) [] n K R (vt M e b w) Q := by
  refine gm_sz (gm_p_load (pc := 0) (i := .aload_n 0) (sr := 2) (j := 0) (by decide +kernel) rfl rfl rfl) ?_
  refine gm_sz (fw_gi (pc := 1) (ix := 21) (ci := 8) (j := 5) (x := w) (by decide +kernel) (vE214 hE) (by decide +kernel) (by decide +kernel) rfl) ?_
  exact gm_r_int (pc := 4) (by decide +kernel) (Or.inl (by decide +kernel)) hq
variable {c : Nat} {l : List Int}

variable {c : Nat} {l : List Int}
theorem vx_w8 (hd : 5 ≤ d) (hE : vE n K R M e) (hc : c < 75) (hl : tx_o c = l) (hb : 0 ≤ b ∧ b ≤ e) (hk : tx_k (M 2) e b = 257) (hs : tx_s (M 2) e b - b = (l.length : Int)) (h1 : tx_is (M 2) e b l → Q (.inl (some (gm_vi 1))) n K R (vt M e b w)) (h0 : ¬ tx_is (M 2) e b l → Q (.inl (some (gm_vi 0))) n K R (vt M e b w)) : ∀ i, 0 ≤ i → i ≤ (l.length : Int) → (∀ j : Nat, (j : Int) < i → M 2 (b + j) = l.getD j 0) → gm_Wp X LX d bc bs 81 30 [some (gm_vr 214), some (gm_vo c), some (gm_vi i)] [] n K R (vt M e b w) Q := by
  obtain ⟨-, he0, he4⟩ := vEe hE
  obtain ⟨s1, s2, -⟩ := tx_sb (f := M 2) hb.2
  have hsl := (tx_ol hl).1
  have hid : c < gm_sl.length := by rw [gm_sl75]; exact hc
  have hs9 := (gm_chk_s hid).1.2
  have hkb := tx_kc (f := M 2) (e := e) (b := b) (fun h => vEb hE hb.1 (by omega))
  refine fw_ind (fun i hi0 hil ih hall => ?_)
  refine gm_sz (gm_p_load (pc := 30) (i := .iload_n 2) (sr := 0) (j := 2) (by decide +kernel) rfl rfl rfl) ?_
  refine gm_sz (gm_p_load (pc := 31) (i := .aload_n 1) (sr := 2) (j := 1) (by decide +kernel) rfl rfl rfl) ?_
  refine gm_c_vstr (id := c) (mj := 82) (ix := 53) (pc := 32) (as := []) (st := [gm_vi i]) (d' := d - 1) (bc' := 0) (bs' := 0) (by decide +kernel) (by decide +kernel) (by decide +kernel) (by decide +kernel) hid (by decide +kernel) (show 0 = gm_na 82 by decide +kernel) fw_c0 (show 1 ≤ gm_ml 82 by decide +kernel) (Nat.le_of_ble_eq_true rfl) (by omega) (Nat.zero_le _) (Nat.zero_le _) ?_
  refine gm_w82 (by omega) hid ?_
  show gm_Wp X LX d _ _ 81 35 _ [gm_vi (gm_slen c : Int), gm_vi i] n K R _ Q
  refine fw_ic (cc := .ge) (pc := 35) (off := 44) (by decide +kernel) (by decide) ⟨by omega, by omega⟩ ⟨by omega, by omega⟩ (fun j1 => ?_) (fun j1 => ?_)
  · have j1 : (gm_slen c : Int) ≤ i := j1
    refine gm_sz (gm_p_const (pc := 79) (i := .iconst 1) (v := gm_vi 1) (by decide +kernel) (by decide +kernel)) ?_
    exact gm_r_int (pc := 80) (by decide +kernel) (Or.inr ⟨(by decide +kernel), Or.inr rfl⟩) (h1 ⟨hk, hs, fun j hj => hall j (by omega)⟩)
  · have j1 : ¬ (gm_slen c : Int) ≤ i := j1
    refine gm_sz (gm_p_load (pc := 38) (i := .aload_n 0) (sr := 2) (j := 0) (by decide +kernel) rfl rfl rfl) ?_
    refine gm_sz (fw_gi (pc := 39) (ix := 18) (ci := 8) (j := 4) (x := b) (by decide +kernel) (vE214 hE) (by decide +kernel) (by decide +kernel) rfl) ?_
    refine gm_sz (gm_p_load (pc := 42) (i := .iload_n 2) (sr := 0) (j := 2) (by decide +kernel) rfl rfl rfl) ?_
    refine gm_sz (gm_p_bin (pc := 43) (i := .iadd) (f := fun x y => x + y) (by decide +kernel) rfl) ?_
    refine gm_sz (gm_p_load (pc := 44) (i := .aload_n 0) (sr := 2) (j := 0) (by decide +kernel) rfl rfl rfl) ?_
    refine gm_sz (fw_gr (pc := 45) (ix := 30) (ci := 8) (j := 0) (r := 2) (by decide +kernel) (vE214 hE) (by decide +kernel) (by decide +kernel) (show R 214 0 = 2 ∧ M 214 1 = 4 from hE.2.1).1) ?_
    refine gm_sz (fw_al (pc := 48) (k := 2) (len := 400) (by decide +kernel) (vE2 hE).1 (vE2 hE).2 (by decide)) ?_
    refine fw_icf (cc := .ge) (pc := 49) (off := 30) (by decide +kernel) (by decide) ⟨by omega, by omega⟩ ⟨by decide, by decide⟩ (show ¬ 400 ≤ (b + i) by omega) ?_
    refine gm_sz (gm_p_load (pc := 52) (i := .aload_n 0) (sr := 2) (j := 0) (by decide +kernel) rfl rfl rfl) ?_
    refine gm_sz (fw_gr (pc := 53) (ix := 30) (ci := 8) (j := 0) (r := 2) (by decide +kernel) (vE214 hE) (by decide +kernel) (by decide +kernel) (show R 214 0 = 2 ∧ M 214 1 = 4 from hE.2.1).1) ?_
    refine gm_sz (gm_p_load (pc := 56) (i := .aload_n 0) (sr := 2) (j := 0) (by decide +kernel) rfl rfl rfl) ?_
    refine gm_sz (fw_gi (pc := 57) (ix := 18) (ci := 8) (j := 4) (x := b) (by decide +kernel) (vE214 hE) (by decide +kernel) (by decide +kernel) rfl) ?_
    refine gm_sz (gm_p_load (pc := 60) (i := .iload_n 2) (sr := 0) (j := 2) (by decide +kernel) rfl rfl rfl) ?_
    refine gm_sz (gm_p_bin (pc := 61) (i := .iadd) (f := fun x y => x + y) (by decide +kernel) rfl) ?_
    refine gm_sz (fw_ba (pc := 62) (k := 2) (len := 400) (e0 := b + i) (x := M 2 (b + i)) (by decide +kernel) (vE2 hE).1 (vE2 hE).2 (by decide) ⟨by omega, by omega⟩ rfl) ?_
    have y2 := vEb hE (j := b + i) (by omega) (by omega)
    refine gm_sz (gm_p_load (pc := 63) (i := .aload_n 1) (sr := 2) (j := 1) (by decide +kernel) rfl rfl rfl) ?_
    refine gm_sz (gm_p_load (pc := 64) (i := .iload_n 2) (sr := 0) (j := 2) (by decide +kernel) rfl rfl rfl) ?_
    refine gm_c_vstr (id := c) (mj := 84) (ix := 58) (pc := 65) (as := [gm_vi i]) (st := [gm_vi (M 2 (b + i))]) (d' := d - 1) (bc' := 0) (bs' := 0) (by decide +kernel) (by decide +kernel) (by decide +kernel) (by decide +kernel) hid (by decide +kernel) (show 1 = gm_na 84 by decide +kernel) (fw_c1 fw_si) (show 2 ≤ gm_ml 84 by decide +kernel) (Nat.le_of_ble_eq_true rfl) (by omega) (Nat.zero_le _) (Nat.zero_le _) ?_
    refine gm_w84 (by omega) hid ⟨by omega, by omega⟩ ?_
    show gm_Wp X LX d _ _ 81 68 _ [gm_vi (gm_chv c i.toNat), gm_vi (M 2 (b + i))] n K R _ Q
    have z3 := ((gm_chk_s hid).2 i.toNat (by omega)).2
    refine fw_ic (cc := .eq) (pc := 68) (off := 5) (by decide +kernel) (by decide) ⟨by omega, by omega⟩ ⟨by omega, by omega⟩ (fun j4 => ?_) (fun j4 => ?_)
    · have j4 : (M 2 (b + i)) = (gm_chv c i.toNat) := j4
      refine gm_sz (gm_p_iinc (pc := 73) (j := 2) (z := 1) (by decide +kernel) rfl) ?_
      refine gm_sz (gm_p_goto (pc := 76) (off := (-46)) (by decide +kernel) (by decide)) ?_
      refine ih (by omega) (fun j hj => ?_)
      by_cases hji : (j : Int) = i
      · rw [hji, j4, (tx_ol hl).2 i.toNat (by omega), show i.toNat = j by omega]
      · exact hall j (by omega)
    · have j4 : ¬ (M 2 (b + i)) = (gm_chv c i.toNat) := j4
      refine gm_sz (gm_p_const (pc := 71) (i := .iconst 0) (v := gm_vi 0) (by decide +kernel) (by decide +kernel)) ?_
      refine gm_r_int (pc := 72) (by decide +kernel) (Or.inr ⟨(by decide +kernel), Or.inl rfl⟩) (h0 fun hh => ?_)
      have e1 := hh.2.2 i.toNat (by omega)
      rw [show ((i.toNat : Nat) : Int) = i by omega, ← (tx_ol hl).2 i.toNat (by omega)] at e1
      exact j4 e1

theorem vx_c81 (hd : 5 ≤ d) (hE : vE n K R M e) (hc : c < 75) (hl : tx_o c = l) (hb : 0 ≤ b ∧ b ≤ e) (h1 : tx_is (M 2) e b l → Q (.inl (some (gm_vi 1))) n K R (vt M e b w)) (h0 : ¬ tx_is (M 2) e b l → Q (.inl (some (gm_vi 0))) n K R (vt M e b w)) : gm_Wp X LX d bc bs 81 0 (gm_ent 81 [gm_vr 214, gm_vo c]) [] n K R (vt M e b w) Q := by
  obtain ⟨-, he0, he4⟩ := vEe hE
  obtain ⟨s1, s2, -⟩ := tx_sb (f := M 2) hb.2
  have hsl := (tx_ol hl).1
  have hid : c < gm_sl.length := by rw [gm_sl75]; exact hc
  have hs9 := (gm_chk_s hid).1.2
  have hkb := tx_kc (f := M 2) (e := e) (b := b) (fun h => vEb hE hb.1 (by omega))
  refine gm_sz (gm_p_load (pc := 0) (i := .aload_n 0) (sr := 2) (j := 0) (by decide +kernel) rfl rfl rfl) ?_
  refine gm_sz (fw_gi (pc := 1) (ix := 24) (ci := 8) (j := 6) (x := tx_k (M 2) e b) (by decide +kernel) (vE214 hE) (by decide +kernel) (by decide +kernel) rfl) ?_
  refine gm_sz (gm_p_const (pc := 4) (i := .sipush 257) (v := gm_vi 257) (by decide +kernel) (by decide +kernel)) ?_
  refine fw_ic (cc := .ne) (pc := 7) (off := 19) (by decide +kernel) (by decide) ⟨by omega, by omega⟩ ⟨by decide, by decide⟩ (fun j1 => ?_) (fun j1 => ?_)
  · have j1 : ¬ (tx_k (M 2) e b) = 257 := j1
    refine gm_sz (gm_p_const (pc := 26) (i := .iconst 0) (v := gm_vi 0) (by decide +kernel) (by decide +kernel)) ?_
    exact gm_r_int (pc := 27) (by decide +kernel) (Or.inr ⟨(by decide +kernel), Or.inl rfl⟩) (h0 fun hh => by have t1 := hh.1; have t2 := hh.2.1; omega)
  · have j1 : (tx_k (M 2) e b) = 257 := Classical.not_not.mp j1
    refine gm_sz (gm_p_load (pc := 10) (i := .aload_n 0) (sr := 2) (j := 0) (by decide +kernel) rfl rfl rfl) ?_
    refine gm_sz (fw_gi (pc := 11) (ix := 15) (ci := 8) (j := 3) (x := tx_s (M 2) e b) (by decide +kernel) (vE214 hE) (by decide +kernel) (by decide +kernel) rfl) ?_
    refine gm_sz (gm_p_load (pc := 14) (i := .aload_n 0) (sr := 2) (j := 0) (by decide +kernel) rfl rfl rfl) ?_
    refine gm_sz (fw_gi (pc := 15) (ix := 18) (ci := 8) (j := 4) (x := b) (by decide +kernel) (vE214 hE) (by decide +kernel) (by decide +kernel) rfl) ?_
    refine gm_sz (gm_p_bin (pc := 18) (i := .isub) (f := fun x y => x - y) (by decide +kernel) rfl) ?_
    refine gm_sz (gm_p_load (pc := 19) (i := .aload_n 1) (sr := 2) (j := 1) (by decide +kernel) rfl rfl rfl) ?_
    refine gm_c_vstr (id := c) (mj := 82) (ix := 53) (pc := 20) (as := []) (st := [gm_vi ((tx_s (M 2) e b) - b)]) (d' := d - 1) (bc' := 0) (bs' := 0) (by decide +kernel) (by decide +kernel) (by decide +kernel) (by decide +kernel) hid (by decide +kernel) (show 0 = gm_na 82 by decide +kernel) fw_c0 (show 1 ≤ gm_ml 82 by decide +kernel) (Nat.le_of_ble_eq_true rfl) (by omega) (Nat.zero_le _) (Nat.zero_le _) ?_
    refine gm_w82 (by omega) hid ?_
    show gm_Wp X LX d _ _ 81 23 _ [gm_vi (gm_slen c : Int), gm_vi ((tx_s (M 2) e b) - b)] n K R _ Q
    refine fw_ic (cc := .eq) (pc := 23) (off := 5) (by decide +kernel) (by decide) ⟨by omega, by omega⟩ ⟨by omega, by omega⟩ (fun j2 => ?_) (fun j2 => ?_)
    · have j2 : ((tx_s (M 2) e b) - b) = (gm_slen c : Int) := j2
      refine gm_sz (gm_p_const (pc := 28) (i := .iconst 0) (v := gm_vi 0) (by decide +kernel) (by decide +kernel)) ?_
      refine gm_sz (gm_p_stor (pc := 29) (i := .istore_n 2) (sr := 0) (j := 2) (by decide +kernel) rfl (show 3 ≤ _ from Nat.le_of_ble_eq_true rfl) rfl) ?_
      exact vx_w8 hd hE hc hl hb (by omega) (by omega) h1 h0 0 (Int.le_refl _) (by omega) (fun j hj => absurd hj (by omega))
    · have j2 : ¬ ((tx_s (M 2) e b) - b) = (gm_slen c : Int) := j2
      refine gm_sz (gm_p_const (pc := 26) (i := .iconst 0) (v := gm_vi 0) (by decide +kernel) (by decide +kernel)) ?_
      exact gm_r_int (pc := 27) (by decide +kernel) (Or.inr ⟨(by decide +kernel), Or.inl rfl⟩) (h0 fun hh => by have t1 := hh.1; have t2 := hh.2.1; omega)

theorem vx_c95 (hd : 6 ≤ d) (hE : vE n K R M e) (hc : c < 75) (hl : tx_o c = l) (hb : 0 ≤ b ∧ b ≤ e) (h1 : tx_is (M 2) e b l → Q (.inl (some (gm_vi 1))) n K R (vt M e (tx_n (M 2) e b) w)) (h0 : ¬ tx_is (M 2) e b l → Q (.inl (some (gm_vi 0))) n K R (vt M e b w)) : gm_Wp X LX d bc bs 95 0 (gm_ent 95 [gm_vr 214, gm_vo c]) [] n K R (vt M e b w) Q := by
  obtain ⟨-, he0, he4⟩ := vEe hE
  refine gm_sz (gm_p_load (pc := 0) (i := .aload_n 0) (sr := 2) (j := 0) (by decide +kernel) rfl rfl rfl) ?_
  refine gm_sz (gm_p_load (pc := 1) (i := .aload_n 1) (sr := 2) (j := 1) (by decide +kernel) rfl rfl rfl) ?_
  refine gm_c_virt (k := 214) (ci := 8) (mj := 81) (ix := 62) (pc := 2) (as := [gm_vo c]) (st := []) (d' := d - 1) (bc' := 0) (bs' := 0) (by decide +kernel) (by decide +kernel) (by decide +kernel) (by decide +kernel) (vE214 hE).1 (vE214 hE).2 (by decide) (by decide +kernel) (show 1 = gm_na 81 by decide +kernel) (fw_c1 fw_so) (show 2 ≤ gm_ml 81 by decide +kernel) (Nat.le_of_ble_eq_true rfl) (by omega) (Nat.zero_le _) (Nat.zero_le _) ?_
  refine vx_c81 (by omega) hE hc hl hb (fun j1 => ?_) (fun j1 => ?_)
  · show gm_Wp X LX d _ _ 95 5 _ [gm_vi 1] n K R _ Q
    have j1 : tx_is (M 2) e b l := j1
    refine gm_sz (gm_p_stor (pc := 5) (i := .istore_n 2) (sr := 0) (j := 2) (by decide +kernel) rfl (show 3 ≤ _ from Nat.le_of_ble_eq_true rfl) rfl) ?_
    refine gm_sz (gm_p_load (pc := 6) (i := .iload_n 2) (sr := 0) (j := 2) (by decide +kernel) rfl rfl rfl) ?_
    refine fw_iffd (cc := .eq) (pc := 7) (off := 7) (by decide +kernel) (by decide) ⟨by decide, by decide⟩ (by decide) ?_
    refine gm_sz (gm_p_load (pc := 10) (i := .aload_n 0) (sr := 2) (j := 0) (by decide +kernel) rfl rfl rfl) ?_
    refine gm_c_virt (k := 214) (ci := 8) (mj := 76) (ix := 43) (pc := 11) (as := []) (st := []) (d' := d - 1) (bc' := 0) (bs' := 0) (by decide +kernel) (by decide +kernel) (by decide +kernel) (by decide +kernel) (vE214 hE).1 (vE214 hE).2 (by decide) (by decide +kernel) (show 0 = gm_na 76 by decide +kernel) fw_c0 (show 1 ≤ gm_ml 76 by decide +kernel) (Nat.le_of_ble_eq_true rfl) (by omega) (Nat.zero_le _) (Nat.zero_le _) ?_
    refine vx_c76 (by omega) hE hb ?_
    show gm_Wp X LX d _ _ 95 14 _ [] n K R _ Q
    have g2 : 0 ≤ tx_n (M 2) e b ∧ tx_n (M 2) e b ≤ e := by have := tx_nb (f := M 2) (b := b) hb.2; omega
    refine gm_sz (gm_p_load (pc := 14) (i := .iload_n 2) (sr := 0) (j := 2) (by decide +kernel) rfl rfl rfl) ?_
    exact gm_r_int (pc := 15) (by decide +kernel) (Or.inr ⟨(by decide +kernel), Or.inr rfl⟩) (h1 j1)
  · show gm_Wp X LX d _ _ 95 5 _ [gm_vi 0] n K R _ Q
    have j1 : ¬ tx_is (M 2) e b l := j1
    refine gm_sz (gm_p_stor (pc := 5) (i := .istore_n 2) (sr := 0) (j := 2) (by decide +kernel) rfl (show 3 ≤ _ from Nat.le_of_ble_eq_true rfl) rfl) ?_
    refine gm_sz (gm_p_load (pc := 6) (i := .iload_n 2) (sr := 0) (j := 2) (by decide +kernel) rfl rfl rfl) ?_
    refine fw_iftd (cc := .eq) (pc := 7) (off := 7) (by decide +kernel) (by decide) ⟨by decide, by decide⟩ (by decide) ?_
    refine gm_sz (gm_p_load (pc := 14) (i := .iload_n 2) (sr := 0) (j := 2) (by decide +kernel) rfl rfl rfl) ?_
    exact gm_r_int (pc := 15) (by decide +kernel) (Or.inr ⟨(by decide +kernel), Or.inl rfl⟩) (h0 j1)

theorem vx_c98 (hd : 2 ≤ d) (hE : vE n K R M e) (hx : gm_ir x) (hb : 0 ≤ b ∧ b ≤ e) (h1 : tx_k (M 2) e b = x → Q (.inl (some (gm_vi 1))) n K R (vt M e (tx_n (M 2) e b) (-1))) (h0 : ¬ tx_k (M 2) e b = x → Q (.inl (some (gm_vi 0))) n K R (vt M e b b)) : gm_Wp X LX d bc bs 98 0 (gm_ent 98 [gm_vr 214, gm_vi x]) [] n K R (vt M e b (-1)) Q := by
  obtain ⟨-, he0, he4⟩ := vEe hE
  obtain ⟨hx1, hx2⟩ := hx
  have hkb := tx_kc (f := M 2) (e := e) (b := b) (fun h => vEb hE hb.1 (by omega))
  have hvb := tx_vb (f := M 2) (e := e) (m := 4) (b := b) (by decide)
  refine gm_sz (gm_p_load (pc := 0) (i := .aload_n 0) (sr := 2) (j := 0) (by decide +kernel) rfl rfl rfl) ?_
  refine gm_sz (fw_gi (pc := 1) (ix := 24) (ci := 8) (j := 6) (x := tx_k (M 2) e b) (by decide +kernel) (vE214 hE) (by decide +kernel) (by decide +kernel) rfl) ?_
  refine gm_sz (gm_p_load (pc := 4) (i := .iload_n 1) (sr := 0) (j := 1) (by decide +kernel) rfl rfl rfl) ?_
  refine fw_ic (cc := .eq) (pc := 5) (off := 8) (by decide +kernel) (by decide) ⟨by omega, by omega⟩ ⟨by omega, by omega⟩ (fun j1 => ?_) (fun j1 => ?_)
  · have j1 : (tx_k (M 2) e b) = x := j1
    refine gm_sz (gm_p_load (pc := 13) (i := .aload_n 0) (sr := 2) (j := 0) (by decide +kernel) rfl rfl rfl) ?_
    refine gm_c_virt (k := 214) (ci := 8) (mj := 76) (ix := 43) (pc := 14) (as := []) (st := []) (d' := d - 1) (bc' := 0) (bs' := 0) (by decide +kernel) (by decide +kernel) (by decide +kernel) (by decide +kernel) (vE214 hE).1 (vE214 hE).2 (by decide) (by decide +kernel) (show 0 = gm_na 76 by decide +kernel) fw_c0 (show 1 ≤ gm_ml 76 by decide +kernel) (Nat.le_of_ble_eq_true rfl) (by omega) (Nat.zero_le _) (Nat.zero_le _) ?_
    refine vx_c76 (by omega) hE hb ?_
    show gm_Wp X LX d _ _ 98 17 _ [] n K R _ Q
    have g2 : 0 ≤ tx_n (M 2) e b ∧ tx_n (M 2) e b ≤ e := by have := tx_nb (f := M 2) (b := b) hb.2; omega
    refine gm_sz (gm_p_const (pc := 17) (i := .iconst 1) (v := gm_vi 1) (by decide +kernel) (by decide +kernel)) ?_
    exact gm_r_int (pc := 18) (by decide +kernel) (Or.inr ⟨(by decide +kernel), Or.inr rfl⟩) (h1 j1)
  · have j1 : ¬ (tx_k (M 2) e b) = x := j1
    refine gm_sz (gm_p_load (pc := 8) (i := .aload_n 0) (sr := 2) (j := 0) (by decide +kernel) rfl rfl rfl) ?_
    refine gm_c_virt (k := 214) (ci := 8) (mj := 93) (ix := 69) (pc := 9) (as := []) (st := []) (d' := d - 1) (bc' := 0) (bs' := 0) (by decide +kernel) (by decide +kernel) (by decide +kernel) (by decide +kernel) (vE214 hE).1 (vE214 hE).2 (by decide) (by decide +kernel) (show 0 = gm_na 93 by decide +kernel) fw_c0 (show 1 ≤ gm_ml 93 by decide +kernel) (Nat.le_of_ble_eq_true rfl) (by omega) (Nat.zero_le _) (Nat.zero_le _) ?_
    refine vx_c93 hE hb ?_
    show gm_Wp X LX d _ _ 98 12 _ [gm_vi 0] n K R _ Q
    exact gm_r_int (pc := 12) (by decide +kernel) (Or.inr ⟨(by decide +kernel), Or.inl rfl⟩) (h0 j1)

theorem vx_c94 {lo hi : Int} (hd : 2 ≤ d) (hE : vE n K R M e) (hlo : gm_ir lo) (hhi : gm_ir hi) (hb : 0 ≤ b ∧ b ≤ e) (h1 : tx_k (M 2) e b = 258 → lo ≤ tx_v (M 2) e 4 b → tx_v (M 2) e 4 b ≤ hi → Q (.inl (some (gm_vi (tx_v (M 2) e 4 b)))) n K R (vt M e (tx_n (M 2) e b) (-1))) (h0 : ¬ (tx_k (M 2) e b = 258 ∧ lo ≤ tx_v (M 2) e 4 b ∧ tx_v (M 2) e 4 b ≤ hi) → Q (.inl (some (gm_vi (-1)))) n K R (vt M e b b)) : gm_Wp X LX d bc bs 94 0 (gm_ent 94 [gm_vr 214, gm_vi lo, gm_vi hi]) [] n K R (vt M e b (-1)) Q := by
  obtain ⟨-, he0, he4⟩ := vEe hE
  obtain ⟨hlo1, hlo2⟩ := hlo
  obtain ⟨hhi1, hhi2⟩ := hhi
  have hkb := tx_kc (f := M 2) (e := e) (b := b) (fun h => vEb hE hb.1 (by omega))
  have hvb := tx_vb (f := M 2) (e := e) (m := 4) (b := b) (by decide)
  refine gm_sz (gm_p_load (pc := 0) (i := .aload_n 0) (sr := 2) (j := 0) (by decide +kernel) rfl rfl rfl) ?_
  refine gm_sz (fw_gi (pc := 1) (ix := 27) (ci := 8) (j := 7) (x := tx_v (M 2) e 4 b) (by decide +kernel) (vE214 hE) (by decide +kernel) (by decide +kernel) rfl) ?_
  refine gm_sz (gm_p_stor (pc := 4) (i := .istore_n 3) (sr := 0) (j := 3) (by decide +kernel) rfl (show 4 ≤ _ from Nat.le_of_ble_eq_true rfl) rfl) ?_
  refine gm_sz (gm_p_load (pc := 5) (i := .aload_n 0) (sr := 2) (j := 0) (by decide +kernel) rfl rfl rfl) ?_
  refine gm_sz (fw_gi (pc := 6) (ix := 24) (ci := 8) (j := 6) (x := tx_k (M 2) e b) (by decide +kernel) (vE214 hE) (by decide +kernel) (by decide +kernel) rfl) ?_
  refine gm_sz (gm_p_const (pc := 9) (i := .sipush 258) (v := gm_vi 258) (by decide +kernel) (by decide +kernel)) ?_
  refine fw_ic (cc := .ne) (pc := 12) (off := 13) (by decide +kernel) (by decide) ⟨by omega, by omega⟩ ⟨by decide, by decide⟩ (fun j1 => ?_) (fun j1 => ?_)
  · have j1 : ¬ (tx_k (M 2) e b) = 258 := j1
    refine gm_sz (gm_p_load (pc := 25) (i := .aload_n 0) (sr := 2) (j := 0) (by decide +kernel) rfl rfl rfl) ?_
    refine gm_c_virt (k := 214) (ci := 8) (mj := 93) (ix := 69) (pc := 26) (as := []) (st := []) (d' := d - 1) (bc' := 0) (bs' := 0) (by decide +kernel) (by decide +kernel) (by decide +kernel) (by decide +kernel) (vE214 hE).1 (vE214 hE).2 (by decide) (by decide +kernel) (show 0 = gm_na 93 by decide +kernel) fw_c0 (show 1 ≤ gm_ml 93 by decide +kernel) (Nat.le_of_ble_eq_true rfl) (by omega) (Nat.zero_le _) (Nat.zero_le _) ?_
    refine vx_c93 hE hb ?_
    show gm_Wp X LX d _ _ 94 29 _ [gm_vi 0] n K R _ Q
    refine gm_sz (gm_p_pop (pc := 29) (by decide +kernel) fw_si) ?_
    refine gm_sz (gm_p_const (pc := 30) (i := .iconst (-1)) (v := gm_vi (-1)) (by decide +kernel) (by decide +kernel)) ?_
    exact gm_r_int (pc := 31) (by decide +kernel) (Or.inl (by decide +kernel)) (h0 (by omega))
  · have j1 : (tx_k (M 2) e b) = 258 := Classical.not_not.mp j1
    refine gm_sz (gm_p_load (pc := 15) (i := .iload_n 3) (sr := 0) (j := 3) (by decide +kernel) rfl rfl rfl) ?_
    refine gm_sz (gm_p_load (pc := 16) (i := .iload_n 1) (sr := 0) (j := 1) (by decide +kernel) rfl rfl rfl) ?_
    refine fw_ic (cc := .lt) (pc := 17) (off := 8) (by decide +kernel) (by decide) ⟨by omega, by omega⟩ ⟨by omega, by omega⟩ (fun j2 => ?_) (fun j2 => ?_)
    · have j2 : (tx_v (M 2) e 4 b) < lo := j2
      refine gm_sz (gm_p_load (pc := 25) (i := .aload_n 0) (sr := 2) (j := 0) (by decide +kernel) rfl rfl rfl) ?_
      refine gm_c_virt (k := 214) (ci := 8) (mj := 93) (ix := 69) (pc := 26) (as := []) (st := []) (d' := d - 1) (bc' := 0) (bs' := 0) (by decide +kernel) (by decide +kernel) (by decide +kernel) (by decide +kernel) (vE214 hE).1 (vE214 hE).2 (by decide) (by decide +kernel) (show 0 = gm_na 93 by decide +kernel) fw_c0 (show 1 ≤ gm_ml 93 by decide +kernel) (Nat.le_of_ble_eq_true rfl) (by omega) (Nat.zero_le _) (Nat.zero_le _) ?_
      refine vx_c93 hE hb ?_
      show gm_Wp X LX d _ _ 94 29 _ [gm_vi 0] n K R _ Q
      refine gm_sz (gm_p_pop (pc := 29) (by decide +kernel) fw_si) ?_
      refine gm_sz (gm_p_const (pc := 30) (i := .iconst (-1)) (v := gm_vi (-1)) (by decide +kernel) (by decide +kernel)) ?_
      exact gm_r_int (pc := 31) (by decide +kernel) (Or.inl (by decide +kernel)) (h0 (by omega))
    · have j2 : ¬ (tx_v (M 2) e 4 b) < lo := j2
      refine gm_sz (gm_p_load (pc := 20) (i := .iload_n 3) (sr := 0) (j := 3) (by decide +kernel) rfl rfl rfl) ?_
      refine gm_sz (gm_p_load (pc := 21) (i := .iload_n 2) (sr := 0) (j := 2) (by decide +kernel) rfl rfl rfl) ?_
      refine fw_ic (cc := .le) (pc := 22) (off := 10) (by decide +kernel) (by decide) ⟨by omega, by omega⟩ ⟨by omega, by omega⟩ (fun j3 => ?_) (fun j3 => ?_)
      · have j3 : (tx_v (M 2) e 4 b) ≤ hi := j3
        refine gm_sz (gm_p_load (pc := 32) (i := .aload_n 0) (sr := 2) (j := 0) (by decide +kernel) rfl rfl rfl) ?_
        refine gm_c_virt (k := 214) (ci := 8) (mj := 76) (ix := 43) (pc := 33) (as := []) (st := []) (d' := d - 1) (bc' := 0) (bs' := 0) (by decide +kernel) (by decide +kernel) (by decide +kernel) (by decide +kernel) (vE214 hE).1 (vE214 hE).2 (by decide) (by decide +kernel) (show 0 = gm_na 76 by decide +kernel) fw_c0 (show 1 ≤ gm_ml 76 by decide +kernel) (Nat.le_of_ble_eq_true rfl) (by omega) (Nat.zero_le _) (Nat.zero_le _) ?_
        refine vx_c76 (by omega) hE hb ?_
        show gm_Wp X LX d _ _ 94 36 _ [] n K R _ Q
        have g4 : 0 ≤ tx_n (M 2) e b ∧ tx_n (M 2) e b ≤ e := by have := tx_nb (f := M 2) (b := b) hb.2; omega
        refine gm_sz (gm_p_load (pc := 36) (i := .iload_n 3) (sr := 0) (j := 3) (by decide +kernel) rfl rfl rfl) ?_
        exact gm_r_int (pc := 37) (by decide +kernel) (Or.inl (by decide +kernel)) (h1 (by omega) (by omega) (by omega))
      · have j3 : ¬ (tx_v (M 2) e 4 b) ≤ hi := j3
        refine gm_sz (gm_p_load (pc := 25) (i := .aload_n 0) (sr := 2) (j := 0) (by decide +kernel) rfl rfl rfl) ?_
        refine gm_c_virt (k := 214) (ci := 8) (mj := 93) (ix := 69) (pc := 26) (as := []) (st := []) (d' := d - 1) (bc' := 0) (bs' := 0) (by decide +kernel) (by decide +kernel) (by decide +kernel) (by decide +kernel) (vE214 hE).1 (vE214 hE).2 (by decide) (by decide +kernel) (show 0 = gm_na 93 by decide +kernel) fw_c0 (show 1 ≤ gm_ml 93 by decide +kernel) (Nat.le_of_ble_eq_true rfl) (by omega) (Nat.zero_le _) (Nat.zero_le _) ?_
        refine vx_c93 hE hb ?_
        show gm_Wp X LX d _ _ 94 29 _ [gm_vi 0] n K R _ Q
        refine gm_sz (gm_p_pop (pc := 29) (by decide +kernel) fw_si) ?_
        refine gm_sz (gm_p_const (pc := 30) (i := .iconst (-1)) (v := gm_vi (-1)) (by decide +kernel) (by decide +kernel)) ?_
        exact gm_r_int (pc := 31) (by decide +kernel) (Or.inl (by decide +kernel)) (h0 (by omega))

end VW
end
