/-! 7a05.r1wy -/
section
/-! THE REFERENCE'S WORLD AND WAYS (laid by wip/core/r1.py). -/
/-- what the reference is told, and the heats that it has made of it -/
noncomputable def TR (N h : Int → Int) (M : gm_M) : Prop := ws (M 227) = N ∧ ∀ y, 0 ≤ y → y < 300 → M 234 y = h y ∧ (0 ≤ h y ∧ h y ≤ 9)
section TRR
variable {N h : Int → Int} {M M2 : gm_M} {W : List (Nat × Option Int)}
theorem tr_w (hT : TR N h M) {j : Int} (h0 : 0 ≤ j) (h1 : j < 395) (h8 : ¬ j = 8) : M 227 j = N j := by
  rw [← hT.1]
  unfold ws
  rw [if_pos ⟨h0, h1, h8⟩]
theorem tr_x (hT : TR N h M) {j k : Int} (e : j = k) (h0 : 0 ≤ k) (h1 : k < 395) (h8 : ¬ k = 8) : M 227 j = N k := by
  rw [e]
  exact tr_w hT h0 h1 h8
theorem tr_fr (hT : TR N h M) (h9 : fr W M M2) (hw : W.all (fun w => !(w.1 == 227) && !(w.1 == 234)) = true) : TR N h M2 := by
  have e : ∀ k j, (k = 227 ∨ k = 234) → M2 k j = M k j := fun k j hk => h9 k j (fun hm => by have := List.all_eq_true.mp hw _ hm; simp at this; omega) (fun hm => by have := List.all_eq_true.mp hw _ hm; simp at this; omega)
  refine ⟨?_, fun y y1 y2 => ?_⟩
  · rw [show M2 227 = M 227 from funext fun j => e 227 j (Or.inl rfl)]
    exact hT.1
  · rw [e 234 y (Or.inr rfl)]
    exact hT.2 y y1 y2
end TRR
section RW1
variable {X : Int → Int} {LX d bc bs n : Nat} {K : gm_K} {R : gm_R} {M : gm_M} {Q : gm_Q} {lane row year l p c y x wo r0 rk : Int} {N h : Int → Int}
theorem re_of (hE : E0 n K R) (hT : TR N h M) (hN : NR N) (h1 : 0 ≤ p ∧ p < 8) (h2 : 0 ≤ c ∧ c < 3) (q0 : Q (.inl (some (gm_vi (N (95 + (p * 3 + c)))))) n K R (M)) : gm_Wp X LX d bc bs 299 0 (gm_ent 299 [gm_vr 226, gm_vi p, gm_vi c]) [] n K R M Q := by
  obtain ⟨⟨⟨a0, b0⟩, ⟨a1, b1⟩, ⟨a10, b10⟩, ⟨a11, b11⟩, ⟨a12, b12⟩, a9, b9⟩, ⟨⟨a2, b2⟩, ⟨a5, b5⟩, ⟨a3, b3⟩, ⟨a4, b4⟩, ⟨a6, b6⟩, ⟨a14, b14⟩, ⟨a7, b7⟩, a13, b13⟩, rF, rP, rL⟩ := id hN
  refine gm_sz (gm_p_load (pc := 0) (i := .aload_n 0) (sr := 2) (j := 0) (by decide +kernel) rfl rfl rfl) ?_
  refine gm_sz (fw_gr (pc := 1) (ix := 13) (ci := 11) (j := 1) (r := 227) (by decide +kernel) (e0k hE (k := 226) (c := 11) (by decide +kernel)) (by decide +kernel) (by decide +kernel) (e0r hE (k := 226) (j := 1) (r := 227) (by decide +kernel))) ?_
  refine gm_sz (gm_p_const (pc := 4) (i := .bipush 95) (v := gm_vi 95) (by decide +kernel) (by decide +kernel)) ?_
  refine gm_sz (gm_p_const (pc := 6) (i := .iconst 3) (v := gm_vi 3) (by decide +kernel) (by decide +kernel)) ?_
  refine gm_sz (gm_p_load (pc := 7) (i := .iload_n 1) (sr := 0) (j := 1) (by decide +kernel) rfl rfl rfl) ?_
  refine gm_sz (gm_p_bin (pc := 8) (i := .imul) (f := fun x y => x * y) (by decide +kernel) rfl) ?_
  refine gm_sz (gm_p_bin (pc := 9) (i := .iadd) (f := fun x y => x + y) (by decide +kernel) rfl) ?_
  refine gm_sz (gm_p_load (pc := 10) (i := .iload_n 2) (sr := 0) (j := 2) (by decide +kernel) rfl rfl rfl) ?_
  refine gm_sz (gm_p_bin (pc := 11) (i := .iadd) (f := fun x y => x + y) (by decide +kernel) rfl) ?_
  refine gm_sz (fw_ia (pc := 12) (k := 227) (len := 2093) (e0 := (95 + (3 * p)) + c) (x := N (95 + (p * 3 + c))) (by decide +kernel) (e0a hE (k := 227) (q := (0, 2093)) (by decide +kernel)).1 (e0a hE (k := 227) (q := (0, 2093)) (by decide +kernel)).2 (by decide) ⟨by omega, by omega⟩ (tr_x hT (show (95 + (3 * p)) + c = (95 + (p * 3 + c)) by omega) (by omega) (by omega) (by omega))) ?_
  exact gm_r_int (pc := 13) (by decide +kernel) (Or.inl (by decide +kernel)) q0
theorem re_ol (hE : E0 n K R) (hT : TR N h M) (hN : NR N) (h1 : 0 ≤ l ∧ l < 24) (h2 : 0 ≤ c ∧ c < 7) (q0 : Q (.inl (some (gm_vi (N (119 + (l * 7 + c)))))) n K R (M)) : gm_Wp X LX d bc bs 301 0 (gm_ent 301 [gm_vr 226, gm_vi l, gm_vi c]) [] n K R M Q := by
  obtain ⟨⟨⟨a0, b0⟩, ⟨a1, b1⟩, ⟨a10, b10⟩, ⟨a11, b11⟩, ⟨a12, b12⟩, a9, b9⟩, ⟨⟨a2, b2⟩, ⟨a5, b5⟩, ⟨a3, b3⟩, ⟨a4, b4⟩, ⟨a6, b6⟩, ⟨a14, b14⟩, ⟨a7, b7⟩, a13, b13⟩, rF, rP, rL⟩ := id hN
  refine gm_sz (gm_p_load (pc := 0) (i := .aload_n 0) (sr := 2) (j := 0) (by decide +kernel) rfl rfl rfl) ?_
  refine gm_sz (fw_gr (pc := 1) (ix := 13) (ci := 11) (j := 1) (r := 227) (by decide +kernel) (e0k hE (k := 226) (c := 11) (by decide +kernel)) (by decide +kernel) (by decide +kernel) (e0r hE (k := 226) (j := 1) (r := 227) (by decide +kernel))) ?_
  refine gm_sz (gm_p_const (pc := 4) (i := .bipush 119) (v := gm_vi 119) (by decide +kernel) (by decide +kernel)) ?_
  refine gm_sz (gm_p_const (pc := 6) (i := .bipush 7) (v := gm_vi 7) (by decide +kernel) (by decide +kernel)) ?_
  refine gm_sz (gm_p_load (pc := 8) (i := .iload_n 1) (sr := 0) (j := 1) (by decide +kernel) rfl rfl rfl) ?_
  refine gm_sz (gm_p_bin (pc := 9) (i := .imul) (f := fun x y => x * y) (by decide +kernel) rfl) ?_
  refine gm_sz (gm_p_bin (pc := 10) (i := .iadd) (f := fun x y => x + y) (by decide +kernel) rfl) ?_
  refine gm_sz (gm_p_load (pc := 11) (i := .iload_n 2) (sr := 0) (j := 2) (by decide +kernel) rfl rfl rfl) ?_
  refine gm_sz (gm_p_bin (pc := 12) (i := .iadd) (f := fun x y => x + y) (by decide +kernel) rfl) ?_
  refine gm_sz (fw_ia (pc := 13) (k := 227) (len := 2093) (e0 := (119 + (7 * l)) + c) (x := N (119 + (l * 7 + c))) (by decide +kernel) (e0a hE (k := 227) (q := (0, 2093)) (by decide +kernel)).1 (e0a hE (k := 227) (q := (0, 2093)) (by decide +kernel)).2 (by decide) ⟨by omega, by omega⟩ (tr_x hT (show (119 + (7 * l)) + c = (119 + (l * 7 + c)) by omega) (by omega) (by omega) (by omega))) ?_
  exact gm_r_int (pc := 14) (by decide +kernel) (Or.inl (by decide +kernel)) q0
theorem re_lan (hE : E0 n K R) (hT : TR N h M) (hN : NR N) (q0 : Q (.inl (some (gm_vi (N 0)))) n K R (M)) : gm_Wp X LX d bc bs 261 0 (gm_ent 261 [gm_vr 226]) [] n K R M Q := by
  obtain ⟨⟨⟨a0, b0⟩, ⟨a1, b1⟩, ⟨a10, b10⟩, ⟨a11, b11⟩, ⟨a12, b12⟩, a9, b9⟩, ⟨⟨a2, b2⟩, ⟨a5, b5⟩, ⟨a3, b3⟩, ⟨a4, b4⟩, ⟨a6, b6⟩, ⟨a14, b14⟩, ⟨a7, b7⟩, a13, b13⟩, rF, rP, rL⟩ := id hN
  refine gm_sz (gm_p_load (pc := 0) (i := .aload_n 0) (sr := 2) (j := 0) (by decide +kernel) rfl rfl rfl) ?_
  refine gm_sz (fw_gr (pc := 1) (ix := 13) (ci := 11) (j := 1) (r := 227) (by decide +kernel) (e0k hE (k := 226) (c := 11) (by decide +kernel)) (by decide +kernel) (by decide +kernel) (e0r hE (k := 226) (j := 1) (r := 227) (by decide +kernel))) ?_
  refine gm_sz (gm_p_const (pc := 4) (i := .iconst 0) (v := gm_vi 0) (by decide +kernel) (by decide +kernel)) ?_
  refine gm_sz (fw_ia (pc := 5) (k := 227) (len := 2093) (e0 := 0) (x := N 0) (by decide +kernel) (e0a hE (k := 227) (q := (0, 2093)) (by decide +kernel)).1 (e0a hE (k := 227) (q := (0, 2093)) (by decide +kernel)).2 (by decide) ⟨by omega, by omega⟩ (tr_w hT (by decide) (by decide) (by decide))) ?_
  exact gm_r_int (pc := 6) (by decide +kernel) (Or.inl (by decide +kernel)) q0
theorem re_lip (hE : E0 n K R) (hT : TR N h M) (hN : NR N) (q0 : Q (.inl (some (gm_vi (N 1)))) n K R (M)) : gm_Wp X LX d bc bs 259 0 (gm_ent 259 [gm_vr 226]) [] n K R M Q := by
  obtain ⟨⟨⟨a0, b0⟩, ⟨a1, b1⟩, ⟨a10, b10⟩, ⟨a11, b11⟩, ⟨a12, b12⟩, a9, b9⟩, ⟨⟨a2, b2⟩, ⟨a5, b5⟩, ⟨a3, b3⟩, ⟨a4, b4⟩, ⟨a6, b6⟩, ⟨a14, b14⟩, ⟨a7, b7⟩, a13, b13⟩, rF, rP, rL⟩ := id hN
  refine gm_sz (gm_p_load (pc := 0) (i := .aload_n 0) (sr := 2) (j := 0) (by decide +kernel) rfl rfl rfl) ?_
  refine gm_sz (fw_gr (pc := 1) (ix := 13) (ci := 11) (j := 1) (r := 227) (by decide +kernel) (e0k hE (k := 226) (c := 11) (by decide +kernel)) (by decide +kernel) (by decide +kernel) (e0r hE (k := 226) (j := 1) (r := 227) (by decide +kernel))) ?_
  refine gm_sz (gm_p_const (pc := 4) (i := .iconst 1) (v := gm_vi 1) (by decide +kernel) (by decide +kernel)) ?_
  refine gm_sz (fw_ia (pc := 5) (k := 227) (len := 2093) (e0 := 1) (x := N 1) (by decide +kernel) (e0a hE (k := 227) (q := (0, 2093)) (by decide +kernel)).1 (e0a hE (k := 227) (q := (0, 2093)) (by decide +kernel)).2 (by decide) ⟨by omega, by omega⟩ (tr_w hT (by decide) (by decide) (by decide))) ?_
  exact gm_r_int (pc := 6) (by decide +kernel) (Or.inl (by decide +kernel)) q0
theorem re_peo (hE : E0 n K R) (hT : TR N h M) (hN : NR N) (q0 : Q (.inl (some (gm_vi (N 3)))) n K R (M)) : gm_Wp X LX d bc bs 253 0 (gm_ent 253 [gm_vr 226]) [] n K R M Q := by
  obtain ⟨⟨⟨a0, b0⟩, ⟨a1, b1⟩, ⟨a10, b10⟩, ⟨a11, b11⟩, ⟨a12, b12⟩, a9, b9⟩, ⟨⟨a2, b2⟩, ⟨a5, b5⟩, ⟨a3, b3⟩, ⟨a4, b4⟩, ⟨a6, b6⟩, ⟨a14, b14⟩, ⟨a7, b7⟩, a13, b13⟩, rF, rP, rL⟩ := id hN
  refine gm_sz (gm_p_load (pc := 0) (i := .aload_n 0) (sr := 2) (j := 0) (by decide +kernel) rfl rfl rfl) ?_
  refine gm_sz (fw_gr (pc := 1) (ix := 13) (ci := 11) (j := 1) (r := 227) (by decide +kernel) (e0k hE (k := 226) (c := 11) (by decide +kernel)) (by decide +kernel) (by decide +kernel) (e0r hE (k := 226) (j := 1) (r := 227) (by decide +kernel))) ?_
  refine gm_sz (gm_p_const (pc := 4) (i := .iconst 3) (v := gm_vi 3) (by decide +kernel) (by decide +kernel)) ?_
  refine gm_sz (fw_ia (pc := 5) (k := 227) (len := 2093) (e0 := 3) (x := N 3) (by decide +kernel) (e0a hE (k := 227) (q := (0, 2093)) (by decide +kernel)).1 (e0a hE (k := 227) (q := (0, 2093)) (by decide +kernel)).2 (by decide) ⟨by omega, by omega⟩ (tr_w hT (by decide) (by decide) (by decide))) ?_
  exact gm_r_int (pc := 6) (by decide +kernel) (Or.inl (by decide +kernel)) q0
theorem re_let (hE : E0 n K R) (hT : TR N h M) (hN : NR N) (q0 : Q (.inl (some (gm_vi (N 4)))) n K R (M)) : gm_Wp X LX d bc bs 254 0 (gm_ent 254 [gm_vr 226]) [] n K R M Q := by
  obtain ⟨⟨⟨a0, b0⟩, ⟨a1, b1⟩, ⟨a10, b10⟩, ⟨a11, b11⟩, ⟨a12, b12⟩, a9, b9⟩, ⟨⟨a2, b2⟩, ⟨a5, b5⟩, ⟨a3, b3⟩, ⟨a4, b4⟩, ⟨a6, b6⟩, ⟨a14, b14⟩, ⟨a7, b7⟩, a13, b13⟩, rF, rP, rL⟩ := id hN
  refine gm_sz (gm_p_load (pc := 0) (i := .aload_n 0) (sr := 2) (j := 0) (by decide +kernel) rfl rfl rfl) ?_
  refine gm_sz (fw_gr (pc := 1) (ix := 13) (ci := 11) (j := 1) (r := 227) (by decide +kernel) (e0k hE (k := 226) (c := 11) (by decide +kernel)) (by decide +kernel) (by decide +kernel) (e0r hE (k := 226) (j := 1) (r := 227) (by decide +kernel))) ?_
  refine gm_sz (gm_p_const (pc := 4) (i := .iconst 4) (v := gm_vi 4) (by decide +kernel) (by decide +kernel)) ?_
  refine gm_sz (fw_ia (pc := 5) (k := 227) (len := 2093) (e0 := 4) (x := N 4) (by decide +kernel) (e0a hE (k := 227) (q := (0, 2093)) (by decide +kernel)).1 (e0a hE (k := 227) (q := (0, 2093)) (by decide +kernel)).2 (by decide) ⟨by omega, by omega⟩ (tr_w hT (by decide) (by decide) (by decide))) ?_
  exact gm_r_int (pc := 6) (by decide +kernel) (Or.inl (by decide +kernel)) q0
theorem re_now (hE : E0 n K R) (hT : TR N h M) (hN : NR N) (q0 : Q (.inl (some (gm_vi (N 9)))) n K R (M)) : gm_Wp X LX d bc bs 266 0 (gm_ent 266 [gm_vr 226]) [] n K R M Q := by
  obtain ⟨⟨⟨a0, b0⟩, ⟨a1, b1⟩, ⟨a10, b10⟩, ⟨a11, b11⟩, ⟨a12, b12⟩, a9, b9⟩, ⟨⟨a2, b2⟩, ⟨a5, b5⟩, ⟨a3, b3⟩, ⟨a4, b4⟩, ⟨a6, b6⟩, ⟨a14, b14⟩, ⟨a7, b7⟩, a13, b13⟩, rF, rP, rL⟩ := id hN
  refine gm_sz (gm_p_load (pc := 0) (i := .aload_n 0) (sr := 2) (j := 0) (by decide +kernel) rfl rfl rfl) ?_
  refine gm_sz (fw_gr (pc := 1) (ix := 13) (ci := 11) (j := 1) (r := 227) (by decide +kernel) (e0k hE (k := 226) (c := 11) (by decide +kernel)) (by decide +kernel) (by decide +kernel) (e0r hE (k := 226) (j := 1) (r := 227) (by decide +kernel))) ?_
  refine gm_sz (gm_p_const (pc := 4) (i := .bipush 9) (v := gm_vi 9) (by decide +kernel) (by decide +kernel)) ?_
  refine gm_sz (fw_ia (pc := 6) (k := 227) (len := 2093) (e0 := 9) (x := N 9) (by decide +kernel) (e0a hE (k := 227) (q := (0, 2093)) (by decide +kernel)).1 (e0a hE (k := 227) (q := (0, 2093)) (by decide +kernel)).2 (by decide) ⟨by omega, by omega⟩ (tr_w hT (by decide) (by decide) (by decide))) ?_
  exact gm_r_int (pc := 7) (by decide +kernel) (Or.inl (by decide +kernel)) q0
theorem re_rk0 (hd : 1 ≤ d) (hE : E0 n K R) (hT : TR N h M) (hN : NR N) (h1 : 0 ≤ l ∧ l < N 4) (q0 : 0 ≤ (N (119 + (l * 7 + 0))) → Q (.inl (some (gm_vi 0))) n K R (M)) (q1 : ¬ 0 ≤ (N (119 + (l * 7 + 0))) → Q (.inl (some (gm_vi 1))) n K R (M)) : gm_Wp X LX d bc bs 303 0 (gm_ent 303 [gm_vr 226, gm_vi l]) [] n K R M Q := by
  obtain ⟨⟨⟨a0, b0⟩, ⟨a1, b1⟩, ⟨a10, b10⟩, ⟨a11, b11⟩, ⟨a12, b12⟩, a9, b9⟩, ⟨⟨a2, b2⟩, ⟨a5, b5⟩, ⟨a3, b3⟩, ⟨a4, b4⟩, ⟨a6, b6⟩, ⟨a14, b14⟩, ⟨a7, b7⟩, a13, b13⟩, rF, rP, rL⟩ := id hN
  obtain ⟨⟨r0a, r0b⟩, -⟩ := rL l h1.1 h1.2
  refine gm_sz (gm_p_load (pc := 0) (i := .aload_n 0) (sr := 2) (j := 0) (by decide +kernel) rfl rfl rfl) ?_
  refine gm_sz (gm_p_load (pc := 1) (i := .iload_n 1) (sr := 0) (j := 1) (by decide +kernel) rfl rfl rfl) ?_
  refine gm_sz (gm_p_const (pc := 2) (i := .iconst 0) (v := gm_vi 0) (by decide +kernel) (by decide +kernel)) ?_
  refine gm_c_virt (k := 226) (ci := 11) (mj := 301) (ix := 82) (pc := 3) (as := [gm_vi l, gm_vi 0]) (st := []) (d' := d - 1) (bc' := 0) (bs' := 0) (by decide +kernel) (by decide +kernel) (by decide +kernel) (by decide +kernel) (e0k hE (k := 226) (c := 11) (by decide +kernel)).1 (e0k hE (k := 226) (c := 11) (by decide +kernel)).2 (by decide) (by decide +kernel) (show 2 = gm_na 301 by decide +kernel) (fw_c2 fw_si fw_si) (show 3 ≤ gm_ml 301 by decide +kernel) (Nat.le_of_ble_eq_true rfl) (by omega) (Nat.zero_le _) (Nat.zero_le _) ?_
  refine re_ol hE hT hN ⟨by omega, by omega⟩ ⟨by omega, by omega⟩ ?_
  show gm_Wp X LX d _ _ 303 6 _ [gm_vi (N (119 + (l * 7 + 0)))] n K _ _ Q
  refine fw_if (cc := .ge) (pc := 6) (off := 7) (by decide +kernel) (by decide) ⟨by omega, by omega⟩ (fun h6 => ?_) (fun h6 => ?_)
  · have h6 : 0 ≤ (N (119 + (l * 7 + 0))) := h6
    refine gm_sz (gm_p_const (pc := 13) (i := .iconst 0) (v := gm_vi 0) (by decide +kernel) (by decide +kernel)) ?_
    exact gm_r_int (pc := 14) (by decide +kernel) (Or.inr ⟨(by decide +kernel), Or.inl rfl⟩) (q0 h6)
  · have h6 : ¬ 0 ≤ (N (119 + (l * 7 + 0))) := h6
    refine gm_sz (gm_p_const (pc := 9) (i := .iconst 1) (v := gm_vi 1) (by decide +kernel) (by decide +kernel)) ?_
    refine gm_sz (gm_p_goto (pc := 10) (off := 4) (by decide +kernel) (by decide)) ?_
    exact gm_r_int (pc := 14) (by decide +kernel) (Or.inr ⟨(by decide +kernel), Or.inr rfl⟩) (q1 h6)
theorem re_rk (hd : 1 ≤ d) (hE : E0 n K R) (hT : TR N h M) (hN : NR N) (h1 : 0 ≤ l ∧ l < N 4) (hq : Q (.inl (some (gm_vi (if (N (119 + (l * 7 + 0))) = -1 then 1 else 0)))) n K R M) : gm_Wp X LX d bc bs 303 0 (gm_ent 303 [gm_vr 226, gm_vi l]) [] n K R M Q := by
  obtain ⟨⟨r0a, r0b⟩, -⟩ := hN.2.2.2.2 l h1.1 h1.2
  refine re_rk0 hd hE hT hN h1 (fun g => ?_) (fun g => ?_)
  · rw [if_neg (show ¬ (N (119 + (l * 7 + 0))) = -1 by omega)] at hq
    exact hq
  · rw [if_pos (show (N (119 + (l * 7 + 0))) = -1 by omega)] at hq
    exact hq
theorem re_fl (hE : E0 n K R) (hT : TR N h M) (hN : NR N) (hw : gm_ir wo) (hr : 0 ≤ r0 ∧ r0 ≤ 10000) (hy : gm_ir y) (hq : ∀ M2, fr [(226, some 30)] M M2 → Q (.inl (some (gm_vi (nfl N y wo (N 5).toNat r0)))) n K R M2) : ∀ (u i : Nat) (z : Option gm_V) (M1 : gm_M), (i : Int) + (u : Int) = N 5 → fr [(226, some 30)] M M1 → gm_Wp X LX d bc bs 307 6 [some (gm_vr 226), some (gm_vi r0), some (gm_vi y), some (gm_vi wo), some (gm_vi (nfl N y wo i r0)), some (gm_vi (i : Int)), z] [] n K R M1 Q := by
  obtain ⟨⟨⟨a0, b0⟩, ⟨a1, b1⟩, ⟨a10, b10⟩, ⟨a11, b11⟩, ⟨a12, b12⟩, a9, b9⟩, ⟨⟨a2, b2⟩, ⟨a5, b5⟩, ⟨a3, b3⟩, ⟨a4, b4⟩, ⟨a6, b6⟩, ⟨a14, b14⟩, ⟨a7, b7⟩, a13, b13⟩, rF, rP, rL⟩ := id hN
  obtain ⟨hw1, hw2⟩ := hw
  obtain ⟨hy1, hy2⟩ := hy
  have rF2 : ∀ f : Int, 0 ≤ f → f < N 5 → 0 ≤ (N (71 + (f * 3 + 2))) ∧ (N (71 + (f * 3 + 2))) ≤ 20 := fun f h1 h2 => (rF f h1 h2).2.2
  intro u
  induction u with
  | zero =>
    intro i z M1 hi hf
    have hin : i = (N 5).toNat := by omega
    rw [← hin] at hq
    refine gm_sz (gm_p_load (pc := 6) (i := .iload 5) (sr := 0) (j := 5) (by decide +kernel) rfl rfl rfl) ?_
    refine gm_sz (gm_p_load (pc := 8) (i := .aload_n 0) (sr := 2) (j := 0) (by decide +kernel) rfl rfl rfl) ?_
    refine gm_sz (fw_gr (pc := 9) (ix := 13) (ci := 11) (j := 1) (r := 227) (by decide +kernel) (e0k hE (k := 226) (c := 11) (by decide +kernel)) (by decide +kernel) (by decide +kernel) (e0r hE (k := 226) (j := 1) (r := 227) (by decide +kernel))) ?_
    refine gm_sz (gm_p_const (pc := 12) (i := .iconst 5) (v := gm_vi 5) (by decide +kernel) (by decide +kernel)) ?_
    refine gm_sz (fw_ia (pc := 13) (k := 227) (len := 2093) (e0 := 5) (x := N 5) (by decide +kernel) (e0a hE (k := 227) (q := (0, 2093)) (by decide +kernel)).1 (e0a hE (k := 227) (q := (0, 2093)) (by decide +kernel)).2 (by decide) ⟨by omega, by omega⟩ ((fr_c hf (by decide)).trans (tr_w hT (by decide) (by decide) (by decide)))) ?_
    refine fw_ict (cc := .ge) (pc := 14) (off := 84) (by decide +kernel) (by decide) ⟨by omega, by omega⟩ ⟨by omega, by omega⟩ (show (N 5) ≤ (i : Int) by omega) ?_
    refine gm_sz (gm_p_load (pc := 98) (i := .iload 4) (sr := 0) (j := 4) (by decide +kernel) rfl rfl rfl) ?_
    exact gm_r_int (pc := 100) (by decide +kernel) (Or.inl (by decide +kernel)) (hq M1 hf)
  | succ u ih =>
    intro i z M1 hi hf
    obtain ⟨j1, j2⟩ := nfl_b (y := y) (wo := wo) (r := r0) rF2 i (by omega)
    obtain ⟨⟨f0, f1⟩, ⟨f2, f3⟩, f4, f5⟩ := rF i (by omega) (by omega)
    refine gm_sz (gm_p_load (pc := 6) (i := .iload 5) (sr := 0) (j := 5) (by decide +kernel) rfl rfl rfl) ?_
    refine gm_sz (gm_p_load (pc := 8) (i := .aload_n 0) (sr := 2) (j := 0) (by decide +kernel) rfl rfl rfl) ?_
    refine gm_sz (fw_gr (pc := 9) (ix := 13) (ci := 11) (j := 1) (r := 227) (by decide +kernel) (e0k hE (k := 226) (c := 11) (by decide +kernel)) (by decide +kernel) (by decide +kernel) (e0r hE (k := 226) (j := 1) (r := 227) (by decide +kernel))) ?_
    refine gm_sz (gm_p_const (pc := 12) (i := .iconst 5) (v := gm_vi 5) (by decide +kernel) (by decide +kernel)) ?_
    refine gm_sz (fw_ia (pc := 13) (k := 227) (len := 2093) (e0 := 5) (x := N 5) (by decide +kernel) (e0a hE (k := 227) (q := (0, 2093)) (by decide +kernel)).1 (e0a hE (k := 227) (q := (0, 2093)) (by decide +kernel)).2 (by decide) ⟨by omega, by omega⟩ ((fr_c hf (by decide)).trans (tr_w hT (by decide) (by decide) (by decide)))) ?_
    refine fw_icf (cc := .ge) (pc := 14) (off := 84) (by decide +kernel) (by decide) ⟨by omega, by omega⟩ ⟨by omega, by omega⟩ (show ¬ (N 5) ≤ (i : Int) by omega) ?_
    refine gm_sz (gm_p_const (pc := 17) (i := .bipush 71) (v := gm_vi 71) (by decide +kernel) (by decide +kernel)) ?_
    refine gm_sz (gm_p_const (pc := 19) (i := .iconst 3) (v := gm_vi 3) (by decide +kernel) (by decide +kernel)) ?_
    refine gm_sz (gm_p_load (pc := 20) (i := .iload 5) (sr := 0) (j := 5) (by decide +kernel) rfl rfl rfl) ?_
    refine gm_sz (gm_p_bin (pc := 22) (i := .imul) (f := fun x y => x * y) (by decide +kernel) rfl) ?_
    refine gm_sz (gm_p_bin (pc := 23) (i := .iadd) (f := fun x y => x + y) (by decide +kernel) rfl) ?_
    refine gm_sz (gm_p_stor (pc := 24) (i := .istore 6) (sr := 0) (j := 6) (by decide +kernel) rfl (show 7 ≤ _ from Nat.le_of_ble_eq_true rfl) rfl) ?_
    refine gm_sz (gm_p_load (pc := 26) (i := .iload 5) (sr := 0) (j := 5) (by decide +kernel) rfl rfl rfl) ?_
    refine gm_sz (gm_p_load (pc := 28) (i := .iload_n 3) (sr := 0) (j := 3) (by decide +kernel) rfl rfl rfl) ?_
    refine fw_ic (cc := .eq) (pc := 29) (off := 63) (by decide +kernel) (by decide) ⟨by omega, by omega⟩ ⟨by omega, by omega⟩ (fun h29 => ?_) (fun h29 => ?_)
    · have h29 : (i : Int) = wo := h29
      refine gm_sz (gm_p_iinc (pc := 92) (j := 5) (z := 1) (by decide +kernel) rfl) ?_
      refine gm_sz (gm_p_goto (pc := 95) (off := (-89)) (by decide +kernel) (by decide)) ?_
      have e9 : nfl N y wo (i + 1) r0 = nfl N y wo i r0 := nfl_f (fun hh => by first | exact hh.1 h29 | exact h40 hh.2.1 | (have := hh.2.2; omega))
      rw [← e9]
      exact ih (i + 1) _ _ (by omega) (fr_t fr_0 hf (by decide))
    · have h29 : ¬ (i : Int) = wo := h29
      refine gm_sz (gm_p_load (pc := 32) (i := .aload_n 0) (sr := 2) (j := 0) (by decide +kernel) rfl rfl rfl) ?_
      refine gm_sz (fw_gr (pc := 33) (ix := 13) (ci := 11) (j := 1) (r := 227) (by decide +kernel) (e0k hE (k := 226) (c := 11) (by decide +kernel)) (by decide +kernel) (by decide +kernel) (e0r hE (k := 226) (j := 1) (r := 227) (by decide +kernel))) ?_
      refine gm_sz (gm_p_load (pc := 36) (i := .iload 6) (sr := 0) (j := 6) (by decide +kernel) rfl rfl rfl) ?_
      refine gm_sz (fw_ia (pc := 38) (k := 227) (len := 2093) (e0 := 71 + (3 * (i : Int))) (x := N (71 + ((i : Int) * 3 + 0))) (by decide +kernel) (e0a hE (k := 227) (q := (0, 2093)) (by decide +kernel)).1 (e0a hE (k := 227) (q := (0, 2093)) (by decide +kernel)).2 (by decide) ⟨by omega, by omega⟩ ((fr_c hf (by decide)).trans (tr_x hT (show 71 + (3 * (i : Int)) = (71 + ((i : Int) * 3 + 0)) by omega) (by omega) (by omega) (by omega)))) ?_
      refine gm_sz (gm_p_load (pc := 39) (i := .iload_n 2) (sr := 0) (j := 2) (by decide +kernel) rfl rfl rfl) ?_
      refine fw_ic (cc := .ne) (pc := 40) (off := 52) (by decide +kernel) (by decide) ⟨by omega, by omega⟩ ⟨by omega, by omega⟩ (fun h40 => ?_) (fun h40 => ?_)
      · have h40 : ¬ (N (71 + ((i : Int) * 3 + 0))) = y := h40
        refine gm_sz (gm_p_iinc (pc := 92) (j := 5) (z := 1) (by decide +kernel) rfl) ?_
        refine gm_sz (gm_p_goto (pc := 95) (off := (-89)) (by decide +kernel) (by decide)) ?_
        have e9 : nfl N y wo (i + 1) r0 = nfl N y wo i r0 := nfl_f (fun hh => by first | exact hh.1 h29 | exact h40 hh.2.1 | (have := hh.2.2; omega))
        rw [← e9]
        exact ih (i + 1) _ _ (by omega) (fr_t fr_0 hf (by decide))
      · have h40 : (N (71 + ((i : Int) * 3 + 0))) = y := Classical.not_not.mp h40
        refine gm_sz (gm_p_load (pc := 43) (i := .iload 4) (sr := 0) (j := 4) (by decide +kernel) rfl rfl rfl) ?_
        refine gm_sz (gm_p_load (pc := 45) (i := .aload_n 0) (sr := 2) (j := 0) (by decide +kernel) rfl rfl rfl) ?_
        refine gm_sz (fw_gr (pc := 46) (ix := 13) (ci := 11) (j := 1) (r := 227) (by decide +kernel) (e0k hE (k := 226) (c := 11) (by decide +kernel)) (by decide +kernel) (by decide +kernel) (e0r hE (k := 226) (j := 1) (r := 227) (by decide +kernel))) ?_
        refine gm_sz (gm_p_load (pc := 49) (i := .iload 6) (sr := 0) (j := 6) (by decide +kernel) rfl rfl rfl) ?_
        refine gm_sz (gm_p_const (pc := 51) (i := .iconst 1) (v := gm_vi 1) (by decide +kernel) (by decide +kernel)) ?_
        refine gm_sz (gm_p_bin (pc := 52) (i := .iadd) (f := fun x y => x + y) (by decide +kernel) rfl) ?_
        refine gm_sz (fw_ia (pc := 53) (k := 227) (len := 2093) (e0 := (71 + (3 * (i : Int))) + 1) (x := N (71 + ((i : Int) * 3 + 1))) (by decide +kernel) (e0a hE (k := 227) (q := (0, 2093)) (by decide +kernel)).1 (e0a hE (k := 227) (q := (0, 2093)) (by decide +kernel)).2 (by decide) ⟨by omega, by omega⟩ ((fr_c hf (by decide)).trans (tr_x hT (show (71 + (3 * (i : Int))) + 1 = (71 + ((i : Int) * 3 + 1)) by omega) (by omega) (by omega) (by omega)))) ?_
        refine fw_ic (cc := .ge) (pc := 54) (off := 6) (by decide +kernel) (by decide) ⟨by omega, by omega⟩ ⟨by omega, by omega⟩ (fun h54 => ?_) (fun h54 => ?_)
        · have h54 : (N (71 + ((i : Int) * 3 + 1))) ≤ (nfl N y wo i r0) := h54
          refine gm_sz (gm_p_load (pc := 60) (i := .iload 4) (sr := 0) (j := 4) (by decide +kernel) rfl rfl rfl) ?_
          refine gm_sz (gm_p_load (pc := 62) (i := .aload_n 0) (sr := 2) (j := 0) (by decide +kernel) rfl rfl rfl) ?_
          refine gm_sz (fw_gr (pc := 63) (ix := 13) (ci := 11) (j := 1) (r := 227) (by decide +kernel) (e0k hE (k := 226) (c := 11) (by decide +kernel)) (by decide +kernel) (by decide +kernel) (e0r hE (k := 226) (j := 1) (r := 227) (by decide +kernel))) ?_
          refine gm_sz (gm_p_load (pc := 66) (i := .iload 6) (sr := 0) (j := 6) (by decide +kernel) rfl rfl rfl) ?_
          refine gm_sz (gm_p_const (pc := 68) (i := .iconst 2) (v := gm_vi 2) (by decide +kernel) (by decide +kernel)) ?_
          refine gm_sz (gm_p_bin (pc := 69) (i := .iadd) (f := fun x y => x + y) (by decide +kernel) rfl) ?_
          refine gm_sz (fw_ia (pc := 70) (k := 227) (len := 2093) (e0 := (71 + (3 * (i : Int))) + 2) (x := N (71 + ((i : Int) * 3 + 2))) (by decide +kernel) (e0a hE (k := 227) (q := (0, 2093)) (by decide +kernel)).1 (e0a hE (k := 227) (q := (0, 2093)) (by decide +kernel)).2 (by decide) ⟨by omega, by omega⟩ ((fr_c hf (by decide)).trans (tr_x hT (show (71 + (3 * (i : Int))) + 2 = (71 + ((i : Int) * 3 + 2)) by omega) (by omega) (by omega) (by omega)))) ?_
          refine gm_sz (gm_p_bin (pc := 71) (i := .iadd) (f := fun x y => x + y) (by decide +kernel) rfl) ?_
          refine gm_sz (gm_p_stor (pc := 72) (i := .istore 4) (sr := 0) (j := 4) (by decide +kernel) rfl (show 5 ≤ _ from Nat.le_of_ble_eq_true rfl) rfl) ?_
          refine gm_sz (gm_p_load (pc := 74) (i := .aload_n 0) (sr := 2) (j := 0) (by decide +kernel) rfl rfl rfl) ?_
          refine gm_sz (gm_p_dup (pc := 75) (by decide +kernel) fw_sr) ?_
          refine gm_sz (fw_gi (pc := 76) (ix := 365) (ci := 11) (j := 30) (x := M1 226 30) (by decide +kernel) (e0k hE (k := 226) (c := 11) (by decide +kernel)) (by decide +kernel) (by decide +kernel) rfl) ?_
          refine gm_sz (gm_p_load (pc := 79) (i := .aload_n 0) (sr := 2) (j := 0) (by decide +kernel) rfl rfl rfl) ?_
          refine gm_sz (fw_gr (pc := 80) (ix := 13) (ci := 11) (j := 1) (r := 227) (by decide +kernel) (e0k hE (k := 226) (c := 11) (by decide +kernel)) (by decide +kernel) (by decide +kernel) (e0r hE (k := 226) (j := 1) (r := 227) (by decide +kernel))) ?_
          refine gm_sz (gm_p_load (pc := 83) (i := .iload 6) (sr := 0) (j := 6) (by decide +kernel) rfl rfl rfl) ?_
          refine gm_sz (gm_p_const (pc := 85) (i := .iconst 2) (v := gm_vi 2) (by decide +kernel) (by decide +kernel)) ?_
          refine gm_sz (gm_p_bin (pc := 86) (i := .iadd) (f := fun x y => x + y) (by decide +kernel) rfl) ?_
          refine gm_sz (fw_ia (pc := 87) (k := 227) (len := 2093) (e0 := (71 + (3 * (i : Int))) + 2) (x := N (71 + ((i : Int) * 3 + 2))) (by decide +kernel) (e0a hE (k := 227) (q := (0, 2093)) (by decide +kernel)).1 (e0a hE (k := 227) (q := (0, 2093)) (by decide +kernel)).2 (by decide) ⟨by omega, by omega⟩ ((fr_c hf (by decide)).trans (tr_x hT (show (71 + (3 * (i : Int))) + 2 = (71 + ((i : Int) * 3 + 2)) by omega) (by omega) (by omega) (by omega)))) ?_
          refine gm_sz (gm_p_bin (pc := 88) (i := .iadd) (f := fun x y => x + y) (by decide +kernel) rfl) ?_
          refine gm_sz (fw_pi (pc := 89) (ix := 365) (ci := 11) (j := 30) (M' := gm_uM M1 226 30 ((M1 226 30) + (N (71 + ((i : Int) * 3 + 2))))) (by decide +kernel) (e0k hE (k := 226) (c := 11) (by decide +kernel)) (by decide +kernel) (by decide +kernel) (by decide +kernel) rfl) ?_
          refine gm_sz (gm_p_iinc (pc := 92) (j := 5) (z := 1) (by decide +kernel) rfl) ?_
          refine gm_sz (gm_p_goto (pc := 95) (off := (-89)) (by decide +kernel) (by decide)) ?_
          have e9 : nfl N y wo (i + 1) r0 = (nfl N y wo i r0) + (N (71 + ((i : Int) * 3 + 2))) := nfl_t h29 h40 (by omega)
          rw [← e9]
          exact ih (i + 1) _ _ (by omega) (fr_p (fr_t fr_0 hf (by decide)) (Or.inr (by decide)))
        · have h54 : ¬ (N (71 + ((i : Int) * 3 + 1))) ≤ (nfl N y wo i r0) := h54
          refine gm_sz (gm_p_goto (pc := 57) (off := 35) (by decide +kernel) (by decide)) ?_
          refine gm_sz (gm_p_iinc (pc := 92) (j := 5) (z := 1) (by decide +kernel) rfl) ?_
          refine gm_sz (gm_p_goto (pc := 95) (off := (-89)) (by decide +kernel) (by decide)) ?_
          have e9 : nfl N y wo (i + 1) r0 = nfl N y wo i r0 := nfl_f (fun hh => by first | exact hh.1 h29 | exact h40 hh.2.1 | (have := hh.2.2; omega))
          rw [← e9]
          exact ih (i + 1) _ _ (by omega) (fr_t fr_0 hf (by decide))
theorem re_c307 (hE : E0 n K R) (hT : TR N h M) (hN : NR N) (hw : gm_ir wo) (hr : 0 ≤ r0 ∧ r0 ≤ 10000) (hy : gm_ir y) (hq : ∀ M2, fr [(226, some 30)] M M2 → Q (.inl (some (gm_vi (nfl N y wo (N 5).toNat r0)))) n K R M2) : gm_Wp X LX d bc bs 307 0 (gm_ent 307 [gm_vr 226, gm_vi r0, gm_vi y, gm_vi wo]) [] n K R M Q := by
  have a5 := hN.2.1.2.1
  refine gm_sz (gm_p_load (pc := 0) (i := .iload_n 1) (sr := 0) (j := 1) (by decide +kernel) rfl rfl rfl) ?_
  refine gm_sz (gm_p_stor (pc := 1) (i := .istore 4) (sr := 0) (j := 4) (by decide +kernel) rfl (show 5 ≤ _ from Nat.le_of_ble_eq_true rfl) rfl) ?_
  refine gm_sz (gm_p_const (pc := 3) (i := .iconst 0) (v := gm_vi 0) (by decide +kernel) (by decide +kernel)) ?_
  refine gm_sz (gm_p_stor (pc := 4) (i := .istore 5) (sr := 0) (j := 5) (by decide +kernel) rfl (show 6 ≤ _ from Nat.le_of_ble_eq_true rfl) rfl) ?_
  exact re_fl hE hT hN hw hr hy hq (N 5).toNat 0 _ M (by omega) fr_0
end RW1
/-- flowAt of the reference, by what it answers -/
noncomputable def okR (W : List (Nat × Option Int)) : Bool := W.all fun w => !(w.1 == 235) && (!(w.1 == 227) && !(w.1 == 226 && (w.2 == none || w.2 == some 26)))
noncomputable def RSt (FI : gm_M → Prop) : Prop := ∀ (W : List (Nat × Option Int)) (M M2 : gm_M), okR W = true → fr W M M2 → FI M → FI M2
noncomputable def FLR (X : Int → Int) (LX n : Nat) (K : gm_K) (R : gm_R) (N h : Int → Int) (FI : gm_M → Prop) (φ : Int → Int → Int → Int) : Prop := (∀ l r y, 0 ≤ φ l r y ∧ φ l r y ≤ 30) ∧ RSt FI ∧ ∀ (d bc bs : Nat) (M : gm_M) (Q : gm_Q) (lane row year : Int), 12 ≤ d → 0 ≤ lane ∧ lane < N 0 → 0 ≤ row ∧ row < N 1 → 0 ≤ year ∧ year < 300 → TR N h M → FI M → (∀ M2, fr [(226, some 26), (226, some 17), (226, some 18), (226, some 19), (226, some 20), (226, some 21), (226, some 22), (226, some 23), (235, none), (233, none)] M M2 → FI M2 → Q (.inl (some (gm_vi (φ lane row year)))) n K R M2) → gm_Wp X LX d bc bs 292 0 (gm_ent 292 [gm_vr 226, gm_vi lane, gm_vi row, gm_vi year]) [] n K R M Q
section RW2
variable {X : Int → Int} {LX d bc bs n : Nat} {K : gm_K} {R : gm_R} {M : gm_M} {Q : gm_Q} {lane y0 wo r0 rk l : Int} {N h : Int → Int} {FI : gm_M → Prop} {φ : Int → Int → Int → Int}
/-- what a run leaves: rows, depths, the year when it is out -/
noncomputable def rrun (N h : Int → Int) (φ : Int → Int → Int → Int) (lane rk wo y0 r0 : Int) (M : gm_M) : Prop := (∀ y, 0 ≤ y → y < y0 → M 236 y = -1 ∧ M 237 y = -1) ∧ (∀ k : Nat, y0 + (k : Int) < 300 → M 236 (y0 + (k : Int)) = min (nwy N h φ lane rk wo y0 r0 k).1 (N 1) ∧ M 237 (y0 + (k : Int)) = (nwy N h φ lane rk wo y0 r0 k).2) ∧ ((M 226 29 = -1 ∧ ∀ k : Nat, y0 + (k : Int) < 300 → (nwy N h φ lane rk wo y0 r0 k).1 < N 1) ∨ ∃ j : Nat, y0 + (j : Int) < 300 ∧ M 226 29 = y0 + (j : Int) ∧ N 1 ≤ (nwy N h φ lane rk wo y0 r0 j).1 ∧ ∀ i, i < j → (nwy N h φ lane rk wo y0 r0 i).1 < N 1)
/-- as far as it has run -/
noncomputable def rr1 (N h : Int → Int) (φ : Int → Int → Int → Int) (lane rk wo y0 r0 : Int) (k : Nat) (o : Int) (M : gm_M) : Prop := (∀ y, 0 ≤ y → y < y0 → M 236 y = -1 ∧ M 237 y = -1) ∧ (∀ i, i < k → M 236 (y0 + (i : Int)) = min (nwy N h φ lane rk wo y0 r0 i).1 (N 1) ∧ M 237 (y0 + (i : Int)) = (nwy N h φ lane rk wo y0 r0 i).2) ∧ ((o = -1 ∧ ∀ i, i < k → (nwy N h φ lane rk wo y0 r0 i).1 < N 1) ∨ ∃ j : Nat, j < k ∧ o = y0 + (j : Int) ∧ N 1 ≤ (nwy N h φ lane rk wo y0 r0 j).1 ∧ ∀ i, i < j → (nwy N h φ lane rk wo y0 r0 i).1 < N 1)
theorem rr1_s {k : Nat} {o o2 : Int} {M M2 : gm_M} (y9 : 0 ≤ y0) (h9 : rr1 N h φ lane rk wo y0 r0 k o M) (e6 : ∀ j, ¬ j = y0 + (k : Int) → M2 236 j = M 236 j) (e7 : ∀ j, ¬ j = y0 + (k : Int) → M2 237 j = M 237 j) (f6 : M2 236 (y0 + (k : Int)) = min (nwy N h φ lane rk wo y0 r0 k).1 (N 1)) (f7 : M2 237 (y0 + (k : Int)) = (nwy N h φ lane rk wo y0 r0 k).2) (ho : (o < 0 ∧ N 1 ≤ (nwy N h φ lane rk wo y0 r0 k).1 ∧ o2 = y0 + (k : Int)) ∨ (o < 0 ∧ (nwy N h φ lane rk wo y0 r0 k).1 < N 1 ∧ o2 = o) ∨ (0 ≤ o ∧ o2 = o)) : rr1 N h φ lane rk wo y0 r0 (k + 1) o2 M2 := by
  obtain ⟨a, b, c⟩ := h9
  refine ⟨fun y y1 y2 => ?_, fun i hi => ?_, ?_⟩
  · rw [e6 y (by omega), e7 y (by omega)]; exact a y y1 y2
  · by_cases e : i = k
    · subst e; exact ⟨f6, f7⟩
    · rw [e6 _ (by omega), e7 _ (by omega)]; exact b i (by omega)
  · rcases c with ⟨c1, c2⟩ | ⟨j, c1, c2, c3, c4⟩
    · rcases ho with ⟨h1, h2, h3⟩ | ⟨h1, h2, h3⟩ | ⟨h1, h3⟩
      · exact Or.inr ⟨k, by omega, h3, h2, c2⟩
      · refine Or.inl ⟨by omega, fun i hi => ?_⟩
        by_cases e : i = k
        · subst e; exact h2
        · exact c2 i (by omega)
      · omega
    · rcases ho with ⟨h1, h2, h3⟩ | ⟨h1, h2, h3⟩ | ⟨h1, h3⟩
      · omega
      · omega
      · exact Or.inr ⟨j, by omega, by omega, c3, c4⟩
theorem rr1_out {k : Nat} {o : Int} {M : gm_M} (y9 : 0 ≤ y0) (h9 : rr1 N h φ lane rk wo y0 r0 k o M) (ho : 0 ≤ o) : N 1 ≤ (nwy N h φ lane rk wo y0 r0 k).1 := by
  obtain ⟨-, -, ⟨c1, c2⟩ | ⟨j, c1, c2, c3, c4⟩⟩ := h9
  · omega
  · have key : ∀ u : Nat, N 1 ≤ (nwy N h φ lane rk wo y0 r0 (j + u)).1 := by
      intro u
      induction u with
      | zero => exact c3
      | succ u ih =>
        show N 1 ≤ (nst N h φ lane rk wo (y0 + ((j + u : Nat) : Int)) (nwy N h φ lane rk wo y0 r0 (j + u))).1
        unfold nst
        rw [if_pos ih]
        exact ih
    have := key (k - j)
    rwa [show j + (k - j) = k by omega] at this
theorem rr1_no {k : Nat} {o : Int} {M : gm_M} (h9 : rr1 N h φ lane rk wo y0 r0 k o M) (y9 : 0 ≤ y0) : (o < 0 → o = -1) ∧ -1 ≤ o ∧ (0 ≤ o → o < y0 + (k : Int)) := by
  obtain ⟨-, -, ⟨c1, c2⟩ | ⟨j, c1, c2, c3, c4⟩⟩ := h9
  · exact ⟨fun _ => c1, by omega, fun h => by omega⟩
  · exact ⟨fun h => by omega, by omega, fun h => by omega⟩
theorem re_rn (hd : 14 ≤ d) (hE : E0 n K R) (hT : TR N h M) (hN : NR N) (hfw : FLR X LX n K R N h FI φ) (k2 : 0 ≤ lane ∧ lane < N 0) (k3 : 0 ≤ rk ∧ rk ≤ 1) (hwo9 : gm_ir wo) (k5 : 0 ≤ r0 ∧ r0 ≤ 300) (y9 : 0 ≤ y0 ∧ y0 < 300) (hq : ∀ M2, fr [(226, some 29), (226, some 30), (226, some 26), (226, some 17), (226, some 18), (226, some 19), (226, some 20), (226, some 21), (226, some 22), (226, some 23), (235, none), (233, none), (236, none), (237, none)] M M2 → FI M2 → rrun N h φ lane rk wo y0 r0 M2 → Q (.inl none) n K R M2) : ∀ (u k : Nat) (r dp o : Int) (M1 : gm_M), y0 + (k : Int) + (u : Int) = 300 → fr [(226, some 29), (226, some 30), (226, some 26), (226, some 17), (226, some 18), (226, some 19), (226, some 20), (226, some 21), (226, some 22), (226, some 23), (235, none), (233, none), (236, none), (237, none)] M M1 → FI M1 → M1 226 29 = o → rr1 N h φ lane rk wo y0 r0 k o M1 → (y0 + (k : Int) < 300 → r = (nwy N h φ lane rk wo y0 r0 k).1 ∧ dp = (nwy N h φ lane rk wo y0 r0 k).2) → gm_Wp X LX d bc bs 306 50 [some (gm_vr 226), some (gm_vi lane), some (gm_vi r0), some (gm_vi y0), some (gm_vi rk), some (gm_vi wo), some (gm_vi r), some (gm_vi dp), some (gm_vi (y0 + (k : Int)))] [] n K R M1 Q := by
  have hh : ∀ y, 0 ≤ y → y < 300 → 0 ≤ h y ∧ h y ≤ 9 := fun y y1 y2 => (hT.2 y y1 y2).2
  obtain ⟨⟨⟨a0, b0⟩, ⟨a1, b1⟩, ⟨a10, b10⟩, ⟨a11, b11⟩, ⟨a12, b12⟩, a9, b9⟩, ⟨⟨a2, b2⟩, ⟨a5, b5⟩, ⟨a3, b3⟩, ⟨a4, b4⟩, ⟨a6, b6⟩, ⟨a14, b14⟩, ⟨a7, b7⟩, a13, b13⟩, rF, rP, rL⟩ := id hN
  obtain ⟨y91, y92⟩ := y9
  intro u
  induction u with
  | zero =>
    intro k r dp o M1 hk hf hI1 h29 hr hrd
    refine gm_sz (gm_p_load (pc := 50) (i := .iload 8) (sr := 0) (j := 8) (by decide +kernel) rfl rfl rfl) ?_
    refine gm_sz (gm_p_const (pc := 52) (i := .sipush 300) (v := gm_vi 300) (by decide +kernel) (by decide +kernel)) ?_
    refine fw_ict (cc := .ge) (pc := 55) (off := 158) (by decide +kernel) (by decide) ⟨by omega, by omega⟩ ⟨by decide, by decide⟩ (show 300 ≤ (y0 + (k : Int)) by omega) ?_
    refine gm_r_void (pc := 213) (by decide +kernel) (by decide +kernel) (hq M1 hf hI1 ⟨hr.1, fun i hi => hr.2.1 i (by omega), ?_⟩)
    rcases hr.2.2 with ⟨c1, c2⟩ | ⟨j, c1, c2, c3, c4⟩
    · exact Or.inl ⟨h29.trans c1, fun i hi => c2 i (by omega)⟩
    · exact Or.inr ⟨j, by omega, h29.trans c2, c3, c4⟩
  | succ u ih =>
    intro k r dp o M1 hk hf hI1 h29 hr hrd
    obtain ⟨hr1, hd1⟩ := hrd (by omega)
    obtain ⟨⟨w1, w2⟩, w3, w4⟩ := nwy_b (lane := lane) (rock := rk) (wo := wo) hN hfw.1 hh y91 k5 k (by omega)
    have hh9 := hh (y0 + (k : Int)) (by omega) (by omega)
    obtain ⟨o1, o2, o3⟩ := rr1_no hr y91
    have oo := rr1_out y91 hr
    rw [← hr1] at w1 w2 oo
    rw [← hd1] at w3 w4
    refine gm_sz (gm_p_load (pc := 50) (i := .iload 8) (sr := 0) (j := 8) (by decide +kernel) rfl rfl rfl) ?_
    refine gm_sz (gm_p_const (pc := 52) (i := .sipush 300) (v := gm_vi 300) (by decide +kernel) (by decide +kernel)) ?_
    refine fw_icf (cc := .ge) (pc := 55) (off := 158) (by decide +kernel) (by decide) ⟨by omega, by omega⟩ ⟨by decide, by decide⟩ (show ¬ 300 ≤ (y0 + (k : Int)) by omega) ?_
    refine gm_sz (gm_p_load (pc := 58) (i := .aload_n 0) (sr := 2) (j := 0) (by decide +kernel) rfl rfl rfl) ?_
    refine gm_sz (fw_gr (pc := 59) (ix := 45) (ci := 11) (j := 27) (r := 236) (by decide +kernel) (e0k hE (k := 226) (c := 11) (by decide +kernel)) (by decide +kernel) (by decide +kernel) (e0r hE (k := 226) (j := 27) (r := 236) (by decide +kernel))) ?_
    refine gm_sz (gm_p_load (pc := 62) (i := .iload 8) (sr := 0) (j := 8) (by decide +kernel) rfl rfl rfl) ?_
    refine gm_sz (gm_p_load (pc := 64) (i := .iload 6) (sr := 0) (j := 6) (by decide +kernel) rfl rfl rfl) ?_
    refine gm_sz (gm_p_load (pc := 66) (i := .aload_n 0) (sr := 2) (j := 0) (by decide +kernel) rfl rfl rfl) ?_
    refine gm_c_virt (k := 226) (ci := 11) (mj := 259) (ix := 94) (pc := 67) (as := []) (st := [gm_vi r, gm_vi (y0 + (k : Int)), gm_vr 236]) (d' := d - 1) (bc' := 0) (bs' := 0) (by decide +kernel) (by decide +kernel) (by decide +kernel) (by decide +kernel) (e0k hE (k := 226) (c := 11) (by decide +kernel)).1 (e0k hE (k := 226) (c := 11) (by decide +kernel)).2 (by decide) (by decide +kernel) (show 0 = gm_na 259 by decide +kernel) fw_c0 (show 1 ≤ gm_ml 259 by decide +kernel) (Nat.le_of_ble_eq_true rfl) (by omega) (Nat.zero_le _) (Nat.zero_le _) ?_
    refine re_lip hE (tr_fr (W := [(226, some 29), (226, some 30), (226, some 26), (226, some 17), (226, some 18), (226, some 19), (226, some 20), (226, some 21), (226, some 22), (226, some 23), (235, none), (233, none), (236, none), (237, none)]) hT (fr_t fr_0 hf (by decide)) (by decide)) hN ?_
    show gm_Wp X LX d _ _ 306 70 _ [gm_vi (N 1), gm_vi r, gm_vi (y0 + (k : Int)), gm_vr 236] n K _ _ Q
    refine gm_sz (gm_p_min (pc := 70) (ix := 345) (x := r) (y := N 1) (by decide +kernel) (by decide +kernel) (gm_w_id (by omega) (by omega)) (gm_w_id (by omega) (by omega)) (Nat.le_of_ble_eq_true rfl) (by omega)) ?_
    refine gm_sz (fw_is (pc := 73) (k := 236) (len := 300) (e0 := y0 + (k : Int)) (x := min r (N 1)) (M' := gm_uM M1 236 (y0 + (k : Int)) (min r (N 1))) (by decide +kernel) (e0a hE (k := 236) (q := (0, 300)) (by decide +kernel)).1 (e0a hE (k := 236) (q := (0, 300)) (by decide +kernel)).2 (by decide) ⟨by omega, by omega⟩ rfl) ?_
    refine gm_sz (gm_p_load (pc := 74) (i := .aload_n 0) (sr := 2) (j := 0) (by decide +kernel) rfl rfl rfl) ?_
    refine gm_sz (fw_gr (pc := 75) (ix := 48) (ci := 11) (j := 28) (r := 237) (by decide +kernel) (e0k hE (k := 226) (c := 11) (by decide +kernel)) (by decide +kernel) (by decide +kernel) (e0r hE (k := 226) (j := 28) (r := 237) (by decide +kernel))) ?_
    refine gm_sz (gm_p_load (pc := 78) (i := .iload 8) (sr := 0) (j := 8) (by decide +kernel) rfl rfl rfl) ?_
    refine gm_sz (gm_p_load (pc := 80) (i := .iload 7) (sr := 0) (j := 7) (by decide +kernel) rfl rfl rfl) ?_
    refine gm_sz (fw_is (pc := 82) (k := 237) (len := 300) (e0 := y0 + (k : Int)) (x := dp) (M' := gm_uM (gm_uM M1 236 (y0 + (k : Int)) (min r (N 1))) 237 (y0 + (k : Int)) dp) (by decide +kernel) (e0a hE (k := 237) (q := (0, 300)) (by decide +kernel)).1 (e0a hE (k := 237) (q := (0, 300)) (by decide +kernel)).2 (by decide) ⟨by omega, by omega⟩ rfl) ?_
    refine gm_sz (gm_p_load (pc := 83) (i := .aload_n 0) (sr := 2) (j := 0) (by decide +kernel) rfl rfl rfl) ?_
    refine gm_sz (gm_p_load (pc := 84) (i := .aload_n 0) (sr := 2) (j := 0) (by decide +kernel) rfl rfl rfl) ?_
    refine gm_sz (fw_gi (pc := 85) (ix := 368) (ci := 11) (j := 29) (x := o) (by decide +kernel) (e0k hE (k := 226) (c := 11) (by decide +kernel)) (by decide +kernel) (by decide +kernel) ((uM_ne (by omega)).trans ((uM_ne (by omega)).trans h29))) ?_
    refine fw_if (cc := .ge) (pc := 88) (off := 17) (by decide +kernel) (by decide) ⟨by omega, by omega⟩ (fun h88 => ?_) (fun h88 => ?_)
    · have h88 : 0 ≤ o := h88
      refine gm_sz (gm_p_load (pc := 105) (i := .aload_n 0) (sr := 2) (j := 0) (by decide +kernel) rfl rfl rfl) ?_
      refine gm_sz (fw_gi (pc := 106) (ix := 368) (ci := 11) (j := 29) (x := o) (by decide +kernel) (e0k hE (k := 226) (c := 11) (by decide +kernel)) (by decide +kernel) (by decide +kernel) ((uM_ne (by omega)).trans ((uM_ne (by omega)).trans h29))) ?_
      refine gm_sz (fw_pi (pc := 109) (ix := 368) (ci := 11) (j := 29) (M' := gm_uM (gm_uM (gm_uM M1 236 (y0 + (k : Int)) (min r (N 1))) 237 (y0 + (k : Int)) dp) 226 29 o) (by decide +kernel) (e0k hE (k := 226) (c := 11) (by decide +kernel)) (by decide +kernel) (by decide +kernel) (by decide +kernel) rfl) ?_
      refine gm_sz (gm_p_load (pc := 112) (i := .aload_n 0) (sr := 2) (j := 0) (by decide +kernel) rfl rfl rfl) ?_
      refine gm_sz (fw_gi (pc := 113) (ix := 368) (ci := 11) (j := 29) (x := o) (by decide +kernel) (e0k hE (k := 226) (c := 11) (by decide +kernel)) (by decide +kernel) (by decide +kernel) uM_at) ?_
      refine fw_ift (cc := .ge) (pc := 116) (off := 91) (by decide +kernel) (by decide) ⟨by omega, by omega⟩ (show 0 ≤ o by omega) ?_
      refine gm_sz (gm_p_iinc (pc := 207) (j := 8) (z := 1) (by decide +kernel) rfl) ?_
      refine gm_sz (gm_p_goto (pc := 210) (off := (-160)) (by decide +kernel) (by decide)) ?_
      have r9 : rr1 N h φ lane rk wo y0 r0 (k + 1) o _ := rr1_s (M2 := gm_uM (gm_uM (gm_uM M1 236 (y0 + (k : Int)) (min r (N 1))) 237 (y0 + (k : Int)) dp) 226 29 o) y91 hr (fun j hj => ((uM_ne (by omega)).trans ((uM_ne (by omega)).trans ((uM_ne (fun hh => hj hh.2)).trans rfl)))) (fun j hj => ((uM_ne (by omega)).trans ((uM_ne (fun hh => hj hh.2)).trans ((uM_ne (by omega)).trans rfl)))) (((uM_ne (by omega)).trans ((uM_ne (by omega)).trans uM_at)).trans (by rw [hr1])) (((uM_ne (by omega)).trans uM_at).trans hd1) (Or.inr (Or.inr ⟨by omega, rfl⟩))
      rw [show y0 + (k : Int) + 1 = y0 + ((k + 1 : Nat) : Int) by omega]
      refine ih (k + 1) _ _ _ _ (by omega) (fr_p (fr_p (fr_p (fr_t fr_0 hf (by decide)) (Or.inl (by decide))) (Or.inl (by decide))) (Or.inr (by decide))) (hfw.2.1 [(236, none), (237, none), (226, some 29)] _ _ (by decide) (fr_p (fr_p (fr_p fr_0 (Or.inl (by decide))) (Or.inl (by decide))) (Or.inr (by decide))) hI1) uM_at r9 ?_
      intro hlt
      have e9 : nst N h φ lane rk wo (y0 + (k : Int)) (r, dp) = (r, dp) := if_pos (by omega)
      have e8 : nwy N h φ lane rk wo y0 r0 (k + 1) = nst N h φ lane rk wo (y0 + (k : Int)) (r, dp) := by show nst N h φ lane rk wo (y0 + (k : Int)) (nwy N h φ lane rk wo y0 r0 k) = _; rw [hr1, hd1]
      rw [e8, e9]
      exact ⟨rfl, rfl⟩
    · have h88 : ¬ 0 ≤ o := h88
      refine gm_sz (gm_p_load (pc := 91) (i := .iload 6) (sr := 0) (j := 6) (by decide +kernel) rfl rfl rfl) ?_
      refine gm_sz (gm_p_load (pc := 93) (i := .aload_n 0) (sr := 2) (j := 0) (by decide +kernel) rfl rfl rfl) ?_
      refine gm_c_virt (k := 226) (ci := 11) (mj := 259) (ix := 94) (pc := 94) (as := []) (st := [gm_vi r, gm_vr 226]) (d' := d - 1) (bc' := 0) (bs' := 0) (by decide +kernel) (by decide +kernel) (by decide +kernel) (by decide +kernel) (e0k hE (k := 226) (c := 11) (by decide +kernel)).1 (e0k hE (k := 226) (c := 11) (by decide +kernel)).2 (by decide) (by decide +kernel) (show 0 = gm_na 259 by decide +kernel) fw_c0 (show 1 ≤ gm_ml 259 by decide +kernel) (Nat.le_of_ble_eq_true rfl) (by omega) (Nat.zero_le _) (Nat.zero_le _) ?_
      refine re_lip hE (tr_fr (W := [(226, some 29), (226, some 30), (226, some 26), (226, some 17), (226, some 18), (226, some 19), (226, some 20), (226, some 21), (226, some 22), (226, some 23), (235, none), (233, none), (236, none), (237, none)]) hT (fr_p (fr_p (fr_t fr_0 hf (by decide)) (Or.inl (by decide))) (Or.inl (by decide))) (by decide)) hN ?_
      show gm_Wp X LX d _ _ 306 97 _ [gm_vi (N 1), gm_vi r, gm_vr 226] n K _ _ Q
      refine fw_ic (cc := .lt) (pc := 97) (off := 8) (by decide +kernel) (by decide) ⟨by omega, by omega⟩ ⟨by omega, by omega⟩ (fun h97 => ?_) (fun h97 => ?_)
      · have h97 : r < (N 1) := h97
        refine gm_sz (gm_p_load (pc := 105) (i := .aload_n 0) (sr := 2) (j := 0) (by decide +kernel) rfl rfl rfl) ?_
        refine gm_sz (fw_gi (pc := 106) (ix := 368) (ci := 11) (j := 29) (x := o) (by decide +kernel) (e0k hE (k := 226) (c := 11) (by decide +kernel)) (by decide +kernel) (by decide +kernel) ((uM_ne (by omega)).trans ((uM_ne (by omega)).trans h29))) ?_
        refine gm_sz (fw_pi (pc := 109) (ix := 368) (ci := 11) (j := 29) (M' := gm_uM (gm_uM (gm_uM M1 236 (y0 + (k : Int)) (min r (N 1))) 237 (y0 + (k : Int)) dp) 226 29 o) (by decide +kernel) (e0k hE (k := 226) (c := 11) (by decide +kernel)) (by decide +kernel) (by decide +kernel) (by decide +kernel) rfl) ?_
        refine gm_sz (gm_p_load (pc := 112) (i := .aload_n 0) (sr := 2) (j := 0) (by decide +kernel) rfl rfl rfl) ?_
        refine gm_sz (fw_gi (pc := 113) (ix := 368) (ci := 11) (j := 29) (x := o) (by decide +kernel) (e0k hE (k := 226) (c := 11) (by decide +kernel)) (by decide +kernel) (by decide +kernel) uM_at) ?_
        refine fw_iff (cc := .ge) (pc := 116) (off := 91) (by decide +kernel) (by decide) ⟨by omega, by omega⟩ (show ¬ 0 ≤ o by omega) ?_
        refine gm_sz (gm_p_load (pc := 119) (i := .iload 8) (sr := 0) (j := 8) (by decide +kernel) rfl rfl rfl) ?_
        refine gm_sz (gm_p_const (pc := 121) (i := .sipush 299) (v := gm_vi 299) (by decide +kernel) (by decide +kernel)) ?_
        refine fw_ic (cc := .ne) (pc := 124) (off := 6) (by decide +kernel) (by decide) ⟨by omega, by omega⟩ ⟨by decide, by decide⟩ (fun h124 => ?_) (fun h124 => ?_)
        · have h124 : ¬ (y0 + (k : Int)) = 299 := h124
          refine gm_sz (gm_p_load (pc := 130) (i := .iload 4) (sr := 0) (j := 4) (by decide +kernel) rfl rfl rfl) ?_
          refine fw_if (cc := .eq) (pc := 132) (off := 7) (by decide +kernel) (by decide) ⟨by omega, by omega⟩ (fun h132 => ?_) (fun h132 => ?_)
          · have h132 : rk = 0 := h132
            refine gm_sz (gm_p_load (pc := 139) (i := .iload 6) (sr := 0) (j := 6) (by decide +kernel) rfl rfl rfl) ?_
            refine gm_sz (gm_p_load (pc := 141) (i := .aload_n 0) (sr := 2) (j := 0) (by decide +kernel) rfl rfl rfl) ?_
            refine gm_sz (fw_gr (pc := 142) (ix := 13) (ci := 11) (j := 1) (r := 227) (by decide +kernel) (e0k hE (k := 226) (c := 11) (by decide +kernel)) (by decide +kernel) (by decide +kernel) (e0r hE (k := 226) (j := 1) (r := 227) (by decide +kernel))) ?_
            refine gm_sz (gm_p_const (pc := 145) (i := .bipush 10) (v := gm_vi 10) (by decide +kernel) (by decide +kernel)) ?_
            refine gm_sz (fw_ia (pc := 147) (k := 227) (len := 2093) (e0 := 10) (x := N 10) (by decide +kernel) (e0a hE (k := 227) (q := (0, 2093)) (by decide +kernel)).1 (e0a hE (k := 227) (q := (0, 2093)) (by decide +kernel)).2 (by decide) ⟨by omega, by omega⟩ ((uM_ne (by omega)).trans ((uM_ne (by omega)).trans ((uM_ne (by omega)).trans ((fr_c hf (by decide)).trans (tr_w hT (by decide) (by decide) (by decide))))))) ?_
            refine fw_ic (cc := .ge) (pc := 148) (off := 21) (by decide +kernel) (by decide) ⟨by omega, by omega⟩ ⟨by omega, by omega⟩ (fun h148 => ?_) (fun h148 => ?_)
            · have h148 : (N 10) ≤ r := h148
              refine gm_sz (gm_p_const (pc := 169) (i := .iconst 0) (v := gm_vi 0) (by decide +kernel) (by decide +kernel)) ?_
              refine gm_sz (gm_p_load (pc := 170) (i := .iload 7) (sr := 0) (j := 7) (by decide +kernel) rfl rfl rfl) ?_
              refine gm_sz (gm_p_load (pc := 172) (i := .aload_n 0) (sr := 2) (j := 0) (by decide +kernel) rfl rfl rfl) ?_
              refine gm_sz (fw_gr (pc := 173) (ix := 39) (ci := 11) (j := 24) (r := 234) (by decide +kernel) (e0k hE (k := 226) (c := 11) (by decide +kernel)) (by decide +kernel) (by decide +kernel) (e0r hE (k := 226) (j := 24) (r := 234) (by decide +kernel))) ?_
              refine gm_sz (gm_p_load (pc := 176) (i := .iload 8) (sr := 0) (j := 8) (by decide +kernel) rfl rfl rfl) ?_
              refine gm_sz (fw_ia (pc := 178) (k := 234) (len := 300) (e0 := y0 + (k : Int)) (x := h (y0 + (k : Int))) (by decide +kernel) (e0a hE (k := 234) (q := (0, 300)) (by decide +kernel)).1 (e0a hE (k := 234) (q := (0, 300)) (by decide +kernel)).2 (by decide) ⟨by omega, by omega⟩ ((uM_ne (by omega)).trans ((uM_ne (by omega)).trans ((uM_ne (by omega)).trans ((fr_c hf (by decide)).trans ((hT.2 _ (by omega) (by omega)).1)))))) ?_
              refine gm_sz (gm_p_bin (pc := 179) (i := .isub) (f := fun x y => x - y) (by decide +kernel) rfl) ?_
              refine gm_sz (gm_p_max (pc := 180) (ix := 350) (x := 0) (y := dp - (h (y0 + (k : Int)))) (by decide +kernel) (by decide +kernel) (gm_w_id (by omega) (by omega)) (gm_w_id (by omega) (by omega)) (Nat.le_of_ble_eq_true rfl) (by omega)) ?_
              refine gm_sz (gm_p_stor (pc := 183) (i := .istore 7) (sr := 0) (j := 7) (by decide +kernel) rfl (show 8 ≤ _ from Nat.le_of_ble_eq_true rfl) rfl) ?_
              refine gm_sz (gm_p_load (pc := 185) (i := .aload_n 0) (sr := 2) (j := 0) (by decide +kernel) rfl rfl rfl) ?_
              refine gm_sz (gm_p_load (pc := 186) (i := .iload 6) (sr := 0) (j := 6) (by decide +kernel) rfl rfl rfl) ?_
              refine gm_sz (gm_p_load (pc := 188) (i := .aload_n 0) (sr := 2) (j := 0) (by decide +kernel) rfl rfl rfl) ?_
              refine gm_sz (gm_p_load (pc := 189) (i := .iload_n 1) (sr := 0) (j := 1) (by decide +kernel) rfl rfl rfl) ?_
              refine gm_sz (gm_p_load (pc := 190) (i := .iload 6) (sr := 0) (j := 6) (by decide +kernel) rfl rfl rfl) ?_
              refine gm_sz (gm_p_load (pc := 192) (i := .iload 8) (sr := 0) (j := 8) (by decide +kernel) rfl rfl rfl) ?_
              refine gm_c_virt (k := 226) (ci := 11) (mj := 292) (ix := 362) (pc := 194) (as := [gm_vi lane, gm_vi r, gm_vi (y0 + (k : Int))]) (st := [gm_vi r, gm_vr 226]) (d' := d - 1) (bc' := 0) (bs' := 0) (by decide +kernel) (by decide +kernel) (by decide +kernel) (by decide +kernel) (e0k hE (k := 226) (c := 11) (by decide +kernel)).1 (e0k hE (k := 226) (c := 11) (by decide +kernel)).2 (by decide) (by decide +kernel) (show 3 = gm_na 292 by decide +kernel) (fw_c3 fw_si fw_si fw_si) (show 4 ≤ gm_ml 292 by decide +kernel) (Nat.le_of_ble_eq_true rfl) (by omega) (Nat.zero_le _) (Nat.zero_le _) ?_
              refine hfw.2.2 _ _ _ _ _ _ _ _ (by omega) ⟨by omega, by omega⟩ ⟨by omega, by omega⟩ ⟨by omega, by omega⟩ (tr_fr (W := [(226, some 29), (226, some 30), (226, some 26), (226, some 17), (226, some 18), (226, some 19), (226, some 20), (226, some 21), (226, some 22), (226, some 23), (235, none), (233, none), (236, none), (237, none)]) hT (fr_p (fr_p (fr_p (fr_t fr_0 hf (by decide)) (Or.inl (by decide))) (Or.inl (by decide))) (Or.inr (by decide))) (by decide)) (hfw.2.1 [(236, none), (237, none), (226, some 29)] _ _ (by decide) (fr_p (fr_p (fr_p fr_0 (Or.inl (by decide))) (Or.inl (by decide))) (Or.inr (by decide))) hI1) (fun M194 hf194 hI194 => ?_)
              show gm_Wp X LX d _ _ 306 197 _ [gm_vi (φ lane r (y0 + (k : Int))), gm_vi r, gm_vr 226] n K _ _ Q
              have hφ9 := hfw.1 lane r (y0 + (k : Int))
              refine gm_sz (gm_p_bin (pc := 197) (i := .iadd) (f := fun x y => x + y) (by decide +kernel) rfl) ?_
              refine gm_sz (gm_p_load (pc := 198) (i := .iload 8) (sr := 0) (j := 8) (by decide +kernel) rfl rfl rfl) ?_
              refine gm_sz (gm_p_load (pc := 200) (i := .iload 5) (sr := 0) (j := 5) (by decide +kernel) rfl rfl rfl) ?_
              refine gm_c_virt (k := 226) (ci := 11) (mj := 307) (ix := 371) (pc := 202) (as := [gm_vi (r + (φ lane r (y0 + (k : Int)))), gm_vi (y0 + (k : Int)), gm_vi wo]) (st := []) (d' := d - 1) (bc' := 0) (bs' := 0) (by decide +kernel) (by decide +kernel) (by decide +kernel) (by decide +kernel) (e0k hE (k := 226) (c := 11) (by decide +kernel)).1 (e0k hE (k := 226) (c := 11) (by decide +kernel)).2 (by decide) (by decide +kernel) (show 3 = gm_na 307 by decide +kernel) (fw_c3 fw_si fw_si fw_si) (show 4 ≤ gm_ml 307 by decide +kernel) (Nat.le_of_ble_eq_true rfl) (by omega) (Nat.zero_le _) (Nat.zero_le _) ?_
              refine re_c307 (r0 := r + (φ lane r (y0 + (k : Int)))) (y := y0 + (k : Int)) (wo := wo) hE (tr_fr (W := [(226, some 29), (226, some 30), (226, some 26), (226, some 17), (226, some 18), (226, some 19), (226, some 20), (226, some 21), (226, some 22), (226, some 23), (235, none), (233, none), (236, none), (237, none)]) hT (fr_t (fr_p (fr_p (fr_p (fr_t fr_0 hf (by decide)) (Or.inl (by decide))) (Or.inl (by decide))) (Or.inr (by decide))) hf194 (by decide)) (by decide)) hN hwo9 ⟨by omega, by omega⟩ ⟨by omega, by omega⟩ (fun M202 hf202 => ?_)
              show gm_Wp X LX d _ _ 306 205 _ [gm_vi (nfl N (y0 + (k : Int)) wo (N 5).toNat (r + (φ lane r (y0 + (k : Int)))))] n K _ _ Q
              refine gm_sz (gm_p_stor (pc := 205) (i := .istore 6) (sr := 0) (j := 6) (by decide +kernel) rfl (show 7 ≤ _ from Nat.le_of_ble_eq_true rfl) rfl) ?_
              refine gm_sz (gm_p_iinc (pc := 207) (j := 8) (z := 1) (by decide +kernel) rfl) ?_
              refine gm_sz (gm_p_goto (pc := 210) (off := (-160)) (by decide +kernel) (by decide)) ?_
              have r9 : rr1 N h φ lane rk wo y0 r0 (k + 1) o _ := rr1_s (M2 := M202) y91 hr (fun j hj => ((fr_c hf202 (by decide)).trans ((fr_c hf194 (by decide)).trans ((uM_ne (by omega)).trans ((uM_ne (by omega)).trans ((uM_ne (fun hh => hj hh.2)).trans rfl)))))) (fun j hj => ((fr_c hf202 (by decide)).trans ((fr_c hf194 (by decide)).trans ((uM_ne (by omega)).trans ((uM_ne (fun hh => hj hh.2)).trans ((uM_ne (by omega)).trans rfl)))))) (((fr_c hf202 (by decide)).trans ((fr_c hf194 (by decide)).trans ((uM_ne (by omega)).trans ((uM_ne (by omega)).trans uM_at)))).trans (by rw [hr1])) (((fr_c hf202 (by decide)).trans ((fr_c hf194 (by decide)).trans ((uM_ne (by omega)).trans uM_at))).trans hd1) (Or.inr (Or.inl ⟨by omega, by omega, rfl⟩))
              rw [show y0 + (k : Int) + 1 = y0 + ((k + 1 : Nat) : Int) by omega]
              refine ih (k + 1) _ _ _ _ (by omega) (fr_t (fr_t (fr_p (fr_p (fr_p (fr_t fr_0 hf (by decide)) (Or.inl (by decide))) (Or.inl (by decide))) (Or.inr (by decide))) hf194 (by decide)) hf202 (by decide)) (hfw.2.1 [(226, some 30)] _ _ (by decide) (fr_t fr_0 hf202 (by decide)) hI194) ((fr_j hf202 (by decide)).trans ((fr_j hf194 (by decide)).trans uM_at)) r9 ?_
              intro hlt
              have e9 : nst N h φ lane rk wo (y0 + (k : Int)) (r, dp) = (nfl N (y0 + (k : Int)) wo (N 5).toNat (r + φ lane r (y0 + (k : Int))), ndp N h rk (y0 + (k : Int)) (r, dp)) := if_neg (by omega)
              have e8 : nwy N h φ lane rk wo y0 r0 (k + 1) = nst N h φ lane rk wo (y0 + (k : Int)) (r, dp) := by show nst N h φ lane rk wo (y0 + (k : Int)) (nwy N h φ lane rk wo y0 r0 k) = _; rw [hr1, hd1]
              rw [e8, e9]
              refine ⟨rfl, ?_⟩
              show _ = ndp N h rk (y0 + (k : Int)) (r, dp)
              unfold ndp
              dsimp only
              repeat (first | rw [if_pos (by omega)] | rw [if_neg (by omega)])
            · have h148 : ¬ (N 10) ≤ r := h148
              refine gm_sz (gm_p_const (pc := 151) (i := .bipush 99) (v := gm_vi 99) (by decide +kernel) (by decide +kernel)) ?_
              refine gm_sz (gm_p_load (pc := 153) (i := .iload 7) (sr := 0) (j := 7) (by decide +kernel) rfl rfl rfl) ?_
              refine gm_sz (gm_p_load (pc := 155) (i := .aload_n 0) (sr := 2) (j := 0) (by decide +kernel) rfl rfl rfl) ?_
              refine gm_sz (fw_gr (pc := 156) (ix := 13) (ci := 11) (j := 1) (r := 227) (by decide +kernel) (e0k hE (k := 226) (c := 11) (by decide +kernel)) (by decide +kernel) (by decide +kernel) (e0r hE (k := 226) (j := 1) (r := 227) (by decide +kernel))) ?_
              refine gm_sz (gm_p_const (pc := 159) (i := .bipush 11) (v := gm_vi 11) (by decide +kernel) (by decide +kernel)) ?_
              refine gm_sz (fw_ia (pc := 161) (k := 227) (len := 2093) (e0 := 11) (x := N 11) (by decide +kernel) (e0a hE (k := 227) (q := (0, 2093)) (by decide +kernel)).1 (e0a hE (k := 227) (q := (0, 2093)) (by decide +kernel)).2 (by decide) ⟨by omega, by omega⟩ ((uM_ne (by omega)).trans ((uM_ne (by omega)).trans ((uM_ne (by omega)).trans ((fr_c hf (by decide)).trans (tr_w hT (by decide) (by decide) (by decide))))))) ?_
              refine gm_sz (gm_p_bin (pc := 162) (i := .iadd) (f := fun x y => x + y) (by decide +kernel) rfl) ?_
              refine gm_sz (gm_p_min (pc := 163) (ix := 345) (x := 99) (y := dp + (N 11)) (by decide +kernel) (by decide +kernel) (gm_w_id (by omega) (by omega)) (gm_w_id (by omega) (by omega)) (Nat.le_of_ble_eq_true rfl) (by omega)) ?_
              refine gm_sz (gm_p_goto (pc := 166) (off := 17) (by decide +kernel) (by decide)) ?_
              refine gm_sz (gm_p_stor (pc := 183) (i := .istore 7) (sr := 0) (j := 7) (by decide +kernel) rfl (show 8 ≤ _ from Nat.le_of_ble_eq_true rfl) rfl) ?_
              refine gm_sz (gm_p_load (pc := 185) (i := .aload_n 0) (sr := 2) (j := 0) (by decide +kernel) rfl rfl rfl) ?_
              refine gm_sz (gm_p_load (pc := 186) (i := .iload 6) (sr := 0) (j := 6) (by decide +kernel) rfl rfl rfl) ?_
              refine gm_sz (gm_p_load (pc := 188) (i := .aload_n 0) (sr := 2) (j := 0) (by decide +kernel) rfl rfl rfl) ?_
              refine gm_sz (gm_p_load (pc := 189) (i := .iload_n 1) (sr := 0) (j := 1) (by decide +kernel) rfl rfl rfl) ?_
              refine gm_sz (gm_p_load (pc := 190) (i := .iload 6) (sr := 0) (j := 6) (by decide +kernel) rfl rfl rfl) ?_
              refine gm_sz (gm_p_load (pc := 192) (i := .iload 8) (sr := 0) (j := 8) (by decide +kernel) rfl rfl rfl) ?_
              refine gm_c_virt (k := 226) (ci := 11) (mj := 292) (ix := 362) (pc := 194) (as := [gm_vi lane, gm_vi r, gm_vi (y0 + (k : Int))]) (st := [gm_vi r, gm_vr 226]) (d' := d - 1) (bc' := 0) (bs' := 0) (by decide +kernel) (by decide +kernel) (by decide +kernel) (by decide +kernel) (e0k hE (k := 226) (c := 11) (by decide +kernel)).1 (e0k hE (k := 226) (c := 11) (by decide +kernel)).2 (by decide) (by decide +kernel) (show 3 = gm_na 292 by decide +kernel) (fw_c3 fw_si fw_si fw_si) (show 4 ≤ gm_ml 292 by decide +kernel) (Nat.le_of_ble_eq_true rfl) (by omega) (Nat.zero_le _) (Nat.zero_le _) ?_
              refine hfw.2.2 _ _ _ _ _ _ _ _ (by omega) ⟨by omega, by omega⟩ ⟨by omega, by omega⟩ ⟨by omega, by omega⟩ (tr_fr (W := [(226, some 29), (226, some 30), (226, some 26), (226, some 17), (226, some 18), (226, some 19), (226, some 20), (226, some 21), (226, some 22), (226, some 23), (235, none), (233, none), (236, none), (237, none)]) hT (fr_p (fr_p (fr_p (fr_t fr_0 hf (by decide)) (Or.inl (by decide))) (Or.inl (by decide))) (Or.inr (by decide))) (by decide)) (hfw.2.1 [(236, none), (237, none), (226, some 29)] _ _ (by decide) (fr_p (fr_p (fr_p fr_0 (Or.inl (by decide))) (Or.inl (by decide))) (Or.inr (by decide))) hI1) (fun M194 hf194 hI194 => ?_)
              show gm_Wp X LX d _ _ 306 197 _ [gm_vi (φ lane r (y0 + (k : Int))), gm_vi r, gm_vr 226] n K _ _ Q
              have hφ9 := hfw.1 lane r (y0 + (k : Int))
              refine gm_sz (gm_p_bin (pc := 197) (i := .iadd) (f := fun x y => x + y) (by decide +kernel) rfl) ?_
              refine gm_sz (gm_p_load (pc := 198) (i := .iload 8) (sr := 0) (j := 8) (by decide +kernel) rfl rfl rfl) ?_
              refine gm_sz (gm_p_load (pc := 200) (i := .iload 5) (sr := 0) (j := 5) (by decide +kernel) rfl rfl rfl) ?_
              refine gm_c_virt (k := 226) (ci := 11) (mj := 307) (ix := 371) (pc := 202) (as := [gm_vi (r + (φ lane r (y0 + (k : Int)))), gm_vi (y0 + (k : Int)), gm_vi wo]) (st := []) (d' := d - 1) (bc' := 0) (bs' := 0) (by decide +kernel) (by decide +kernel) (by decide +kernel) (by decide +kernel) (e0k hE (k := 226) (c := 11) (by decide +kernel)).1 (e0k hE (k := 226) (c := 11) (by decide +kernel)).2 (by decide) (by decide +kernel) (show 3 = gm_na 307 by decide +kernel) (fw_c3 fw_si fw_si fw_si) (show 4 ≤ gm_ml 307 by decide +kernel) (Nat.le_of_ble_eq_true rfl) (by omega) (Nat.zero_le _) (Nat.zero_le _) ?_
              refine re_c307 (r0 := r + (φ lane r (y0 + (k : Int)))) (y := y0 + (k : Int)) (wo := wo) hE (tr_fr (W := [(226, some 29), (226, some 30), (226, some 26), (226, some 17), (226, some 18), (226, some 19), (226, some 20), (226, some 21), (226, some 22), (226, some 23), (235, none), (233, none), (236, none), (237, none)]) hT (fr_t (fr_p (fr_p (fr_p (fr_t fr_0 hf (by decide)) (Or.inl (by decide))) (Or.inl (by decide))) (Or.inr (by decide))) hf194 (by decide)) (by decide)) hN hwo9 ⟨by omega, by omega⟩ ⟨by omega, by omega⟩ (fun M202 hf202 => ?_)
              show gm_Wp X LX d _ _ 306 205 _ [gm_vi (nfl N (y0 + (k : Int)) wo (N 5).toNat (r + (φ lane r (y0 + (k : Int)))))] n K _ _ Q
              refine gm_sz (gm_p_stor (pc := 205) (i := .istore 6) (sr := 0) (j := 6) (by decide +kernel) rfl (show 7 ≤ _ from Nat.le_of_ble_eq_true rfl) rfl) ?_
              refine gm_sz (gm_p_iinc (pc := 207) (j := 8) (z := 1) (by decide +kernel) rfl) ?_
              refine gm_sz (gm_p_goto (pc := 210) (off := (-160)) (by decide +kernel) (by decide)) ?_
              have r9 : rr1 N h φ lane rk wo y0 r0 (k + 1) o _ := rr1_s (M2 := M202) y91 hr (fun j hj => ((fr_c hf202 (by decide)).trans ((fr_c hf194 (by decide)).trans ((uM_ne (by omega)).trans ((uM_ne (by omega)).trans ((uM_ne (fun hh => hj hh.2)).trans rfl)))))) (fun j hj => ((fr_c hf202 (by decide)).trans ((fr_c hf194 (by decide)).trans ((uM_ne (by omega)).trans ((uM_ne (fun hh => hj hh.2)).trans ((uM_ne (by omega)).trans rfl)))))) (((fr_c hf202 (by decide)).trans ((fr_c hf194 (by decide)).trans ((uM_ne (by omega)).trans ((uM_ne (by omega)).trans uM_at)))).trans (by rw [hr1])) (((fr_c hf202 (by decide)).trans ((fr_c hf194 (by decide)).trans ((uM_ne (by omega)).trans uM_at))).trans hd1) (Or.inr (Or.inl ⟨by omega, by omega, rfl⟩))
              rw [show y0 + (k : Int) + 1 = y0 + ((k + 1 : Nat) : Int) by omega]
              refine ih (k + 1) _ _ _ _ (by omega) (fr_t (fr_t (fr_p (fr_p (fr_p (fr_t fr_0 hf (by decide)) (Or.inl (by decide))) (Or.inl (by decide))) (Or.inr (by decide))) hf194 (by decide)) hf202 (by decide)) (hfw.2.1 [(226, some 30)] _ _ (by decide) (fr_t fr_0 hf202 (by decide)) hI194) ((fr_j hf202 (by decide)).trans ((fr_j hf194 (by decide)).trans uM_at)) r9 ?_
              intro hlt
              have e9 : nst N h φ lane rk wo (y0 + (k : Int)) (r, dp) = (nfl N (y0 + (k : Int)) wo (N 5).toNat (r + φ lane r (y0 + (k : Int))), ndp N h rk (y0 + (k : Int)) (r, dp)) := if_neg (by omega)
              have e8 : nwy N h φ lane rk wo y0 r0 (k + 1) = nst N h φ lane rk wo (y0 + (k : Int)) (r, dp) := by show nst N h φ lane rk wo (y0 + (k : Int)) (nwy N h φ lane rk wo y0 r0 k) = _; rw [hr1, hd1]
              rw [e8, e9]
              refine ⟨rfl, ?_⟩
              show _ = ndp N h rk (y0 + (k : Int)) (r, dp)
              unfold ndp
              dsimp only
              repeat (first | rw [if_pos (by omega)] | rw [if_neg (by omega)])
          · have h132 : ¬ rk = 0 := h132
            refine gm_sz (gm_p_const (pc := 135) (i := .iconst 0) (v := gm_vi 0) (by decide +kernel) (by decide +kernel)) ?_
            refine gm_sz (gm_p_goto (pc := 136) (off := 47) (by decide +kernel) (by decide)) ?_
            refine gm_sz (gm_p_stor (pc := 183) (i := .istore 7) (sr := 0) (j := 7) (by decide +kernel) rfl (show 8 ≤ _ from Nat.le_of_ble_eq_true rfl) rfl) ?_
            refine gm_sz (gm_p_load (pc := 185) (i := .aload_n 0) (sr := 2) (j := 0) (by decide +kernel) rfl rfl rfl) ?_
            refine gm_sz (gm_p_load (pc := 186) (i := .iload 6) (sr := 0) (j := 6) (by decide +kernel) rfl rfl rfl) ?_
            refine gm_sz (gm_p_load (pc := 188) (i := .aload_n 0) (sr := 2) (j := 0) (by decide +kernel) rfl rfl rfl) ?_
            refine gm_sz (gm_p_load (pc := 189) (i := .iload_n 1) (sr := 0) (j := 1) (by decide +kernel) rfl rfl rfl) ?_
            refine gm_sz (gm_p_load (pc := 190) (i := .iload 6) (sr := 0) (j := 6) (by decide +kernel) rfl rfl rfl) ?_
            refine gm_sz (gm_p_load (pc := 192) (i := .iload 8) (sr := 0) (j := 8) (by decide +kernel) rfl rfl rfl) ?_
            refine gm_c_virt (k := 226) (ci := 11) (mj := 292) (ix := 362) (pc := 194) (as := [gm_vi lane, gm_vi r, gm_vi (y0 + (k : Int))]) (st := [gm_vi r, gm_vr 226]) (d' := d - 1) (bc' := 0) (bs' := 0) (by decide +kernel) (by decide +kernel) (by decide +kernel) (by decide +kernel) (e0k hE (k := 226) (c := 11) (by decide +kernel)).1 (e0k hE (k := 226) (c := 11) (by decide +kernel)).2 (by decide) (by decide +kernel) (show 3 = gm_na 292 by decide +kernel) (fw_c3 fw_si fw_si fw_si) (show 4 ≤ gm_ml 292 by decide +kernel) (Nat.le_of_ble_eq_true rfl) (by omega) (Nat.zero_le _) (Nat.zero_le _) ?_
            refine hfw.2.2 _ _ _ _ _ _ _ _ (by omega) ⟨by omega, by omega⟩ ⟨by omega, by omega⟩ ⟨by omega, by omega⟩ (tr_fr (W := [(226, some 29), (226, some 30), (226, some 26), (226, some 17), (226, some 18), (226, some 19), (226, some 20), (226, some 21), (226, some 22), (226, some 23), (235, none), (233, none), (236, none), (237, none)]) hT (fr_p (fr_p (fr_p (fr_t fr_0 hf (by decide)) (Or.inl (by decide))) (Or.inl (by decide))) (Or.inr (by decide))) (by decide)) (hfw.2.1 [(236, none), (237, none), (226, some 29)] _ _ (by decide) (fr_p (fr_p (fr_p fr_0 (Or.inl (by decide))) (Or.inl (by decide))) (Or.inr (by decide))) hI1) (fun M194 hf194 hI194 => ?_)
            show gm_Wp X LX d _ _ 306 197 _ [gm_vi (φ lane r (y0 + (k : Int))), gm_vi r, gm_vr 226] n K _ _ Q
            have hφ9 := hfw.1 lane r (y0 + (k : Int))
            refine gm_sz (gm_p_bin (pc := 197) (i := .iadd) (f := fun x y => x + y) (by decide +kernel) rfl) ?_
            refine gm_sz (gm_p_load (pc := 198) (i := .iload 8) (sr := 0) (j := 8) (by decide +kernel) rfl rfl rfl) ?_
            refine gm_sz (gm_p_load (pc := 200) (i := .iload 5) (sr := 0) (j := 5) (by decide +kernel) rfl rfl rfl) ?_
            refine gm_c_virt (k := 226) (ci := 11) (mj := 307) (ix := 371) (pc := 202) (as := [gm_vi (r + (φ lane r (y0 + (k : Int)))), gm_vi (y0 + (k : Int)), gm_vi wo]) (st := []) (d' := d - 1) (bc' := 0) (bs' := 0) (by decide +kernel) (by decide +kernel) (by decide +kernel) (by decide +kernel) (e0k hE (k := 226) (c := 11) (by decide +kernel)).1 (e0k hE (k := 226) (c := 11) (by decide +kernel)).2 (by decide) (by decide +kernel) (show 3 = gm_na 307 by decide +kernel) (fw_c3 fw_si fw_si fw_si) (show 4 ≤ gm_ml 307 by decide +kernel) (Nat.le_of_ble_eq_true rfl) (by omega) (Nat.zero_le _) (Nat.zero_le _) ?_
            refine re_c307 (r0 := r + (φ lane r (y0 + (k : Int)))) (y := y0 + (k : Int)) (wo := wo) hE (tr_fr (W := [(226, some 29), (226, some 30), (226, some 26), (226, some 17), (226, some 18), (226, some 19), (226, some 20), (226, some 21), (226, some 22), (226, some 23), (235, none), (233, none), (236, none), (237, none)]) hT (fr_t (fr_p (fr_p (fr_p (fr_t fr_0 hf (by decide)) (Or.inl (by decide))) (Or.inl (by decide))) (Or.inr (by decide))) hf194 (by decide)) (by decide)) hN hwo9 ⟨by omega, by omega⟩ ⟨by omega, by omega⟩ (fun M202 hf202 => ?_)
            show gm_Wp X LX d _ _ 306 205 _ [gm_vi (nfl N (y0 + (k : Int)) wo (N 5).toNat (r + (φ lane r (y0 + (k : Int)))))] n K _ _ Q
            refine gm_sz (gm_p_stor (pc := 205) (i := .istore 6) (sr := 0) (j := 6) (by decide +kernel) rfl (show 7 ≤ _ from Nat.le_of_ble_eq_true rfl) rfl) ?_
            refine gm_sz (gm_p_iinc (pc := 207) (j := 8) (z := 1) (by decide +kernel) rfl) ?_
            refine gm_sz (gm_p_goto (pc := 210) (off := (-160)) (by decide +kernel) (by decide)) ?_
            have r9 : rr1 N h φ lane rk wo y0 r0 (k + 1) o _ := rr1_s (M2 := M202) y91 hr (fun j hj => ((fr_c hf202 (by decide)).trans ((fr_c hf194 (by decide)).trans ((uM_ne (by omega)).trans ((uM_ne (by omega)).trans ((uM_ne (fun hh => hj hh.2)).trans rfl)))))) (fun j hj => ((fr_c hf202 (by decide)).trans ((fr_c hf194 (by decide)).trans ((uM_ne (by omega)).trans ((uM_ne (fun hh => hj hh.2)).trans ((uM_ne (by omega)).trans rfl)))))) (((fr_c hf202 (by decide)).trans ((fr_c hf194 (by decide)).trans ((uM_ne (by omega)).trans ((uM_ne (by omega)).trans uM_at)))).trans (by rw [hr1])) (((fr_c hf202 (by decide)).trans ((fr_c hf194 (by decide)).trans ((uM_ne (by omega)).trans uM_at))).trans hd1) (Or.inr (Or.inl ⟨by omega, by omega, rfl⟩))
            rw [show y0 + (k : Int) + 1 = y0 + ((k + 1 : Nat) : Int) by omega]
            refine ih (k + 1) _ _ _ _ (by omega) (fr_t (fr_t (fr_p (fr_p (fr_p (fr_t fr_0 hf (by decide)) (Or.inl (by decide))) (Or.inl (by decide))) (Or.inr (by decide))) hf194 (by decide)) hf202 (by decide)) (hfw.2.1 [(226, some 30)] _ _ (by decide) (fr_t fr_0 hf202 (by decide)) hI194) ((fr_j hf202 (by decide)).trans ((fr_j hf194 (by decide)).trans uM_at)) r9 ?_
            intro hlt
            have e9 : nst N h φ lane rk wo (y0 + (k : Int)) (r, dp) = (nfl N (y0 + (k : Int)) wo (N 5).toNat (r + φ lane r (y0 + (k : Int))), ndp N h rk (y0 + (k : Int)) (r, dp)) := if_neg (by omega)
            have e8 : nwy N h φ lane rk wo y0 r0 (k + 1) = nst N h φ lane rk wo (y0 + (k : Int)) (r, dp) := by show nst N h φ lane rk wo (y0 + (k : Int)) (nwy N h φ lane rk wo y0 r0 k) = _; rw [hr1, hd1]
            rw [e8, e9]
            refine ⟨rfl, ?_⟩
            show _ = ndp N h rk (y0 + (k : Int)) (r, dp)
            unfold ndp
            dsimp only
            repeat (first | rw [if_pos (by omega)] | rw [if_neg (by omega)])
        · have h124 : (y0 + (k : Int)) = 299 := Classical.not_not.mp h124
          refine gm_sz (gm_p_goto (pc := 127) (off := 80) (by decide +kernel) (by decide)) ?_
          refine gm_sz (gm_p_iinc (pc := 207) (j := 8) (z := 1) (by decide +kernel) rfl) ?_
          refine gm_sz (gm_p_goto (pc := 210) (off := (-160)) (by decide +kernel) (by decide)) ?_
          have r9 : rr1 N h φ lane rk wo y0 r0 (k + 1) o _ := rr1_s (M2 := gm_uM (gm_uM (gm_uM M1 236 (y0 + (k : Int)) (min r (N 1))) 237 (y0 + (k : Int)) dp) 226 29 o) y91 hr (fun j hj => ((uM_ne (by omega)).trans ((uM_ne (by omega)).trans ((uM_ne (fun hh => hj hh.2)).trans rfl)))) (fun j hj => ((uM_ne (by omega)).trans ((uM_ne (fun hh => hj hh.2)).trans ((uM_ne (by omega)).trans rfl)))) (((uM_ne (by omega)).trans ((uM_ne (by omega)).trans uM_at)).trans (by rw [hr1])) (((uM_ne (by omega)).trans uM_at).trans hd1) (Or.inr (Or.inl ⟨by omega, by omega, rfl⟩))
          rw [show y0 + (k : Int) + 1 = y0 + ((k + 1 : Nat) : Int) by omega]
          refine ih (k + 1) _ _ _ _ (by omega) (fr_p (fr_p (fr_p (fr_t fr_0 hf (by decide)) (Or.inl (by decide))) (Or.inl (by decide))) (Or.inr (by decide))) (hfw.2.1 [(236, none), (237, none), (226, some 29)] _ _ (by decide) (fr_p (fr_p (fr_p fr_0 (Or.inl (by decide))) (Or.inl (by decide))) (Or.inr (by decide))) hI1) uM_at r9 ?_
          intro hlt
          omega
      · have h97 : ¬ r < (N 1) := h97
        refine gm_sz (gm_p_load (pc := 100) (i := .iload 8) (sr := 0) (j := 8) (by decide +kernel) rfl rfl rfl) ?_
        refine gm_sz (gm_p_goto (pc := 102) (off := 7) (by decide +kernel) (by decide)) ?_
        refine gm_sz (fw_pi (pc := 109) (ix := 368) (ci := 11) (j := 29) (M' := gm_uM (gm_uM (gm_uM M1 236 (y0 + (k : Int)) (min r (N 1))) 237 (y0 + (k : Int)) dp) 226 29 (y0 + (k : Int))) (by decide +kernel) (e0k hE (k := 226) (c := 11) (by decide +kernel)) (by decide +kernel) (by decide +kernel) (by decide +kernel) rfl) ?_
        refine gm_sz (gm_p_load (pc := 112) (i := .aload_n 0) (sr := 2) (j := 0) (by decide +kernel) rfl rfl rfl) ?_
        refine gm_sz (fw_gi (pc := 113) (ix := 368) (ci := 11) (j := 29) (x := y0 + (k : Int)) (by decide +kernel) (e0k hE (k := 226) (c := 11) (by decide +kernel)) (by decide +kernel) (by decide +kernel) uM_at) ?_
        refine fw_ift (cc := .ge) (pc := 116) (off := 91) (by decide +kernel) (by decide) ⟨by omega, by omega⟩ (show 0 ≤ (y0 + (k : Int)) by omega) ?_
        refine gm_sz (gm_p_iinc (pc := 207) (j := 8) (z := 1) (by decide +kernel) rfl) ?_
        refine gm_sz (gm_p_goto (pc := 210) (off := (-160)) (by decide +kernel) (by decide)) ?_
        have r9 : rr1 N h φ lane rk wo y0 r0 (k + 1) (y0 + (k : Int)) _ := rr1_s (M2 := gm_uM (gm_uM (gm_uM M1 236 (y0 + (k : Int)) (min r (N 1))) 237 (y0 + (k : Int)) dp) 226 29 (y0 + (k : Int))) y91 hr (fun j hj => ((uM_ne (by omega)).trans ((uM_ne (by omega)).trans ((uM_ne (fun hh => hj hh.2)).trans rfl)))) (fun j hj => ((uM_ne (by omega)).trans ((uM_ne (fun hh => hj hh.2)).trans ((uM_ne (by omega)).trans rfl)))) (((uM_ne (by omega)).trans ((uM_ne (by omega)).trans uM_at)).trans (by rw [hr1])) (((uM_ne (by omega)).trans uM_at).trans hd1) (Or.inl ⟨by omega, by omega, rfl⟩)
        rw [show y0 + (k : Int) + 1 = y0 + ((k + 1 : Nat) : Int) by omega]
        refine ih (k + 1) _ _ _ _ (by omega) (fr_p (fr_p (fr_p (fr_t fr_0 hf (by decide)) (Or.inl (by decide))) (Or.inl (by decide))) (Or.inr (by decide))) (hfw.2.1 [(236, none), (237, none), (226, some 29)] _ _ (by decide) (fr_p (fr_p (fr_p fr_0 (Or.inl (by decide))) (Or.inl (by decide))) (Or.inr (by decide))) hI1) uM_at r9 ?_
        intro hlt
        have e9 : nst N h φ lane rk wo (y0 + (k : Int)) (r, dp) = (r, dp) := if_pos (by omega)
        have e8 : nwy N h φ lane rk wo y0 r0 (k + 1) = nst N h φ lane rk wo (y0 + (k : Int)) (r, dp) := by show nst N h φ lane rk wo (y0 + (k : Int)) (nwy N h φ lane rk wo y0 r0 k) = _; rw [hr1, hd1]
        rw [e8, e9]
        exact ⟨rfl, rfl⟩
theorem re_r0 (hd : 14 ≤ d) (hE : E0 n K R) (hT : TR N h M) (hN : NR N) (hfw : FLR X LX n K R N h FI φ) (k2 : 0 ≤ lane ∧ lane < N 0) (k3 : 0 ≤ rk ∧ rk ≤ 1) (hwo9 : gm_ir wo) (k5 : 0 ≤ r0 ∧ r0 ≤ 300) (y9 : 0 ≤ y0 ∧ y0 < 300) (hI : FI M) (hq : ∀ M2, fr [(226, some 29), (226, some 30), (226, some 26), (226, some 17), (226, some 18), (226, some 19), (226, some 20), (226, some 21), (226, some 22), (226, some 23), (235, none), (233, none), (236, none), (237, none)] M M2 → FI M2 → rrun N h φ lane rk wo y0 r0 M2 → Q (.inl none) n K R M2) : ∀ (u : Nat) (i : Int) (z7 z8 : Option gm_V) (M1 : gm_M), i + (u : Int) = y0 → 0 ≤ i → fr [(236, none), (237, none)] M M1 → (∀ y, 0 ≤ y → y < i → M1 236 y = -1 ∧ M1 237 y = -1) → gm_Wp X LX d bc bs 306 3 [some (gm_vr 226), some (gm_vi lane), some (gm_vi r0), some (gm_vi y0), some (gm_vi rk), some (gm_vi wo), some (gm_vi i), z7, z8] [] n K R M1 Q := by
  obtain ⟨y91, y92⟩ := y9
  intro u
  induction u with
  | zero =>
    intro i z7 z8 M1 hi hi0 hf hz
    have ei : i = y0 := by omega
    subst ei
    refine gm_sz (gm_p_load (pc := 3) (i := .iload 6) (sr := 0) (j := 6) (by decide +kernel) rfl rfl rfl) ?_
    refine gm_sz (gm_p_load (pc := 5) (i := .iload_n 3) (sr := 0) (j := 3) (by decide +kernel) rfl rfl rfl) ?_
    refine fw_ict (cc := .ge) (pc := 6) (off := 25) (by decide +kernel) (by decide) ⟨by omega, by omega⟩ ⟨by omega, by omega⟩ (show i ≤ i by omega) ?_
    refine gm_sz (gm_p_load (pc := 31) (i := .iload_n 2) (sr := 0) (j := 2) (by decide +kernel) rfl rfl rfl) ?_
    refine gm_sz (gm_p_stor (pc := 32) (i := .istore 6) (sr := 0) (j := 6) (by decide +kernel) rfl (show 7 ≤ _ from Nat.le_of_ble_eq_true rfl) rfl) ?_
    refine gm_sz (gm_p_const (pc := 34) (i := .iconst 0) (v := gm_vi 0) (by decide +kernel) (by decide +kernel)) ?_
    refine gm_sz (gm_p_stor (pc := 35) (i := .istore 7) (sr := 0) (j := 7) (by decide +kernel) rfl (show 8 ≤ _ from Nat.le_of_ble_eq_true rfl) rfl) ?_
    refine gm_sz (gm_p_load (pc := 37) (i := .aload_n 0) (sr := 2) (j := 0) (by decide +kernel) rfl rfl rfl) ?_
    refine gm_sz (gm_p_const (pc := 38) (i := .iconst (-1)) (v := gm_vi (-1)) (by decide +kernel) (by decide +kernel)) ?_
    refine gm_sz (fw_pi (pc := 39) (ix := 368) (ci := 11) (j := 29) (M' := gm_uM M1 226 29 (-1)) (by decide +kernel) (e0k hE (k := 226) (c := 11) (by decide +kernel)) (by decide +kernel) (by decide +kernel) (by decide +kernel) rfl) ?_
    refine gm_sz (gm_p_load (pc := 42) (i := .aload_n 0) (sr := 2) (j := 0) (by decide +kernel) rfl rfl rfl) ?_
    refine gm_sz (gm_p_const (pc := 43) (i := .iconst 0) (v := gm_vi 0) (by decide +kernel) (by decide +kernel)) ?_
    refine gm_sz (fw_pi (pc := 44) (ix := 365) (ci := 11) (j := 30) (M' := gm_uM (gm_uM M1 226 29 (-1)) 226 30 0) (by decide +kernel) (e0k hE (k := 226) (c := 11) (by decide +kernel)) (by decide +kernel) (by decide +kernel) (by decide +kernel) rfl) ?_
    refine gm_sz (gm_p_load (pc := 47) (i := .iload_n 3) (sr := 0) (j := 3) (by decide +kernel) rfl rfl rfl) ?_
    refine gm_sz (gm_p_stor (pc := 48) (i := .istore 8) (sr := 0) (j := 8) (by decide +kernel) rfl (show 9 ≤ _ from Nat.le_of_ble_eq_true rfl) rfl) ?_
    have z9 : ∀ y, 0 ≤ y → y < i → (gm_uM (gm_uM M1 226 29 (-1)) 226 30 0) 236 y = -1 ∧ (gm_uM (gm_uM M1 226 29 (-1)) 226 30 0) 237 y = -1 := fun y y1 y2 => ⟨((uM_ne (by omega)).trans ((uM_ne (by omega)).trans rfl)).trans (hz y y1 y2).1, ((uM_ne (by omega)).trans ((uM_ne (by omega)).trans rfl)).trans (hz y y1 y2).2⟩
    have q := re_rn (X := X) (LX := LX) (d := d) (bc := bc) (bs := bs) hd hE hT hN hfw k2 k3 hwo9 k5 ⟨y91, y92⟩ hq (300 - i).toNat 0 r0 0 (-1) (gm_uM (gm_uM M1 226 29 (-1)) 226 30 0) (by omega) (fr_p (fr_p (fr_t fr_0 hf (by decide)) (Or.inr (by decide))) (Or.inr (by decide))) (hfw.2.1 [(236, none), (237, none), (226, some 29), (226, some 30)] _ _ (by decide) (fr_p (fr_p (fr_t fr_0 hf (by decide)) (Or.inr (by decide))) (Or.inr (by decide))) hI) ((uM_ne (by omega)).trans uM_at) ⟨z9, (fun i hi => absurd hi (Nat.not_lt_zero _)), Or.inl ⟨rfl, fun i hi => absurd hi (Nat.not_lt_zero _)⟩⟩ (fun _ => ⟨rfl, rfl⟩)
    rw [show i + ((0 : Nat) : Int) = i by omega] at q
    exact q
  | succ u ih =>
    intro i z7 z8 M1 hi hi0 hf hz
    refine gm_sz (gm_p_load (pc := 3) (i := .iload 6) (sr := 0) (j := 6) (by decide +kernel) rfl rfl rfl) ?_
    refine gm_sz (gm_p_load (pc := 5) (i := .iload_n 3) (sr := 0) (j := 3) (by decide +kernel) rfl rfl rfl) ?_
    refine fw_icf (cc := .ge) (pc := 6) (off := 25) (by decide +kernel) (by decide) ⟨by omega, by omega⟩ ⟨by omega, by omega⟩ (show ¬ y0 ≤ i by omega) ?_
    refine gm_sz (gm_p_load (pc := 9) (i := .aload_n 0) (sr := 2) (j := 0) (by decide +kernel) rfl rfl rfl) ?_
    refine gm_sz (fw_gr (pc := 10) (ix := 45) (ci := 11) (j := 27) (r := 236) (by decide +kernel) (e0k hE (k := 226) (c := 11) (by decide +kernel)) (by decide +kernel) (by decide +kernel) (e0r hE (k := 226) (j := 27) (r := 236) (by decide +kernel))) ?_
    refine gm_sz (gm_p_load (pc := 13) (i := .iload 6) (sr := 0) (j := 6) (by decide +kernel) rfl rfl rfl) ?_
    refine gm_sz (gm_p_const (pc := 15) (i := .iconst (-1)) (v := gm_vi (-1)) (by decide +kernel) (by decide +kernel)) ?_
    refine gm_sz (fw_is (pc := 16) (k := 236) (len := 300) (e0 := i) (x := (-1)) (M' := gm_uM M1 236 i (-1)) (by decide +kernel) (e0a hE (k := 236) (q := (0, 300)) (by decide +kernel)).1 (e0a hE (k := 236) (q := (0, 300)) (by decide +kernel)).2 (by decide) ⟨by omega, by omega⟩ rfl) ?_
    refine gm_sz (gm_p_load (pc := 17) (i := .aload_n 0) (sr := 2) (j := 0) (by decide +kernel) rfl rfl rfl) ?_
    refine gm_sz (fw_gr (pc := 18) (ix := 48) (ci := 11) (j := 28) (r := 237) (by decide +kernel) (e0k hE (k := 226) (c := 11) (by decide +kernel)) (by decide +kernel) (by decide +kernel) (e0r hE (k := 226) (j := 28) (r := 237) (by decide +kernel))) ?_
    refine gm_sz (gm_p_load (pc := 21) (i := .iload 6) (sr := 0) (j := 6) (by decide +kernel) rfl rfl rfl) ?_
    refine gm_sz (gm_p_const (pc := 23) (i := .iconst (-1)) (v := gm_vi (-1)) (by decide +kernel) (by decide +kernel)) ?_
    refine gm_sz (fw_is (pc := 24) (k := 237) (len := 300) (e0 := i) (x := (-1)) (M' := gm_uM (gm_uM M1 236 i (-1)) 237 i (-1)) (by decide +kernel) (e0a hE (k := 237) (q := (0, 300)) (by decide +kernel)).1 (e0a hE (k := 237) (q := (0, 300)) (by decide +kernel)).2 (by decide) ⟨by omega, by omega⟩ rfl) ?_
    refine gm_sz (gm_p_iinc (pc := 25) (j := 6) (z := 1) (by decide +kernel) rfl) ?_
    refine gm_sz (gm_p_goto (pc := 28) (off := (-25)) (by decide +kernel) (by decide)) ?_
    refine ih (i + 1) _ _ _ (by omega) (by omega) (fr_p (fr_p (fr_t fr_0 hf (by decide)) (Or.inl (by decide))) (Or.inl (by decide))) (fun y y1 y2 => ?_)
    by_cases e : y = i
    · subst e
      exact ⟨((uM_ne (by omega)).trans uM_at), uM_at⟩
    · exact ⟨((uM_ne (by omega)).trans ((uM_ne (fun hh => e hh.2)).trans rfl)).trans (hz y y1 (by omega)).1, ((uM_ne (fun hh => e hh.2)).trans ((uM_ne (by omega)).trans rfl)).trans (hz y y1 (by omega)).2⟩
theorem re_c306 (hd : 14 ≤ d) (hE : E0 n K R) (hT : TR N h M) (hN : NR N) (hfw : FLR X LX n K R N h FI φ) (k2 : 0 ≤ lane ∧ lane < N 0) (k3 : 0 ≤ rk ∧ rk ≤ 1) (hwo9 : gm_ir wo) (k5 : 0 ≤ r0 ∧ r0 ≤ 300) (y9 : 0 ≤ y0 ∧ y0 < 300) (hI : FI M) (hq : ∀ M2, fr [(226, some 29), (226, some 30), (226, some 26), (226, some 17), (226, some 18), (226, some 19), (226, some 20), (226, some 21), (226, some 22), (226, some 23), (235, none), (233, none), (236, none), (237, none)] M M2 → FI M2 → rrun N h φ lane rk wo y0 r0 M2 → Q (.inl none) n K R M2) : gm_Wp X LX d bc bs 306 0 (gm_ent 306 [gm_vr 226, gm_vi lane, gm_vi r0, gm_vi y0, gm_vi rk, gm_vi wo]) [] n K R M Q := by
  refine gm_sz (gm_p_const (pc := 0) (i := .iconst 0) (v := gm_vi 0) (by decide +kernel) (by decide +kernel)) ?_
  refine gm_sz (gm_p_stor (pc := 1) (i := .istore 6) (sr := 0) (j := 6) (by decide +kernel) rfl (show 7 ≤ _ from Nat.le_of_ble_eq_true rfl) rfl) ?_
  exact re_r0 hd hE hT hN hfw k2 k3 hwo9 k5 y9 hI hq y0.toNat 0 _ _ M (by have := y9.1; omega) (Int.le_refl _) fr_0 (fun y y1 y2 => by omega)
theorem re_c305 (hd : 16 ≤ d) (hE : E0 n K R) (hT : TR N h M) (hN : NR N) (hfw : FLR X LX n K R N h FI φ) (hI : FI M) (h1 : 0 ≤ l ∧ l < N 4) (hwo9 : gm_ir wo) (hq : ∀ M2, fr [(226, some 29), (226, some 30), (226, some 26), (226, some 17), (226, some 18), (226, some 19), (226, some 20), (226, some 21), (226, some 22), (226, some 23), (235, none), (233, none), (236, none), (237, none)] M M2 → FI M2 → rrun N h φ ((N (119 + (l * 7 + 2)))) (if (N (119 + (l * 7 + 0))) = -1 then 1 else 0) wo ((N (119 + (l * 7 + 3)))) ((N (119 + (l * 7 + 4)))) M2 → Q (.inl none) n K R M2) : gm_Wp X LX d bc bs 305 0 (gm_ent 305 [gm_vr 226, gm_vi l, gm_vi wo]) [] n K R M Q := by
  obtain ⟨⟨⟨a0, b0⟩, ⟨a1, b1⟩, ⟨a10, b10⟩, ⟨a11, b11⟩, ⟨a12, b12⟩, a9, b9⟩, ⟨⟨a2, b2⟩, ⟨a5, b5⟩, ⟨a3, b3⟩, ⟨a4, b4⟩, ⟨a6, b6⟩, ⟨a14, b14⟩, ⟨a7, b7⟩, a13, b13⟩, rF, rP, rL⟩ := id hN
  obtain ⟨-, -, ⟨l1, l2⟩, ⟨l3, l4⟩, ⟨l5, l6⟩, -⟩ := rL l h1.1 h1.2
  have rk9 : 0 ≤ (if (N (119 + (l * 7 + 0))) = -1 then (1 : Int) else 0) ∧ (if (N (119 + (l * 7 + 0))) = -1 then (1 : Int) else 0) ≤ 1 := by split <;> exact ⟨by decide, by decide⟩
  refine gm_sz (gm_p_load (pc := 0) (i := .aload_n 0) (sr := 2) (j := 0) (by decide +kernel) rfl rfl rfl) ?_
  refine gm_sz (gm_p_load (pc := 1) (i := .aload_n 0) (sr := 2) (j := 0) (by decide +kernel) rfl rfl rfl) ?_
  refine gm_sz (gm_p_load (pc := 2) (i := .iload_n 1) (sr := 0) (j := 1) (by decide +kernel) rfl rfl rfl) ?_
  refine gm_sz (gm_p_const (pc := 3) (i := .iconst 2) (v := gm_vi 2) (by decide +kernel) (by decide +kernel)) ?_
  refine gm_c_virt (k := 226) (ci := 11) (mj := 301) (ix := 82) (pc := 4) (as := [gm_vi l, gm_vi 2]) (st := [gm_vr 226]) (d' := d - 1) (bc' := 0) (bs' := 0) (by decide +kernel) (by decide +kernel) (by decide +kernel) (by decide +kernel) (e0k hE (k := 226) (c := 11) (by decide +kernel)).1 (e0k hE (k := 226) (c := 11) (by decide +kernel)).2 (by decide) (by decide +kernel) (show 2 = gm_na 301 by decide +kernel) (fw_c2 fw_si fw_si) (show 3 ≤ gm_ml 301 by decide +kernel) (Nat.le_of_ble_eq_true rfl) (by omega) (Nat.zero_le _) (Nat.zero_le _) ?_
  refine re_ol hE hT hN ⟨by omega, by omega⟩ ⟨by omega, by omega⟩ ?_
  show gm_Wp X LX d _ _ 305 7 _ [gm_vi (N (119 + (l * 7 + 2))), gm_vr 226] n K _ _ Q
  refine gm_sz (gm_p_load (pc := 7) (i := .aload_n 0) (sr := 2) (j := 0) (by decide +kernel) rfl rfl rfl) ?_
  refine gm_sz (gm_p_load (pc := 8) (i := .iload_n 1) (sr := 0) (j := 1) (by decide +kernel) rfl rfl rfl) ?_
  refine gm_sz (gm_p_const (pc := 9) (i := .iconst 4) (v := gm_vi 4) (by decide +kernel) (by decide +kernel)) ?_
  refine gm_c_virt (k := 226) (ci := 11) (mj := 301) (ix := 82) (pc := 10) (as := [gm_vi l, gm_vi 4]) (st := [gm_vi (N (119 + (l * 7 + 2))), gm_vr 226]) (d' := d - 1) (bc' := 0) (bs' := 0) (by decide +kernel) (by decide +kernel) (by decide +kernel) (by decide +kernel) (e0k hE (k := 226) (c := 11) (by decide +kernel)).1 (e0k hE (k := 226) (c := 11) (by decide +kernel)).2 (by decide) (by decide +kernel) (show 2 = gm_na 301 by decide +kernel) (fw_c2 fw_si fw_si) (show 3 ≤ gm_ml 301 by decide +kernel) (Nat.le_of_ble_eq_true rfl) (by omega) (Nat.zero_le _) (Nat.zero_le _) ?_
  refine re_ol hE hT hN ⟨by omega, by omega⟩ ⟨by omega, by omega⟩ ?_
  show gm_Wp X LX d _ _ 305 13 _ [gm_vi (N (119 + (l * 7 + 4))), gm_vi (N (119 + (l * 7 + 2))), gm_vr 226] n K _ _ Q
  refine gm_sz (gm_p_load (pc := 13) (i := .aload_n 0) (sr := 2) (j := 0) (by decide +kernel) rfl rfl rfl) ?_
  refine gm_sz (gm_p_load (pc := 14) (i := .iload_n 1) (sr := 0) (j := 1) (by decide +kernel) rfl rfl rfl) ?_
  refine gm_sz (gm_p_const (pc := 15) (i := .iconst 3) (v := gm_vi 3) (by decide +kernel) (by decide +kernel)) ?_
  refine gm_c_virt (k := 226) (ci := 11) (mj := 301) (ix := 82) (pc := 16) (as := [gm_vi l, gm_vi 3]) (st := [gm_vi (N (119 + (l * 7 + 4))), gm_vi (N (119 + (l * 7 + 2))), gm_vr 226]) (d' := d - 1) (bc' := 0) (bs' := 0) (by decide +kernel) (by decide +kernel) (by decide +kernel) (by decide +kernel) (e0k hE (k := 226) (c := 11) (by decide +kernel)).1 (e0k hE (k := 226) (c := 11) (by decide +kernel)).2 (by decide) (by decide +kernel) (show 2 = gm_na 301 by decide +kernel) (fw_c2 fw_si fw_si) (show 3 ≤ gm_ml 301 by decide +kernel) (Nat.le_of_ble_eq_true rfl) (by omega) (Nat.zero_le _) (Nat.zero_le _) ?_
  refine re_ol hE hT hN ⟨by omega, by omega⟩ ⟨by omega, by omega⟩ ?_
  show gm_Wp X LX d _ _ 305 19 _ [gm_vi (N (119 + (l * 7 + 3))), gm_vi (N (119 + (l * 7 + 4))), gm_vi (N (119 + (l * 7 + 2))), gm_vr 226] n K _ _ Q
  refine gm_sz (gm_p_load (pc := 19) (i := .aload_n 0) (sr := 2) (j := 0) (by decide +kernel) rfl rfl rfl) ?_
  refine gm_sz (gm_p_load (pc := 20) (i := .iload_n 1) (sr := 0) (j := 1) (by decide +kernel) rfl rfl rfl) ?_
  refine gm_c_virt (k := 226) (ci := 11) (mj := 303) (ix := 374) (pc := 21) (as := [gm_vi l]) (st := [gm_vi (N (119 + (l * 7 + 3))), gm_vi (N (119 + (l * 7 + 4))), gm_vi (N (119 + (l * 7 + 2))), gm_vr 226]) (d' := d - 1) (bc' := 0) (bs' := 0) (by decide +kernel) (by decide +kernel) (by decide +kernel) (by decide +kernel) (e0k hE (k := 226) (c := 11) (by decide +kernel)).1 (e0k hE (k := 226) (c := 11) (by decide +kernel)).2 (by decide) (by decide +kernel) (show 1 = gm_na 303 by decide +kernel) (fw_c1 fw_si) (show 2 ≤ gm_ml 303 by decide +kernel) (Nat.le_of_ble_eq_true rfl) (by omega) (Nat.zero_le _) (Nat.zero_le _) ?_
  refine re_rk (by omega) hE hT hN ⟨by omega, by omega⟩ ?_
  show gm_Wp X LX d _ _ 305 24 _ [gm_vi (if (N (119 + (l * 7 + 0))) = -1 then (1 : Int) else 0), gm_vi (N (119 + (l * 7 + 3))), gm_vi (N (119 + (l * 7 + 4))), gm_vi (N (119 + (l * 7 + 2))), gm_vr 226] n K _ _ Q
  refine gm_sz (gm_p_load (pc := 24) (i := .iload_n 2) (sr := 0) (j := 2) (by decide +kernel) rfl rfl rfl) ?_
  refine gm_c_virt (k := 226) (ci := 11) (mj := 306) (ix := 377) (pc := 25) (as := [gm_vi (N (119 + (l * 7 + 2))), gm_vi (N (119 + (l * 7 + 4))), gm_vi (N (119 + (l * 7 + 3))), gm_vi (if (N (119 + (l * 7 + 0))) = -1 then (1 : Int) else 0), gm_vi wo]) (st := []) (d' := d - 1) (bc' := 0) (bs' := 0) (by decide +kernel) (by decide +kernel) (by decide +kernel) (by decide +kernel) (e0k hE (k := 226) (c := 11) (by decide +kernel)).1 (e0k hE (k := 226) (c := 11) (by decide +kernel)).2 (by decide) (by decide +kernel) (show 5 = gm_na 306 by decide +kernel) (fw_c5 fw_si fw_si fw_si fw_si fw_si) (show 6 ≤ gm_ml 306 by decide +kernel) (Nat.le_of_ble_eq_true rfl) (by omega) (Nat.zero_le _) (Nat.zero_le _) ?_
  refine re_c306 (lane := N (119 + (l * 7 + 2))) (r0 := N (119 + (l * 7 + 4))) (y0 := N (119 + (l * 7 + 3))) (rk := (if (N (119 + (l * 7 + 0))) = -1 then (1 : Int) else 0)) (wo := wo) (by omega) hE hT hN hfw ⟨by omega, by omega⟩ rk9 hwo9 ⟨by omega, by omega⟩ ⟨by omega, by omega⟩ hI (fun M25 hf25 hI25 hr25 => ?_)
  show gm_Wp X LX d _ _ 305 28 _ [] n K _ _ Q
  have hr25 : rrun N h φ (N (119 + (l * 7 + 2))) (if (N (119 + (l * 7 + 0))) = -1 then (1 : Int) else 0) wo (N (119 + (l * 7 + 3))) (N (119 + (l * 7 + 4))) M25 := hr25
  exact gm_r_void (pc := 28) (by decide +kernel) (by decide +kernel) (hq _ (fr_t fr_0 hf25 (by decide)) hI25 hr25)
theorem re_c304 (hd : 17 ≤ d) (hE : E0 n K R) (hT : TR N h M) (hN : NR N) (hfw : FLR X LX n K R N h FI φ) (hI : FI M) (h1 : 0 ≤ l ∧ l < N 4) (hq : ∀ M2, fr [(226, some 29), (226, some 30), (226, some 26), (226, some 17), (226, some 18), (226, some 19), (226, some 20), (226, some 21), (226, some 22), (226, some 23), (235, none), (233, none), (236, none), (237, none)] M M2 → FI M2 → rrun N h φ ((N (119 + (l * 7 + 2)))) (if (N (119 + (l * 7 + 0))) = -1 then 1 else 0) (-1) ((N (119 + (l * 7 + 3)))) ((N (119 + (l * 7 + 4)))) M2 → Q (.inl (some (gm_vi (M2 226 29)))) n K R M2) : gm_Wp X LX d bc bs 304 0 (gm_ent 304 [gm_vr 226, gm_vi l]) [] n K R M Q := by
  have b4 := hN.2.1.2.2.2.1
  refine gm_sz (gm_p_load (pc := 0) (i := .aload_n 0) (sr := 2) (j := 0) (by decide +kernel) rfl rfl rfl) ?_
  refine gm_sz (gm_p_load (pc := 1) (i := .iload_n 1) (sr := 0) (j := 1) (by decide +kernel) rfl rfl rfl) ?_
  refine gm_sz (gm_p_const (pc := 2) (i := .iconst (-1)) (v := gm_vi (-1)) (by decide +kernel) (by decide +kernel)) ?_
  refine gm_c_virt (k := 226) (ci := 11) (mj := 305) (ix := 381) (pc := 3) (as := [gm_vi l, gm_vi (-1)]) (st := []) (d' := d - 1) (bc' := 0) (bs' := 0) (by decide +kernel) (by decide +kernel) (by decide +kernel) (by decide +kernel) (e0k hE (k := 226) (c := 11) (by decide +kernel)).1 (e0k hE (k := 226) (c := 11) (by decide +kernel)).2 (by decide) (by decide +kernel) (show 2 = gm_na 305 by decide +kernel) (fw_c2 fw_si fw_si) (show 3 ≤ gm_ml 305 by decide +kernel) (Nat.le_of_ble_eq_true rfl) (by omega) (Nat.zero_le _) (Nat.zero_le _) ?_
  refine re_c305 (l := l) (wo := (-1)) (by omega) hE hT hN hfw hI ⟨by omega, by omega⟩ ⟨by decide, by decide⟩ (fun M3 hf3 hI3 hr3 => ?_)
  show gm_Wp X LX d _ _ 304 6 _ [] n K _ _ Q
  have hr3 : rrun N h φ ((N (119 + (l * 7 + 2)))) (if (N (119 + (l * 7 + 0))) = -1 then 1 else 0) (-1) ((N (119 + (l * 7 + 3)))) ((N (119 + (l * 7 + 4)))) M3 := hr3
  refine gm_sz (gm_p_load (pc := 6) (i := .aload_n 0) (sr := 2) (j := 0) (by decide +kernel) rfl rfl rfl) ?_
  refine gm_sz (fw_gi (pc := 7) (ix := 368) (ci := 11) (j := 29) (x := M3 226 29) (by decide +kernel) (e0k hE (k := 226) (c := 11) (by decide +kernel)) (by decide +kernel) (by decide +kernel) rfl) ?_
  exact gm_r_int (pc := 10) (by decide +kernel) (Or.inl (by decide +kernel)) (hq _ (fr_t fr_0 hf3 (by decide)) hI3 hr3)
end RW2
end
/-! 7a06.u0up -/
section
/-! A FUNCTION, ONE NUMBER OF IT OTHERWISE. -/
noncomputable def nup (V : Int → Int) (i v : Int) : Int → Int := fun j => if j = i then v else V j
theorem nup_s {M : gm_M} {V : Int → Int} {k : Nat} {i v : Int} (hV : M k = V) : gm_uM M k i v k = nup V i v := by
  subst hV
  funext j
  unfold gm_uM nup
  by_cases e : j = i
  · rw [if_pos ⟨rfl, e⟩, if_pos e]
  · rw [if_neg (fun hh => e hh.2), if_neg e]
theorem nup_at {V : Int → Int} {i v : Int} : nup V i v i = v := if_pos rfl
theorem nup_ne {V : Int → Int} {i j v : Int} (h : ¬ j = i) : nup V i v j = V j := if_neg h
end
/-! 7a07.c7a -/
section
/-! PLACES OF A STATE: what is written there changes one number of the world. -/
noncomputable def pl (i : Int) : Nat × Int := if i < 15 then (if i = 0 then (0, 0) else if i = 1 then (0, 1) else if i = 2 then (1, 3) else if i = 3 then (5, 3) else if i = 4 then (7, 3) else if i = 5 then (3, 3) else if i = 6 then (9, 3) else if i = 7 then (0, 7) else if i = 9 then (0, 6) else if i = 10 then (0, 2) else if i = 11 then (0, 3) else if i = 12 then (0, 4) else if i = 13 then (0, 5) else if i = 14 then (11, 3) else (0, 9)) else if i < 71 then (2, i - 15) else if i < 95 then (4, i - 71) else if i < 119 then (6, i - 95) else if i < 287 then (8, i - 119) else if i < 323 then (10, i - 287) else (12, i - 323)
noncomputable def ip (q : Nat × Int) : Int := if q.1 = 0 ∧ q.2 = 0 then 0 else if q.1 = 0 ∧ q.2 = 1 then 1 else if q.1 = 1 ∧ q.2 = 3 then 2 else if q.1 = 5 ∧ q.2 = 3 then 3 else if q.1 = 7 ∧ q.2 = 3 then 4 else if q.1 = 3 ∧ q.2 = 3 then 5 else if q.1 = 9 ∧ q.2 = 3 then 6 else if q.1 = 0 ∧ q.2 = 7 then 7 else if q.1 = 0 ∧ q.2 = 6 then 9 else if q.1 = 0 ∧ q.2 = 2 then 10 else if q.1 = 0 ∧ q.2 = 3 then 11 else if q.1 = 0 ∧ q.2 = 4 then 12 else if q.1 = 0 ∧ q.2 = 5 then 13 else if q.1 = 11 ∧ q.2 = 3 then 14 else if q.1 = 2 then q.2 + 15 else if q.1 = 4 then q.2 + 71 else if q.1 = 6 then q.2 + 95 else if q.1 = 8 then q.2 + 119 else if q.1 = 10 then q.2 + 287 else q.2 + 323
theorem pl_cases {i : Int} (h : 0 ≤ i ∧ i < 395 ∧ ¬ i = 8) : i = 0 ∨ i = 1 ∨ i = 2 ∨ i = 3 ∨ i = 4 ∨ i = 5 ∨ i = 6 ∨ i = 7 ∨ i = 9 ∨ i = 10 ∨ i = 11 ∨ i = 12 ∨ i = 13 ∨ i = 14 ∨ (15 ≤ i ∧ i < 71) ∨ (71 ≤ i ∧ i < 95) ∨ (95 ≤ i ∧ i < 119) ∨ (119 ≤ i ∧ i < 287) ∨ (287 ≤ i ∧ i < 323) ∨ (323 ≤ i ∧ i < 395) := by omega
section PL
variable {M : gm_M} {b : Nat} {i j k v : Int}
theorem cs_pl (h : 0 ≤ i ∧ i < 395 ∧ ¬ i = 8) : cs M b i = M (b + (pl i).1) (pl i).2 := by
  rcases pl_cases h with rfl | rfl | rfl | rfl | rfl | rfl | rfl | rfl | rfl | rfl | rfl | rfl | rfl | rfl | h | h | h | h | h | h
  · rfl
  · rfl
  · rfl
  · rfl
  · rfl
  · rfl
  · rfl
  · rfl
  · rfl
  · rfl
  · rfl
  · rfl
  · rfl
  · rfl
  · unfold cs pl
    rw [if_neg (show ¬ i < 0 by omega), if_neg (show ¬ i < 15 by omega), if_neg (show ¬ i < 15 by omega), if_pos (show i < 71 by omega), if_pos (show i < 71 by omega)]
  · unfold cs pl
    rw [if_neg (show ¬ i < 0 by omega), if_neg (show ¬ i < 15 by omega), if_neg (show ¬ i < 15 by omega), if_neg (show ¬ i < 71 by omega), if_neg (show ¬ i < 71 by omega), if_pos (show i < 95 by omega), if_pos (show i < 95 by omega)]
  · unfold cs pl
    rw [if_neg (show ¬ i < 0 by omega), if_neg (show ¬ i < 15 by omega), if_neg (show ¬ i < 15 by omega), if_neg (show ¬ i < 71 by omega), if_neg (show ¬ i < 71 by omega), if_neg (show ¬ i < 95 by omega), if_neg (show ¬ i < 95 by omega), if_pos (show i < 119 by omega), if_pos (show i < 119 by omega)]
  · unfold cs pl
    rw [if_neg (show ¬ i < 0 by omega), if_neg (show ¬ i < 15 by omega), if_neg (show ¬ i < 15 by omega), if_neg (show ¬ i < 71 by omega), if_neg (show ¬ i < 71 by omega), if_neg (show ¬ i < 95 by omega), if_neg (show ¬ i < 95 by omega), if_neg (show ¬ i < 119 by omega), if_neg (show ¬ i < 119 by omega), if_pos (show i < 287 by omega), if_pos (show i < 287 by omega)]
  · unfold cs pl
    rw [if_neg (show ¬ i < 0 by omega), if_neg (show ¬ i < 15 by omega), if_neg (show ¬ i < 15 by omega), if_neg (show ¬ i < 71 by omega), if_neg (show ¬ i < 71 by omega), if_neg (show ¬ i < 95 by omega), if_neg (show ¬ i < 95 by omega), if_neg (show ¬ i < 119 by omega), if_neg (show ¬ i < 119 by omega), if_neg (show ¬ i < 287 by omega), if_neg (show ¬ i < 287 by omega), if_pos (show i < 323 by omega), if_pos (show i < 323 by omega)]
  · unfold cs pl
    rw [if_neg (show ¬ i < 0 by omega), if_neg (show ¬ i < 15 by omega), if_neg (show ¬ i < 15 by omega), if_neg (show ¬ i < 71 by omega), if_neg (show ¬ i < 71 by omega), if_neg (show ¬ i < 95 by omega), if_neg (show ¬ i < 95 by omega), if_neg (show ¬ i < 119 by omega), if_neg (show ¬ i < 119 by omega), if_neg (show ¬ i < 287 by omega), if_neg (show ¬ i < 287 by omega), if_neg (show ¬ i < 323 by omega), if_neg (show ¬ i < 323 by omega), if_pos (show i < 395 by omega)]
theorem cs_no (h : ¬ (0 ≤ i ∧ i < 395 ∧ ¬ i = 8)) : cs M b i = 0 := by
  unfold cs
  by_cases h0 : i < 0
  · rw [if_pos h0]
  · rw [if_neg h0]
    by_cases h8 : i = 8
    · subst h8
      rfl
    · rw [if_neg (show ¬ i < 15 by omega), if_neg (show ¬ i < 71 by omega), if_neg (show ¬ i < 95 by omega), if_neg (show ¬ i < 119 by omega), if_neg (show ¬ i < 287 by omega), if_neg (show ¬ i < 323 by omega), if_neg (show ¬ i < 395 by omega)]
theorem ip_pl (h : 0 ≤ i ∧ i < 395 ∧ ¬ i = 8) : ip (pl i) = i := by
  rcases pl_cases h with rfl | rfl | rfl | rfl | rfl | rfl | rfl | rfl | rfl | rfl | rfl | rfl | rfl | rfl | h | h | h | h | h | h
  · rfl
  · rfl
  · rfl
  · rfl
  · rfl
  · rfl
  · rfl
  · rfl
  · rfl
  · rfl
  · rfl
  · rfl
  · rfl
  · rfl
  · have e : pl i = (2, i - 15) := by
      unfold pl
      rw [if_neg (show ¬ i < 15 by omega), if_pos (show i < 71 by omega)]
    rw [e]
    unfold ip
    dsimp only
    rw [if_neg (by omega), if_neg (by omega), if_neg (by omega), if_neg (by omega), if_neg (by omega), if_neg (by omega), if_neg (by omega), if_neg (by omega), if_neg (by omega), if_neg (by omega), if_neg (by omega), if_neg (by omega), if_neg (by omega), if_neg (by omega), if_pos rfl]
    omega
  · have e : pl i = (4, i - 71) := by
      unfold pl
      rw [if_neg (show ¬ i < 15 by omega), if_neg (show ¬ i < 71 by omega), if_pos (show i < 95 by omega)]
    rw [e]
    unfold ip
    dsimp only
    rw [if_neg (by omega), if_neg (by omega), if_neg (by omega), if_neg (by omega), if_neg (by omega), if_neg (by omega), if_neg (by omega), if_neg (by omega), if_neg (by omega), if_neg (by omega), if_neg (by omega), if_neg (by omega), if_neg (by omega), if_neg (by omega), if_neg (by omega), if_pos rfl]
    omega
  · have e : pl i = (6, i - 95) := by
      unfold pl
      rw [if_neg (show ¬ i < 15 by omega), if_neg (show ¬ i < 71 by omega), if_neg (show ¬ i < 95 by omega), if_pos (show i < 119 by omega)]
    rw [e]
    unfold ip
    dsimp only
    rw [if_neg (by omega), if_neg (by omega), if_neg (by omega), if_neg (by omega), if_neg (by omega), if_neg (by omega), if_neg (by omega), if_neg (by omega), if_neg (by omega), if_neg (by omega), if_neg (by omega), if_neg (by omega), if_neg (by omega), if_neg (by omega), if_neg (by omega), if_neg (by omega), if_pos rfl]
    omega
  · have e : pl i = (8, i - 119) := by
      unfold pl
      rw [if_neg (show ¬ i < 15 by omega), if_neg (show ¬ i < 71 by omega), if_neg (show ¬ i < 95 by omega), if_neg (show ¬ i < 119 by omega), if_pos (show i < 287 by omega)]
    rw [e]
    unfold ip
    dsimp only
    rw [if_neg (by omega), if_neg (by omega), if_neg (by omega), if_neg (by omega), if_neg (by omega), if_neg (by omega), if_neg (by omega), if_neg (by omega), if_neg (by omega), if_neg (by omega), if_neg (by omega), if_neg (by omega), if_neg (by omega), if_neg (by omega), if_neg (by omega), if_neg (by omega), if_neg (by omega), if_pos rfl]
    omega
  · have e : pl i = (10, i - 287) := by
      unfold pl
      rw [if_neg (show ¬ i < 15 by omega), if_neg (show ¬ i < 71 by omega), if_neg (show ¬ i < 95 by omega), if_neg (show ¬ i < 119 by omega), if_neg (show ¬ i < 287 by omega), if_pos (show i < 323 by omega)]
    rw [e]
    unfold ip
    dsimp only
    rw [if_neg (by omega), if_neg (by omega), if_neg (by omega), if_neg (by omega), if_neg (by omega), if_neg (by omega), if_neg (by omega), if_neg (by omega), if_neg (by omega), if_neg (by omega), if_neg (by omega), if_neg (by omega), if_neg (by omega), if_neg (by omega), if_neg (by omega), if_neg (by omega), if_neg (by omega), if_neg (by omega), if_pos rfl]
    omega
  · have e : pl i = (12, i - 323) := by
      unfold pl
      rw [if_neg (show ¬ i < 15 by omega), if_neg (show ¬ i < 71 by omega), if_neg (show ¬ i < 95 by omega), if_neg (show ¬ i < 119 by omega), if_neg (show ¬ i < 287 by omega), if_neg (show ¬ i < 323 by omega)]
    rw [e]
    unfold ip
    dsimp only
    rw [if_neg (by omega), if_neg (by omega), if_neg (by omega), if_neg (by omega), if_neg (by omega), if_neg (by omega), if_neg (by omega), if_neg (by omega), if_neg (by omega), if_neg (by omega), if_neg (by omega), if_neg (by omega), if_neg (by omega), if_neg (by omega), if_neg (by omega), if_neg (by omega), if_neg (by omega), if_neg (by omega), if_neg (by omega)]
    omega
theorem cs_put (hk : 0 ≤ k ∧ k < 395 ∧ ¬ k = 8) : cs (gm_uM M (b + (pl k).1) (pl k).2 v) b = nup (cs M b) k v := by
  funext i
  by_cases hi : 0 ≤ i ∧ i < 395 ∧ ¬ i = 8
  · by_cases e : i = k
    · subst e
      rw [cs_pl hi, nup_at]
      exact uM_at
    · rw [cs_pl hi, nup_ne e, cs_pl hi]
      refine uM_ne (fun hh => e ?_)
      have e1 : pl i = pl k := Prod.ext (by omega) hh.2
      rw [← ip_pl hi, ← ip_pl hk, e1]
  · rw [cs_no hi, nup_ne (fun e => hi (by rw [e]; exact hk)), cs_no hi]
theorem cs_f0 : cs (gm_uM M (b + 0) 0 v) b = nup (cs M b) 0 v := cs_put (k := 0) (by decide)
theorem cs_f1 : cs (gm_uM M (b + 0) 1 v) b = nup (cs M b) 1 v := cs_put (k := 1) (by decide)
theorem cs_f2 : cs (gm_uM M (b + 1) 3 v) b = nup (cs M b) 2 v := cs_put (k := 2) (by decide)
theorem cs_f3 : cs (gm_uM M (b + 5) 3 v) b = nup (cs M b) 3 v := cs_put (k := 3) (by decide)
theorem cs_f4 : cs (gm_uM M (b + 7) 3 v) b = nup (cs M b) 4 v := cs_put (k := 4) (by decide)
theorem cs_f5 : cs (gm_uM M (b + 3) 3 v) b = nup (cs M b) 5 v := cs_put (k := 5) (by decide)
theorem cs_f6 : cs (gm_uM M (b + 9) 3 v) b = nup (cs M b) 6 v := cs_put (k := 6) (by decide)
theorem cs_f7 : cs (gm_uM M (b + 0) 7 v) b = nup (cs M b) 7 v := cs_put (k := 7) (by decide)
theorem cs_f9 : cs (gm_uM M (b + 0) 6 v) b = nup (cs M b) 9 v := cs_put (k := 9) (by decide)
theorem cs_f10 : cs (gm_uM M (b + 0) 2 v) b = nup (cs M b) 10 v := cs_put (k := 10) (by decide)
theorem cs_f11 : cs (gm_uM M (b + 0) 3 v) b = nup (cs M b) 11 v := cs_put (k := 11) (by decide)
theorem cs_f12 : cs (gm_uM M (b + 0) 4 v) b = nup (cs M b) 12 v := cs_put (k := 12) (by decide)
theorem cs_f13 : cs (gm_uM M (b + 0) 5 v) b = nup (cs M b) 13 v := cs_put (k := 13) (by decide)
theorem cs_f14 : cs (gm_uM M (b + 11) 3 v) b = nup (cs M b) 14 v := cs_put (k := 14) (by decide)
theorem cs_pS (h0 : 0 ≤ j) (h1 : j < 56) : cs (gm_uM M (b + 2) j v) b = nup (cs M b) (15 + j) v := by
  have e : pl (15 + j) = (2, j) := by
    unfold pl
    rw [if_neg (show ¬ 15 + j < 15 by omega), if_pos (show 15 + j < 71 by omega), show 15 + j - 15 = j by omega]
  have := cs_put (M := M) (b := b) (k := 15 + j) (v := v) ⟨by omega, by omega, by omega⟩
  rw [e] at this
  exact this
theorem cs_pF (h0 : 0 ≤ j) (h1 : j < 24) : cs (gm_uM M (b + 4) j v) b = nup (cs M b) (71 + j) v := by
  have e : pl (71 + j) = (4, j) := by
    unfold pl
    rw [if_neg (show ¬ 71 + j < 15 by omega), if_neg (show ¬ 71 + j < 71 by omega), if_pos (show 71 + j < 95 by omega), show 71 + j - 71 = j by omega]
  have := cs_put (M := M) (b := b) (k := 71 + j) (v := v) ⟨by omega, by omega, by omega⟩
  rw [e] at this
  exact this
theorem cs_pP (h0 : 0 ≤ j) (h1 : j < 24) : cs (gm_uM M (b + 6) j v) b = nup (cs M b) (95 + j) v := by
  have e : pl (95 + j) = (6, j) := by
    unfold pl
    rw [if_neg (show ¬ 95 + j < 15 by omega), if_neg (show ¬ 95 + j < 71 by omega), if_neg (show ¬ 95 + j < 95 by omega), if_pos (show 95 + j < 119 by omega), show 95 + j - 95 = j by omega]
  have := cs_put (M := M) (b := b) (k := 95 + j) (v := v) ⟨by omega, by omega, by omega⟩
  rw [e] at this
  exact this
theorem cs_pL (h0 : 0 ≤ j) (h1 : j < 168) : cs (gm_uM M (b + 8) j v) b = nup (cs M b) (119 + j) v := by
  have e : pl (119 + j) = (8, j) := by
    unfold pl
    rw [if_neg (show ¬ 119 + j < 15 by omega), if_neg (show ¬ 119 + j < 71 by omega), if_neg (show ¬ 119 + j < 95 by omega), if_neg (show ¬ 119 + j < 119 by omega), if_pos (show 119 + j < 287 by omega), show 119 + j - 119 = j by omega]
  have := cs_put (M := M) (b := b) (k := 119 + j) (v := v) ⟨by omega, by omega, by omega⟩
  rw [e] at this
  exact this
theorem cs_pT (h0 : 0 ≤ j) (h1 : j < 36) : cs (gm_uM M (b + 10) j v) b = nup (cs M b) (287 + j) v := by
  have e : pl (287 + j) = (10, j) := by
    unfold pl
    rw [if_neg (show ¬ 287 + j < 15 by omega), if_neg (show ¬ 287 + j < 71 by omega), if_neg (show ¬ 287 + j < 95 by omega), if_neg (show ¬ 287 + j < 119 by omega), if_neg (show ¬ 287 + j < 287 by omega), if_pos (show 287 + j < 323 by omega), show 287 + j - 287 = j by omega]
  have := cs_put (M := M) (b := b) (k := 287 + j) (v := v) ⟨by omega, by omega, by omega⟩
  rw [e] at this
  exact this
theorem cs_pO (h0 : 0 ≤ j) (h1 : j < 72) : cs (gm_uM M (b + 12) j v) b = nup (cs M b) (323 + j) v := by
  have e : pl (323 + j) = (12, j) := by
    unfold pl
    rw [if_neg (show ¬ 323 + j < 15 by omega), if_neg (show ¬ 323 + j < 71 by omega), if_neg (show ¬ 323 + j < 95 by omega), if_neg (show ¬ 323 + j < 119 by omega), if_neg (show ¬ 323 + j < 287 by omega), if_neg (show ¬ 323 + j < 323 by omega), show 323 + j - 323 = j by omega]
  have := cs_put (M := M) (b := b) (k := 323 + j) (v := v) ⟨by omega, by omega, by omega⟩
  rw [e] at this
  exact this
/-- what is written elsewhere doesn't change the state at b -/
theorem cs_el {c : Nat} (h : c < b ∨ b + 12 < c) : cs (gm_uM M c j v) b = cs M b := by
  funext i
  by_cases hi : 0 ≤ i ∧ i < 395 ∧ ¬ i = 8
  · rw [cs_pl hi, cs_pl hi]
    refine uM_ne (fun hh => ?_)
    have hb : (pl i).1 ≤ 12 := by
      rcases pl_cases hi with rfl | rfl | rfl | rfl | rfl | rfl | rfl | rfl | rfl | rfl | rfl | rfl | rfl | rfl | h | h | h | h | h | h
      · decide
      · decide
      · decide
      · decide
      · decide
      · decide
      · decide
      · decide
      · decide
      · decide
      · decide
      · decide
      · decide
      · decide
      · unfold pl
        rw [if_neg (show ¬ i < 15 by omega), if_pos (show i < 71 by omega)]
        exact Nat.le_of_ble_eq_true rfl
      · unfold pl
        rw [if_neg (show ¬ i < 15 by omega), if_neg (show ¬ i < 71 by omega), if_pos (show i < 95 by omega)]
        exact Nat.le_of_ble_eq_true rfl
      · unfold pl
        rw [if_neg (show ¬ i < 15 by omega), if_neg (show ¬ i < 71 by omega), if_neg (show ¬ i < 95 by omega), if_pos (show i < 119 by omega)]
        exact Nat.le_of_ble_eq_true rfl
      · unfold pl
        rw [if_neg (show ¬ i < 15 by omega), if_neg (show ¬ i < 71 by omega), if_neg (show ¬ i < 95 by omega), if_neg (show ¬ i < 119 by omega), if_pos (show i < 287 by omega)]
        exact Nat.le_of_ble_eq_true rfl
      · unfold pl
        rw [if_neg (show ¬ i < 15 by omega), if_neg (show ¬ i < 71 by omega), if_neg (show ¬ i < 95 by omega), if_neg (show ¬ i < 119 by omega), if_neg (show ¬ i < 287 by omega), if_pos (show i < 323 by omega)]
        exact Nat.le_of_ble_eq_true rfl
      · unfold pl
        rw [if_neg (show ¬ i < 15 by omega), if_neg (show ¬ i < 71 by omega), if_neg (show ¬ i < 95 by omega), if_neg (show ¬ i < 119 by omega), if_neg (show ¬ i < 287 by omega), if_neg (show ¬ i < 323 by omega)]
        exact Nat.le_refl _
    omega
  · rw [cs_no hi, cs_no hi]
end PL
/-- a letter opened by p -/
noncomputable def nopn (N : Int → Int) (l p : Int) : Int → Int := nup (nup (nup (nup (nup (nup N (119 + (l * 7 + 5)) p) (119 + (l * 7 + 6)) (N 9)) 14 (N 14 + 1)) (323 + (N 14 * 3 + 0)) (N 9)) (323 + (N 14 * 3 + 1)) l) (323 + (N 14 * 3 + 2)) p
/-- a year more -/
noncomputable def nyr (N : Int → Int) : Int → Int := nup N 9 (N 9 + 1)
/-- a letter thrown in -/
noncomputable def nthr (N : Int → Int) (f t l r : Int) : Int → Int := nup (nup (nup (nup (nup (nup (nup (nup N 4 (N 4 + 1)) (119 + (N 4 * 7 + 0)) f) (119 + (N 4 * 7 + 1)) t) (119 + (N 4 * 7 + 2)) l) (119 + (N 4 * 7 + 3)) (N 9)) (119 + (N 4 * 7 + 4)) r) (119 + (N 4 * 7 + 5)) (-1)) (119 + (N 4 * 7 + 6)) (-1)
/-- one who watches another lane -/
noncomputable def nwat (N : Int → Int) (p w : Int) : Int → Int := nup N (95 + (p * 3 + 2)) w
theorem cs_op_n {M : gm_M} {N : Int → Int} {l p : Int} (hT : cs M 3 = N) (hl : 0 ≤ l ∧ l < 24) (ho : 0 ≤ N 14 ∧ N 14 < 24) : cs (cs_op M l p) 3 = nopn N l p := by
  have e14 : M 14 3 = N 14 := congrFun hT 14
  have e9 : M 3 6 = N 9 := congrFun hT 9
  unfold cs_op nopn
  rw [e14, e9]
  refine (cs_pO (b := 3) (by omega) (by omega)).trans ?_
  refine congrArg (fun z => nup z _ _) ((cs_pO (b := 3) (by omega) (by omega)).trans ?_)
  refine congrArg (fun z => nup z _ _) ((cs_pO (b := 3) (by omega) (by omega)).trans ?_)
  refine congrArg (fun z => nup z _ _) ((cs_f14 (b := 3)).trans ?_)
  refine congrArg (fun z => nup z _ _) ((cs_pL (b := 3) (by omega) (by omega)).trans ?_)
  refine congrArg (fun z => nup z _ _) ((cs_pL (b := 3) (by omega) (by omega)).trans ?_)
  rw [hT]
theorem cs_th_n {M : gm_M} {N : Int → Int} {f t l r : Int} (hT : cs M 3 = N) (ho : 0 ≤ N 4 ∧ N 4 < 24) : cs (cs_th3 M f t l r) 3 = nthr N f t l r := by
  have e4 : M 10 3 = N 4 := congrFun hT 4
  have e9 : M 3 6 = N 9 := congrFun hT 9
  unfold cs_th3 nthr
  rw [e4, e9]
  refine (cs_pL (b := 3) (by omega) (by omega)).trans ?_
  refine congrArg (fun z => nup z _ _) ((cs_pL (b := 3) (by omega) (by omega)).trans ?_)
  refine congrArg (fun z => nup z _ _) ((cs_pL (b := 3) (by omega) (by omega)).trans ?_)
  refine congrArg (fun z => nup z _ _) ((cs_pL (b := 3) (by omega) (by omega)).trans ?_)
  refine congrArg (fun z => nup z _ _) ((cs_pL (b := 3) (by omega) (by omega)).trans ?_)
  refine congrArg (fun z => nup z _ _) ((cs_pL (b := 3) (by omega) (by omega)).trans ?_)
  refine congrArg (fun z => nup z _ _) ((cs_pL (b := 3) (by omega) (by omega)).trans ?_)
  refine congrArg (fun z => nup z _ _) ((cs_f4 (b := 3)).trans ?_)
  rw [hT]
/-- the reference's world, one number of it written -/
theorem ws_put {W : Int → Int} {k v : Int} (h : 0 ≤ k ∧ k < 395 ∧ ¬ k = 8) : ws (nup W k v) = nup (ws W) k v := by
  funext i
  by_cases e : i = k
  · subst e
    unfold ws
    rw [if_pos h, nup_at, nup_at]
  · unfold ws
    rw [nup_ne e, nup_ne e]
end
/-! 7a08.c9cp -/
section
/-! THE CLASS: a State copied upon another one (laid by wip/core/c9.py). -/
/-- a Rows of a State -/
noncomputable def KR1 (n : Nat) (K : gm_K) (R : gm_R) (b i f len : Nat) : Prop := (((1 ≤ b + i ∧ b + i ≤ n) ∧ (K (b + i)).1 = 2 + 4) ∧ ((1 ≤ b + (i + 1) ∧ b + (i + 1) ≤ n) ∧ K (b + (i + 1)) = (0, len))) ∧ R b (f : Int) = b + i ∧ R (b + i) ((2 : Nat) : Int) = b + (i + 1)
/-- a State at b -/
noncomputable def KS (n : Nat) (K : gm_K) (R : gm_R) (b : Nat) : Prop := ((1 ≤ b ∧ b ≤ n) ∧ (K b).1 = 1 + 4) ∧ KR1 n K R b 1 9 56 ∧ KR1 n K R b 3 10 24 ∧ KR1 n K R b 5 11 24 ∧ KR1 n K R b 7 12 168 ∧ KR1 n K R b 9 13 36 ∧ KR1 n K R b 11 14 72
/-- most of its Rows -/
noncomputable def MX (M : gm_M) (b : Nat) : Prop := M (b + 1) 0 = 8 ∧ M (b + 3) 0 = 8 ∧ M (b + 5) 0 = 8 ∧ M (b + 7) 0 = 24 ∧ M (b + 9) 0 = 6 ∧ M (b + 11) 0 = 24
/-- how many there are -/
noncomputable def SZ (M : gm_M) (b : Nat) : Prop := (0 ≤ M (b + 1) 3 ∧ M (b + 1) 3 ≤ 8) ∧ (0 ≤ M (b + 3) 3 ∧ M (b + 3) 3 ≤ 8) ∧ (0 ≤ M (b + 5) 3 ∧ M (b + 5) 3 ≤ 8) ∧ (0 ≤ M (b + 7) 3 ∧ M (b + 7) 3 ≤ 24) ∧ (0 ≤ M (b + 9) 3 ∧ M (b + 9) 3 ≤ 6) ∧ (0 ≤ M (b + 11) 3 ∧ M (b + 11) 3 ≤ 24)
section CP9
variable {X : Int → Int} {LX d bc bs n : Nat} {K : gm_K} {R : gm_R} {M M2 : gm_M} {Q : gm_Q} {b s c a t r len : Nat} {m z : Int}
theorem cpM_ne {k1 k2 : Nat} {sp dp m j : Int} {x : Nat} (h : ¬ x = k2) : gm_cpM M k1 k2 sp dp m x j = M x j := if_neg (fun hh => h hh.1)
theorem cpM_at {k1 k2 : Nat} {m j : Int} (h0 : 0 ≤ j) (h1 : j < m) : gm_cpM M k1 k2 0 0 m k2 j = M k1 j := by
  unfold gm_cpM
  rw [if_pos ⟨rfl, h0, by omega⟩, show (0 : Int) + (j - 0) = j by omega]
theorem cs_ext (f : ∀ i, 0 ≤ i ∧ i < 395 ∧ ¬ i = 8 → M2 (b + (pl i).1) (pl i).2 = M (s + (pl i).1) (pl i).2) : cs M2 b = cs M s := by
  funext i
  by_cases hi : 0 ≤ i ∧ i < 395 ∧ ¬ i = 8
  · rw [cs_pl hi, cs_pl hi, f i hi]
  · rw [cs_no hi, cs_no hi]
theorem rw_copy (hd : 2 ≤ d) (hk : (1 ≤ c ∧ c ≤ n) ∧ (K c).1 = 2 + 4) (hs : (1 ≤ r ∧ r ≤ n) ∧ (K r).1 = 2 + 4) (ha : (1 ≤ a ∧ a ≤ n) ∧ K a = (0, len)) (ht : (1 ≤ t ∧ t ≤ n) ∧ K t = (0, len)) (hra : R c ((2 : Nat) : Int) = a) (hrt : R r ((2 : Nat) : Int) = t) (hl : len < 2147483648) (hm : M c 0 = m) (hz : M r 3 = z) (hb : 0 ≤ z ∧ z ≤ m ∧ m ≤ 100000) (hq : Q (.inl none) n K R (gm_cpM (gm_uM M c 3 z) t a 0 0 (len : Int))) : gm_Wp X LX d bc bs 58 0 (gm_ent 58 [gm_vr c, gm_vr r]) [] n K R M Q := by
  refine gm_sz (gm_p_load (pc := 0) (i := .aload_n 0) (sr := 2) (j := 0) (by decide +kernel) rfl rfl rfl) ?_
  refine gm_sz (gm_p_load (pc := 1) (i := .aload_n 1) (sr := 2) (j := 1) (by decide +kernel) rfl rfl rfl) ?_
  refine gm_sz (fw_gi (pc := 2) (ix := 9) (ci := 2) (j := 3) (x := z) (by decide +kernel) hs (by decide +kernel) (by decide +kernel) hz) ?_
  refine gm_sz (gm_p_load (pc := 5) (i := .aload_n 0) (sr := 2) (j := 0) (by decide +kernel) rfl rfl rfl) ?_
  refine gm_sz (fw_gi (pc := 6) (ix := 15) (ci := 2) (j := 0) (x := m) (by decide +kernel) hk (by decide +kernel) (by decide +kernel) hm) ?_
  refine gm_sz (gm_p_min (pc := 9) (ix := 25) (x := z) (y := m) (by decide +kernel) (by decide +kernel) (gm_w_id (by omega) (by omega)) (gm_w_id (by omega) (by omega)) (Nat.le_of_ble_eq_true rfl) (by omega)) ?_
  rw [show min z m = z by omega]
  refine gm_sz (fw_pi (pc := 12) (ix := 9) (ci := 2) (j := 3) (M' := gm_uM M c 3 z) (by decide +kernel) hk (by decide +kernel) (by decide +kernel) (by decide +kernel) rfl) ?_
  refine gm_sz (gm_p_load (pc := 15) (i := .aload_n 1) (sr := 2) (j := 1) (by decide +kernel) rfl rfl rfl) ?_
  refine gm_sz (fw_gr (pc := 16) (ix := 21) (ci := 2) (j := 2) (r := t) (by decide +kernel) hs (by decide +kernel) (by decide +kernel) hrt) ?_
  refine gm_sz (gm_p_const (pc := 19) (i := .iconst 0) (v := gm_vi 0) (by decide +kernel) (by decide +kernel)) ?_
  refine gm_sz (gm_p_load (pc := 20) (i := .aload_n 0) (sr := 2) (j := 0) (by decide +kernel) rfl rfl rfl) ?_
  refine gm_sz (fw_gr (pc := 21) (ix := 21) (ci := 2) (j := 2) (r := a) (by decide +kernel) hk (by decide +kernel) (by decide +kernel) hra) ?_
  refine gm_sz (gm_p_const (pc := 24) (i := .iconst 0) (v := gm_vi 0) (by decide +kernel) (by decide +kernel)) ?_
  refine gm_sz (gm_p_load (pc := 25) (i := .aload_n 1) (sr := 2) (j := 1) (by decide +kernel) rfl rfl rfl) ?_
  refine gm_sz (fw_gr (pc := 26) (ix := 21) (ci := 2) (j := 2) (r := t) (by decide +kernel) hs (by decide +kernel) (by decide +kernel) hrt) ?_
  refine gm_sz (fw_al (pc := 29) (k := t) (len := len) (by decide +kernel) ht.1 ht.2 (by decide)) ?_
  refine gm_sz (gm_p_load (pc := 30) (i := .aload_n 0) (sr := 2) (j := 0) (by decide +kernel) rfl rfl rfl) ?_
  refine gm_sz (fw_gr (pc := 31) (ix := 21) (ci := 2) (j := 2) (r := a) (by decide +kernel) hk (by decide +kernel) (by decide +kernel) hra) ?_
  refine gm_sz (fw_al (pc := 34) (k := a) (len := len) (by decide +kernel) ha.1 ha.2 (by decide)) ?_
  refine gm_sz (gm_p_min (pc := 35) (ix := 25) (x := (len : Int)) (y := (len : Int)) (by decide +kernel) (by decide +kernel) (gm_w_id (by omega) (by omega)) (gm_w_id (by omega) (by omega)) (Nat.le_of_ble_eq_true rfl) (by omega)) ?_
  rw [show min (len : Int) (len : Int) = (len : Int) by omega]
  refine gm_sz (gm_p_acopy (pc := 38) (ix := 40) (k1 := t) (k2 := a) (sp := 0) (dp := 0) (m := (len : Int)) (by decide +kernel) (by decide +kernel) ht.1 (by rw [ht.2]) ha.1 (by rw [ha.2]) (by decide) (by decide) (gm_w_id (by omega) (by omega)) (by decide) (by decide) (by omega) (by rw [ht.2]; show 0 + (len : Int) ≤ (len : Int); omega) (by rw [ha.2]; show 0 + (len : Int) ≤ (len : Int); omega) (Nat.le_of_ble_eq_true rfl) (by omega)) ?_
  exact gm_r_void (pc := 41) (by decide +kernel) (by decide +kernel) hq
theorem uR_ne {k x : Nat} {j i : Int} {v : Nat} (h : ¬ (x = k ∧ i = j)) : gm_uR R k j v x i = R x i := by
  unfold gm_uR
  rw [if_neg h]
theorem uR_at {k : Nat} {j : Int} {v : Nat} : gm_uR R k j v k j = v := by
  unfold gm_uR
  rw [if_pos ⟨rfl, rfl⟩]
theorem pl_2 {i : Int} (h : 15 ≤ i ∧ i < 71) : pl i = (2, i - 15) := by
  unfold pl
  rw [if_neg (show ¬ i < 15 by omega), if_pos (show i < 71 by omega)]
theorem pl_4 {i : Int} (h : 71 ≤ i ∧ i < 95) : pl i = (4, i - 71) := by
  unfold pl
  rw [if_neg (show ¬ i < 15 by omega), if_neg (show ¬ i < 71 by omega), if_pos (show i < 95 by omega)]
theorem pl_6 {i : Int} (h : 95 ≤ i ∧ i < 119) : pl i = (6, i - 95) := by
  unfold pl
  rw [if_neg (show ¬ i < 15 by omega), if_neg (show ¬ i < 71 by omega), if_neg (show ¬ i < 95 by omega), if_pos (show i < 119 by omega)]
theorem pl_8 {i : Int} (h : 119 ≤ i ∧ i < 287) : pl i = (8, i - 119) := by
  unfold pl
  rw [if_neg (show ¬ i < 15 by omega), if_neg (show ¬ i < 71 by omega), if_neg (show ¬ i < 95 by omega), if_neg (show ¬ i < 119 by omega), if_pos (show i < 287 by omega)]
theorem pl_10 {i : Int} (h : 287 ≤ i ∧ i < 323) : pl i = (10, i - 287) := by
  unfold pl
  rw [if_neg (show ¬ i < 15 by omega), if_neg (show ¬ i < 71 by omega), if_neg (show ¬ i < 95 by omega), if_neg (show ¬ i < 119 by omega), if_neg (show ¬ i < 287 by omega), if_pos (show i < 323 by omega)]
theorem pl_12 {i : Int} (h : 323 ≤ i ∧ i < 395) : pl i = (12, i - 323) := by
  unfold pl
  rw [if_neg (show ¬ i < 15 by omega), if_neg (show ¬ i < 71 by omega), if_neg (show ¬ i < 95 by omega), if_neg (show ¬ i < 119 by omega), if_neg (show ¬ i < 287 by omega), if_neg (show ¬ i < 323 by omega)]
theorem st_copy (hd : 3 ≤ d) (hb : KS n K R b) (hs : KS n K R s) (hne : b + 12 < s ∨ s + 12 < b) (hmx : MX M b) (hsz : SZ M s) (hq : ∀ M2, (∀ (x : Nat) (j : Int), (x < b ∨ b + 12 < x) → M2 x j = M x j) → (∀ (x : Nat) (j : Int), 0 ≤ j → j < 3 → ((x : Int) = b + 1 ∨ (x : Int) = b + 3 ∨ (x : Int) = b + 5 ∨ (x : Int) = b + 7 ∨ (x : Int) = b + 9 ∨ (x : Int) = b + 11) → M2 x j = M x j) → cs M2 b = cs M s → Q (.inl none) n K (gm_uR R b 8 (R s 8)) M2) : gm_Wp X LX d bc bs 57 0 (gm_ent 57 [gm_vr b, gm_vr s]) [] n K R M Q := by
  obtain ⟨⟨z1, z2⟩, ⟨z3, z4⟩, ⟨z5, z6⟩, ⟨z7, z8⟩, ⟨z9, z10⟩, z11, z12⟩ := id hsz
  refine gm_sz (gm_p_load (pc := 0) (i := .aload_n 0) (sr := 2) (j := 0) (by decide +kernel) rfl rfl rfl) ?_
  refine gm_sz (gm_p_load (pc := 1) (i := .aload_n 1) (sr := 2) (j := 1) (by decide +kernel) rfl rfl rfl) ?_
  refine gm_sz (fw_gi (pc := 2) (ix := 9) (ci := 1) (j := 0) (x := M s 0) (by decide +kernel) hs.1 (by decide +kernel) (by decide +kernel) rfl) ?_
  refine gm_sz (fw_pi (pc := 5) (ix := 9) (ci := 1) (j := 0) (M' := gm_uM M b 0 (M s 0)) (by decide +kernel) hb.1 (by decide +kernel) (by decide +kernel) (by decide +kernel) rfl) ?_
  refine gm_sz (gm_p_load (pc := 8) (i := .aload_n 0) (sr := 2) (j := 0) (by decide +kernel) rfl rfl rfl) ?_
  refine gm_sz (gm_p_load (pc := 9) (i := .aload_n 1) (sr := 2) (j := 1) (by decide +kernel) rfl rfl rfl) ?_
  refine gm_sz (fw_gi (pc := 10) (ix := 15) (ci := 1) (j := 1) (x := M s 1) (by decide +kernel) hs.1 (by decide +kernel) (by decide +kernel) (uM_ne (by omega))) ?_
  refine gm_sz (fw_pi (pc := 13) (ix := 15) (ci := 1) (j := 1) (M' := gm_uM (gm_uM M b 0 (M s 0)) b 1 (M s 1)) (by decide +kernel) hb.1 (by decide +kernel) (by decide +kernel) (by decide +kernel) rfl) ?_
  refine gm_sz (gm_p_load (pc := 16) (i := .aload_n 0) (sr := 2) (j := 0) (by decide +kernel) rfl rfl rfl) ?_
  refine gm_sz (gm_p_load (pc := 17) (i := .aload_n 1) (sr := 2) (j := 1) (by decide +kernel) rfl rfl rfl) ?_
  refine gm_sz (fw_gi (pc := 18) (ix := 18) (ci := 1) (j := 2) (x := M s 2) (by decide +kernel) hs.1 (by decide +kernel) (by decide +kernel) ((uM_ne (by omega)).trans (uM_ne (by omega)))) ?_
  refine gm_sz (fw_pi (pc := 21) (ix := 18) (ci := 1) (j := 2) (M' := gm_uM (gm_uM (gm_uM M b 0 (M s 0)) b 1 (M s 1)) b 2 (M s 2)) (by decide +kernel) hb.1 (by decide +kernel) (by decide +kernel) (by decide +kernel) rfl) ?_
  refine gm_sz (gm_p_load (pc := 24) (i := .aload_n 0) (sr := 2) (j := 0) (by decide +kernel) rfl rfl rfl) ?_
  refine gm_sz (gm_p_load (pc := 25) (i := .aload_n 1) (sr := 2) (j := 1) (by decide +kernel) rfl rfl rfl) ?_
  refine gm_sz (fw_gi (pc := 26) (ix := 21) (ci := 1) (j := 3) (x := M s 3) (by decide +kernel) hs.1 (by decide +kernel) (by decide +kernel) ((uM_ne (by omega)).trans ((uM_ne (by omega)).trans (uM_ne (by omega))))) ?_
  refine gm_sz (fw_pi (pc := 29) (ix := 21) (ci := 1) (j := 3) (M' := gm_uM (gm_uM (gm_uM (gm_uM M b 0 (M s 0)) b 1 (M s 1)) b 2 (M s 2)) b 3 (M s 3)) (by decide +kernel) hb.1 (by decide +kernel) (by decide +kernel) (by decide +kernel) rfl) ?_
  refine gm_sz (gm_p_load (pc := 32) (i := .aload_n 0) (sr := 2) (j := 0) (by decide +kernel) rfl rfl rfl) ?_
  refine gm_sz (gm_p_load (pc := 33) (i := .aload_n 1) (sr := 2) (j := 1) (by decide +kernel) rfl rfl rfl) ?_
  refine gm_sz (fw_gi (pc := 34) (ix := 24) (ci := 1) (j := 4) (x := M s 4) (by decide +kernel) hs.1 (by decide +kernel) (by decide +kernel) ((uM_ne (by omega)).trans ((uM_ne (by omega)).trans ((uM_ne (by omega)).trans (uM_ne (by omega)))))) ?_
  refine gm_sz (fw_pi (pc := 37) (ix := 24) (ci := 1) (j := 4) (M' := gm_uM (gm_uM (gm_uM (gm_uM (gm_uM M b 0 (M s 0)) b 1 (M s 1)) b 2 (M s 2)) b 3 (M s 3)) b 4 (M s 4)) (by decide +kernel) hb.1 (by decide +kernel) (by decide +kernel) (by decide +kernel) rfl) ?_
  refine gm_sz (gm_p_load (pc := 40) (i := .aload_n 0) (sr := 2) (j := 0) (by decide +kernel) rfl rfl rfl) ?_
  refine gm_sz (gm_p_load (pc := 41) (i := .aload_n 1) (sr := 2) (j := 1) (by decide +kernel) rfl rfl rfl) ?_
  refine gm_sz (fw_gi (pc := 42) (ix := 27) (ci := 1) (j := 5) (x := M s 5) (by decide +kernel) hs.1 (by decide +kernel) (by decide +kernel) ((uM_ne (by omega)).trans ((uM_ne (by omega)).trans ((uM_ne (by omega)).trans ((uM_ne (by omega)).trans (uM_ne (by omega))))))) ?_
  refine gm_sz (fw_pi (pc := 45) (ix := 27) (ci := 1) (j := 5) (M' := gm_uM (gm_uM (gm_uM (gm_uM (gm_uM (gm_uM M b 0 (M s 0)) b 1 (M s 1)) b 2 (M s 2)) b 3 (M s 3)) b 4 (M s 4)) b 5 (M s 5)) (by decide +kernel) hb.1 (by decide +kernel) (by decide +kernel) (by decide +kernel) rfl) ?_
  refine gm_sz (gm_p_load (pc := 48) (i := .aload_n 0) (sr := 2) (j := 0) (by decide +kernel) rfl rfl rfl) ?_
  refine gm_sz (gm_p_load (pc := 49) (i := .aload_n 1) (sr := 2) (j := 1) (by decide +kernel) rfl rfl rfl) ?_
  refine gm_sz (fw_gi (pc := 50) (ix := 30) (ci := 1) (j := 6) (x := M s 6) (by decide +kernel) hs.1 (by decide +kernel) (by decide +kernel) ((uM_ne (by omega)).trans ((uM_ne (by omega)).trans ((uM_ne (by omega)).trans ((uM_ne (by omega)).trans ((uM_ne (by omega)).trans (uM_ne (by omega)))))))) ?_
  refine gm_sz (fw_pi (pc := 53) (ix := 30) (ci := 1) (j := 6) (M' := gm_uM (gm_uM (gm_uM (gm_uM (gm_uM (gm_uM (gm_uM M b 0 (M s 0)) b 1 (M s 1)) b 2 (M s 2)) b 3 (M s 3)) b 4 (M s 4)) b 5 (M s 5)) b 6 (M s 6)) (by decide +kernel) hb.1 (by decide +kernel) (by decide +kernel) (by decide +kernel) rfl) ?_
  refine gm_sz (gm_p_load (pc := 56) (i := .aload_n 0) (sr := 2) (j := 0) (by decide +kernel) rfl rfl rfl) ?_
  refine gm_sz (gm_p_load (pc := 57) (i := .aload_n 1) (sr := 2) (j := 1) (by decide +kernel) rfl rfl rfl) ?_
  refine gm_sz (fw_gi (pc := 58) (ix := 33) (ci := 1) (j := 7) (x := M s 7) (by decide +kernel) hs.1 (by decide +kernel) (by decide +kernel) ((uM_ne (by omega)).trans ((uM_ne (by omega)).trans ((uM_ne (by omega)).trans ((uM_ne (by omega)).trans ((uM_ne (by omega)).trans ((uM_ne (by omega)).trans (uM_ne (by omega))))))))) ?_
  refine gm_sz (fw_pi (pc := 61) (ix := 33) (ci := 1) (j := 7) (M' := gm_uM (gm_uM (gm_uM (gm_uM (gm_uM (gm_uM (gm_uM (gm_uM M b 0 (M s 0)) b 1 (M s 1)) b 2 (M s 2)) b 3 (M s 3)) b 4 (M s 4)) b 5 (M s 5)) b 6 (M s 6)) b 7 (M s 7)) (by decide +kernel) hb.1 (by decide +kernel) (by decide +kernel) (by decide +kernel) rfl) ?_
  refine gm_sz (gm_p_load (pc := 64) (i := .aload_n 0) (sr := 2) (j := 0) (by decide +kernel) rfl rfl rfl) ?_
  refine gm_sz (gm_p_load (pc := 65) (i := .aload_n 1) (sr := 2) (j := 1) (by decide +kernel) rfl rfl rfl) ?_
  refine gm_sz (fw_gr (pc := 66) (ix := 36) (ci := 1) (j := 8) (r := (R s 8)) (by decide +kernel) hs.1 (by decide +kernel) (by decide +kernel) rfl) ?_
  refine gm_sz (gm_p_putr (pc := 69) (ix := 36) (ci := 1) (j := 8) (by decide +kernel) hb.1.1 hb.1.2 (by decide +kernel) (by decide +kernel) (by decide +kernel)) ?_
  refine gm_sz (gm_p_load (pc := 72) (i := .aload_n 0) (sr := 2) (j := 0) (by decide +kernel) rfl rfl rfl) ?_
  refine gm_sz (fw_gr (pc := 73) (ix := 45) (ci := 1) (j := 9) (r := b + 1) (by decide +kernel) hb.1 (by decide +kernel) (by decide +kernel) ((uR_ne (by omega)).trans hb.2.1.2.1)) ?_
  refine gm_sz (gm_p_load (pc := 76) (i := .aload_n 1) (sr := 2) (j := 1) (by decide +kernel) rfl rfl rfl) ?_
  refine gm_sz (fw_gr (pc := 77) (ix := 45) (ci := 1) (j := 9) (r := s + 1) (by decide +kernel) hs.1 (by decide +kernel) (by decide +kernel) ((uR_ne (by omega)).trans hs.2.1.2.1)) ?_
  refine gm_c_virt (k := b + 1) (ci := 2) (mj := 58) (ix := 64) (pc := 80) (as := [gm_vr (s + 1)]) (st := []) (d' := d - 1) (bc' := 0) (bs' := 0) (by decide +kernel) (by decide +kernel) (by decide +kernel) (by decide +kernel) hb.2.1.1.1.1 hb.2.1.1.1.2 (by decide) (by decide +kernel) (show 1 = gm_na 58 by decide +kernel) (fw_c1 fw_sr) (show 2 ≤ gm_ml 58 by decide +kernel) (Nat.le_of_ble_eq_true rfl) (by omega) (Nat.zero_le _) (Nat.zero_le _) ?_
  refine rw_copy (m := 8) (z := M (s + 1) 3) (by omega) hb.2.1.1.1 hs.2.1.1.1 hb.2.1.1.2 hs.2.1.1.2 ((uR_ne (by omega)).trans hb.2.1.2.2) ((uR_ne (by omega)).trans hs.2.1.2.2) (by decide) ((uM_ne (by omega)).trans ((uM_ne (by omega)).trans ((uM_ne (by omega)).trans ((uM_ne (by omega)).trans ((uM_ne (by omega)).trans ((uM_ne (by omega)).trans ((uM_ne (by omega)).trans ((uM_ne (by omega)).trans hmx.1)))))))) ((uM_ne (by omega)).trans ((uM_ne (by omega)).trans ((uM_ne (by omega)).trans ((uM_ne (by omega)).trans ((uM_ne (by omega)).trans ((uM_ne (by omega)).trans ((uM_ne (by omega)).trans (uM_ne (by omega))))))))) ⟨by omega, by omega, by omega⟩ ?_
  show gm_Wp X LX d _ _ 57 83 _ [] n K _ _ Q
  refine gm_sz (gm_p_load (pc := 83) (i := .aload_n 0) (sr := 2) (j := 0) (by decide +kernel) rfl rfl rfl) ?_
  refine gm_sz (fw_gr (pc := 84) (ix := 49) (ci := 1) (j := 10) (r := b + 3) (by decide +kernel) hb.1 (by decide +kernel) (by decide +kernel) ((uR_ne (by omega)).trans hb.2.2.1.2.1)) ?_
  refine gm_sz (gm_p_load (pc := 87) (i := .aload_n 1) (sr := 2) (j := 1) (by decide +kernel) rfl rfl rfl) ?_
  refine gm_sz (fw_gr (pc := 88) (ix := 49) (ci := 1) (j := 10) (r := s + 3) (by decide +kernel) hs.1 (by decide +kernel) (by decide +kernel) ((uR_ne (by omega)).trans hs.2.2.1.2.1)) ?_
  refine gm_c_virt (k := b + 3) (ci := 2) (mj := 58) (ix := 64) (pc := 91) (as := [gm_vr (s + 3)]) (st := []) (d' := d - 1) (bc' := 0) (bs' := 0) (by decide +kernel) (by decide +kernel) (by decide +kernel) (by decide +kernel) hb.2.2.1.1.1.1 hb.2.2.1.1.1.2 (by decide) (by decide +kernel) (show 1 = gm_na 58 by decide +kernel) (fw_c1 fw_sr) (show 2 ≤ gm_ml 58 by decide +kernel) (Nat.le_of_ble_eq_true rfl) (by omega) (Nat.zero_le _) (Nat.zero_le _) ?_
  refine rw_copy (m := 8) (z := M (s + 3) 3) (by omega) hb.2.2.1.1.1 hs.2.2.1.1.1 hb.2.2.1.1.2 hs.2.2.1.1.2 ((uR_ne (by omega)).trans hb.2.2.1.2.2) ((uR_ne (by omega)).trans hs.2.2.1.2.2) (by decide) ((((cpM_ne (by omega)).trans (uM_ne (by omega)))).trans ((uM_ne (by omega)).trans ((uM_ne (by omega)).trans ((uM_ne (by omega)).trans ((uM_ne (by omega)).trans ((uM_ne (by omega)).trans ((uM_ne (by omega)).trans ((uM_ne (by omega)).trans ((uM_ne (by omega)).trans hmx.2.1))))))))) ((((cpM_ne (by omega)).trans (uM_ne (by omega)))).trans ((uM_ne (by omega)).trans ((uM_ne (by omega)).trans ((uM_ne (by omega)).trans ((uM_ne (by omega)).trans ((uM_ne (by omega)).trans ((uM_ne (by omega)).trans ((uM_ne (by omega)).trans (uM_ne (by omega)))))))))) ⟨by omega, by omega, by omega⟩ ?_
  show gm_Wp X LX d _ _ 57 94 _ [] n K _ _ Q
  refine gm_sz (gm_p_load (pc := 94) (i := .aload_n 0) (sr := 2) (j := 0) (by decide +kernel) rfl rfl rfl) ?_
  refine gm_sz (fw_gr (pc := 95) (ix := 52) (ci := 1) (j := 11) (r := b + 5) (by decide +kernel) hb.1 (by decide +kernel) (by decide +kernel) ((uR_ne (by omega)).trans hb.2.2.2.1.2.1)) ?_
  refine gm_sz (gm_p_load (pc := 98) (i := .aload_n 1) (sr := 2) (j := 1) (by decide +kernel) rfl rfl rfl) ?_
  refine gm_sz (fw_gr (pc := 99) (ix := 52) (ci := 1) (j := 11) (r := s + 5) (by decide +kernel) hs.1 (by decide +kernel) (by decide +kernel) ((uR_ne (by omega)).trans hs.2.2.2.1.2.1)) ?_
  refine gm_c_virt (k := b + 5) (ci := 2) (mj := 58) (ix := 64) (pc := 102) (as := [gm_vr (s + 5)]) (st := []) (d' := d - 1) (bc' := 0) (bs' := 0) (by decide +kernel) (by decide +kernel) (by decide +kernel) (by decide +kernel) hb.2.2.2.1.1.1.1 hb.2.2.2.1.1.1.2 (by decide) (by decide +kernel) (show 1 = gm_na 58 by decide +kernel) (fw_c1 fw_sr) (show 2 ≤ gm_ml 58 by decide +kernel) (Nat.le_of_ble_eq_true rfl) (by omega) (Nat.zero_le _) (Nat.zero_le _) ?_
  refine rw_copy (m := 8) (z := M (s + 5) 3) (by omega) hb.2.2.2.1.1.1 hs.2.2.2.1.1.1 hb.2.2.2.1.1.2 hs.2.2.2.1.1.2 ((uR_ne (by omega)).trans hb.2.2.2.1.2.2) ((uR_ne (by omega)).trans hs.2.2.2.1.2.2) (by decide) ((((cpM_ne (by omega)).trans (uM_ne (by omega)))).trans ((((cpM_ne (by omega)).trans (uM_ne (by omega)))).trans ((uM_ne (by omega)).trans ((uM_ne (by omega)).trans ((uM_ne (by omega)).trans ((uM_ne (by omega)).trans ((uM_ne (by omega)).trans ((uM_ne (by omega)).trans ((uM_ne (by omega)).trans ((uM_ne (by omega)).trans hmx.2.2.1)))))))))) ((((cpM_ne (by omega)).trans (uM_ne (by omega)))).trans ((((cpM_ne (by omega)).trans (uM_ne (by omega)))).trans ((uM_ne (by omega)).trans ((uM_ne (by omega)).trans ((uM_ne (by omega)).trans ((uM_ne (by omega)).trans ((uM_ne (by omega)).trans ((uM_ne (by omega)).trans ((uM_ne (by omega)).trans (uM_ne (by omega))))))))))) ⟨by omega, by omega, by omega⟩ ?_
  show gm_Wp X LX d _ _ 57 105 _ [] n K _ _ Q
  refine gm_sz (gm_p_load (pc := 105) (i := .aload_n 0) (sr := 2) (j := 0) (by decide +kernel) rfl rfl rfl) ?_
  refine gm_sz (fw_gr (pc := 106) (ix := 55) (ci := 1) (j := 12) (r := b + 7) (by decide +kernel) hb.1 (by decide +kernel) (by decide +kernel) ((uR_ne (by omega)).trans hb.2.2.2.2.1.2.1)) ?_
  refine gm_sz (gm_p_load (pc := 109) (i := .aload_n 1) (sr := 2) (j := 1) (by decide +kernel) rfl rfl rfl) ?_
  refine gm_sz (fw_gr (pc := 110) (ix := 55) (ci := 1) (j := 12) (r := s + 7) (by decide +kernel) hs.1 (by decide +kernel) (by decide +kernel) ((uR_ne (by omega)).trans hs.2.2.2.2.1.2.1)) ?_
  refine gm_c_virt (k := b + 7) (ci := 2) (mj := 58) (ix := 64) (pc := 113) (as := [gm_vr (s + 7)]) (st := []) (d' := d - 1) (bc' := 0) (bs' := 0) (by decide +kernel) (by decide +kernel) (by decide +kernel) (by decide +kernel) hb.2.2.2.2.1.1.1.1 hb.2.2.2.2.1.1.1.2 (by decide) (by decide +kernel) (show 1 = gm_na 58 by decide +kernel) (fw_c1 fw_sr) (show 2 ≤ gm_ml 58 by decide +kernel) (Nat.le_of_ble_eq_true rfl) (by omega) (Nat.zero_le _) (Nat.zero_le _) ?_
  refine rw_copy (m := 24) (z := M (s + 7) 3) (by omega) hb.2.2.2.2.1.1.1 hs.2.2.2.2.1.1.1 hb.2.2.2.2.1.1.2 hs.2.2.2.2.1.1.2 ((uR_ne (by omega)).trans hb.2.2.2.2.1.2.2) ((uR_ne (by omega)).trans hs.2.2.2.2.1.2.2) (by decide) ((((cpM_ne (by omega)).trans (uM_ne (by omega)))).trans ((((cpM_ne (by omega)).trans (uM_ne (by omega)))).trans ((((cpM_ne (by omega)).trans (uM_ne (by omega)))).trans ((uM_ne (by omega)).trans ((uM_ne (by omega)).trans ((uM_ne (by omega)).trans ((uM_ne (by omega)).trans ((uM_ne (by omega)).trans ((uM_ne (by omega)).trans ((uM_ne (by omega)).trans ((uM_ne (by omega)).trans hmx.2.2.2.1))))))))))) ((((cpM_ne (by omega)).trans (uM_ne (by omega)))).trans ((((cpM_ne (by omega)).trans (uM_ne (by omega)))).trans ((((cpM_ne (by omega)).trans (uM_ne (by omega)))).trans ((uM_ne (by omega)).trans ((uM_ne (by omega)).trans ((uM_ne (by omega)).trans ((uM_ne (by omega)).trans ((uM_ne (by omega)).trans ((uM_ne (by omega)).trans ((uM_ne (by omega)).trans (uM_ne (by omega)))))))))))) ⟨by omega, by omega, by omega⟩ ?_
  show gm_Wp X LX d _ _ 57 116 _ [] n K _ _ Q
  refine gm_sz (gm_p_load (pc := 116) (i := .aload_n 0) (sr := 2) (j := 0) (by decide +kernel) rfl rfl rfl) ?_
  refine gm_sz (fw_gr (pc := 117) (ix := 58) (ci := 1) (j := 13) (r := b + 9) (by decide +kernel) hb.1 (by decide +kernel) (by decide +kernel) ((uR_ne (by omega)).trans hb.2.2.2.2.2.1.2.1)) ?_
  refine gm_sz (gm_p_load (pc := 120) (i := .aload_n 1) (sr := 2) (j := 1) (by decide +kernel) rfl rfl rfl) ?_
  refine gm_sz (fw_gr (pc := 121) (ix := 58) (ci := 1) (j := 13) (r := s + 9) (by decide +kernel) hs.1 (by decide +kernel) (by decide +kernel) ((uR_ne (by omega)).trans hs.2.2.2.2.2.1.2.1)) ?_
  refine gm_c_virt (k := b + 9) (ci := 2) (mj := 58) (ix := 64) (pc := 124) (as := [gm_vr (s + 9)]) (st := []) (d' := d - 1) (bc' := 0) (bs' := 0) (by decide +kernel) (by decide +kernel) (by decide +kernel) (by decide +kernel) hb.2.2.2.2.2.1.1.1.1 hb.2.2.2.2.2.1.1.1.2 (by decide) (by decide +kernel) (show 1 = gm_na 58 by decide +kernel) (fw_c1 fw_sr) (show 2 ≤ gm_ml 58 by decide +kernel) (Nat.le_of_ble_eq_true rfl) (by omega) (Nat.zero_le _) (Nat.zero_le _) ?_
  refine rw_copy (m := 6) (z := M (s + 9) 3) (by omega) hb.2.2.2.2.2.1.1.1 hs.2.2.2.2.2.1.1.1 hb.2.2.2.2.2.1.1.2 hs.2.2.2.2.2.1.1.2 ((uR_ne (by omega)).trans hb.2.2.2.2.2.1.2.2) ((uR_ne (by omega)).trans hs.2.2.2.2.2.1.2.2) (by decide) ((((cpM_ne (by omega)).trans (uM_ne (by omega)))).trans ((((cpM_ne (by omega)).trans (uM_ne (by omega)))).trans ((((cpM_ne (by omega)).trans (uM_ne (by omega)))).trans ((((cpM_ne (by omega)).trans (uM_ne (by omega)))).trans ((uM_ne (by omega)).trans ((uM_ne (by omega)).trans ((uM_ne (by omega)).trans ((uM_ne (by omega)).trans ((uM_ne (by omega)).trans ((uM_ne (by omega)).trans ((uM_ne (by omega)).trans ((uM_ne (by omega)).trans hmx.2.2.2.2.1)))))))))))) ((((cpM_ne (by omega)).trans (uM_ne (by omega)))).trans ((((cpM_ne (by omega)).trans (uM_ne (by omega)))).trans ((((cpM_ne (by omega)).trans (uM_ne (by omega)))).trans ((((cpM_ne (by omega)).trans (uM_ne (by omega)))).trans ((uM_ne (by omega)).trans ((uM_ne (by omega)).trans ((uM_ne (by omega)).trans ((uM_ne (by omega)).trans ((uM_ne (by omega)).trans ((uM_ne (by omega)).trans ((uM_ne (by omega)).trans (uM_ne (by omega))))))))))))) ⟨by omega, by omega, by omega⟩ ?_
  show gm_Wp X LX d _ _ 57 127 _ [] n K _ _ Q
  refine gm_sz (gm_p_load (pc := 127) (i := .aload_n 0) (sr := 2) (j := 0) (by decide +kernel) rfl rfl rfl) ?_
  refine gm_sz (fw_gr (pc := 128) (ix := 61) (ci := 1) (j := 14) (r := b + 11) (by decide +kernel) hb.1 (by decide +kernel) (by decide +kernel) ((uR_ne (by omega)).trans hb.2.2.2.2.2.2.2.1)) ?_
  refine gm_sz (gm_p_load (pc := 131) (i := .aload_n 1) (sr := 2) (j := 1) (by decide +kernel) rfl rfl rfl) ?_
  refine gm_sz (fw_gr (pc := 132) (ix := 61) (ci := 1) (j := 14) (r := s + 11) (by decide +kernel) hs.1 (by decide +kernel) (by decide +kernel) ((uR_ne (by omega)).trans hs.2.2.2.2.2.2.2.1)) ?_
  refine gm_c_virt (k := b + 11) (ci := 2) (mj := 58) (ix := 64) (pc := 135) (as := [gm_vr (s + 11)]) (st := []) (d' := d - 1) (bc' := 0) (bs' := 0) (by decide +kernel) (by decide +kernel) (by decide +kernel) (by decide +kernel) hb.2.2.2.2.2.2.1.1.1 hb.2.2.2.2.2.2.1.1.2 (by decide) (by decide +kernel) (show 1 = gm_na 58 by decide +kernel) (fw_c1 fw_sr) (show 2 ≤ gm_ml 58 by decide +kernel) (Nat.le_of_ble_eq_true rfl) (by omega) (Nat.zero_le _) (Nat.zero_le _) ?_
  refine rw_copy (m := 24) (z := M (s + 11) 3) (by omega) hb.2.2.2.2.2.2.1.1 hs.2.2.2.2.2.2.1.1 hb.2.2.2.2.2.2.1.2 hs.2.2.2.2.2.2.1.2 ((uR_ne (by omega)).trans hb.2.2.2.2.2.2.2.2) ((uR_ne (by omega)).trans hs.2.2.2.2.2.2.2.2) (by decide) ((((cpM_ne (by omega)).trans (uM_ne (by omega)))).trans ((((cpM_ne (by omega)).trans (uM_ne (by omega)))).trans ((((cpM_ne (by omega)).trans (uM_ne (by omega)))).trans ((((cpM_ne (by omega)).trans (uM_ne (by omega)))).trans ((((cpM_ne (by omega)).trans (uM_ne (by omega)))).trans ((uM_ne (by omega)).trans ((uM_ne (by omega)).trans ((uM_ne (by omega)).trans ((uM_ne (by omega)).trans ((uM_ne (by omega)).trans ((uM_ne (by omega)).trans ((uM_ne (by omega)).trans ((uM_ne (by omega)).trans hmx.2.2.2.2.2))))))))))))) ((((cpM_ne (by omega)).trans (uM_ne (by omega)))).trans ((((cpM_ne (by omega)).trans (uM_ne (by omega)))).trans ((((cpM_ne (by omega)).trans (uM_ne (by omega)))).trans ((((cpM_ne (by omega)).trans (uM_ne (by omega)))).trans ((((cpM_ne (by omega)).trans (uM_ne (by omega)))).trans ((uM_ne (by omega)).trans ((uM_ne (by omega)).trans ((uM_ne (by omega)).trans ((uM_ne (by omega)).trans ((uM_ne (by omega)).trans ((uM_ne (by omega)).trans ((uM_ne (by omega)).trans (uM_ne (by omega)))))))))))))) ⟨by omega, by omega, by omega⟩ ?_
  show gm_Wp X LX d _ _ 57 138 _ [] n K _ _ Q
  refine gm_r_void (pc := 138) (by decide +kernel) (by decide +kernel) (hq (gm_cpM (gm_uM (gm_cpM (gm_uM (gm_cpM (gm_uM (gm_cpM (gm_uM (gm_cpM (gm_uM (gm_cpM (gm_uM (gm_uM (gm_uM (gm_uM (gm_uM (gm_uM (gm_uM (gm_uM (gm_uM M b 0 (M s 0)) b 1 (M s 1)) b 2 (M s 2)) b 3 (M s 3)) b 4 (M s 4)) b 5 (M s 5)) b 6 (M s 6)) b 7 (M s 7)) (b + 1) 3 (M (s + 1) 3)) (s + 2) (b + 2) 0 0 ((56 : Nat) : Int)) (b + 3) 3 (M (s + 3) 3)) (s + 4) (b + 4) 0 0 ((24 : Nat) : Int)) (b + 5) 3 (M (s + 5) 3)) (s + 6) (b + 6) 0 0 ((24 : Nat) : Int)) (b + 7) 3 (M (s + 7) 3)) (s + 8) (b + 8) 0 0 ((168 : Nat) : Int)) (b + 9) 3 (M (s + 9) 3)) (s + 10) (b + 10) 0 0 ((36 : Nat) : Int)) (b + 11) 3 (M (s + 11) 3)) (s + 12) (b + 12) 0 0 ((72 : Nat) : Int)) (fun x j hx => ?_) (fun x j j0 j1 hx => ?_) (cs_ext (fun i hi => ?_)))
  · exact ((((cpM_ne (by omega)).trans (uM_ne (by omega)))).trans ((((cpM_ne (by omega)).trans (uM_ne (by omega)))).trans ((((cpM_ne (by omega)).trans (uM_ne (by omega)))).trans ((((cpM_ne (by omega)).trans (uM_ne (by omega)))).trans ((((cpM_ne (by omega)).trans (uM_ne (by omega)))).trans ((((cpM_ne (by omega)).trans (uM_ne (by omega)))).trans ((uM_ne (by omega)).trans ((uM_ne (by omega)).trans ((uM_ne (by omega)).trans ((uM_ne (by omega)).trans ((uM_ne (by omega)).trans ((uM_ne (by omega)).trans ((uM_ne (by omega)).trans ((uM_ne (by omega)).trans rfl))))))))))))))
  · exact ((((cpM_ne (by omega)).trans (uM_ne (by omega)))).trans ((((cpM_ne (by omega)).trans (uM_ne (by omega)))).trans ((((cpM_ne (by omega)).trans (uM_ne (by omega)))).trans ((((cpM_ne (by omega)).trans (uM_ne (by omega)))).trans ((((cpM_ne (by omega)).trans (uM_ne (by omega)))).trans ((((cpM_ne (by omega)).trans (uM_ne (by omega)))).trans ((uM_ne (by omega)).trans ((uM_ne (by omega)).trans ((uM_ne (by omega)).trans ((uM_ne (by omega)).trans ((uM_ne (by omega)).trans ((uM_ne (by omega)).trans ((uM_ne (by omega)).trans ((uM_ne (by omega)).trans rfl))))))))))))))
  · rcases pl_cases hi with rfl | rfl | rfl | rfl | rfl | rfl | rfl | rfl | rfl | rfl | rfl | rfl | rfl | rfl | h | h | h | h | h | h
    · show (gm_cpM (gm_uM (gm_cpM (gm_uM (gm_cpM (gm_uM (gm_cpM (gm_uM (gm_cpM (gm_uM (gm_cpM (gm_uM (gm_uM (gm_uM (gm_uM (gm_uM (gm_uM (gm_uM (gm_uM (gm_uM M b 0 (M s 0)) b 1 (M s 1)) b 2 (M s 2)) b 3 (M s 3)) b 4 (M s 4)) b 5 (M s 5)) b 6 (M s 6)) b 7 (M s 7)) (b + 1) 3 (M (s + 1) 3)) (s + 2) (b + 2) 0 0 ((56 : Nat) : Int)) (b + 3) 3 (M (s + 3) 3)) (s + 4) (b + 4) 0 0 ((24 : Nat) : Int)) (b + 5) 3 (M (s + 5) 3)) (s + 6) (b + 6) 0 0 ((24 : Nat) : Int)) (b + 7) 3 (M (s + 7) 3)) (s + 8) (b + 8) 0 0 ((168 : Nat) : Int)) (b + 9) 3 (M (s + 9) 3)) (s + 10) (b + 10) 0 0 ((36 : Nat) : Int)) (b + 11) 3 (M (s + 11) 3)) (s + 12) (b + 12) 0 0 ((72 : Nat) : Int)) b 0 = M s 0
      exact ((((cpM_ne (by omega)).trans (uM_ne (by omega)))).trans ((((cpM_ne (by omega)).trans (uM_ne (by omega)))).trans ((((cpM_ne (by omega)).trans (uM_ne (by omega)))).trans ((((cpM_ne (by omega)).trans (uM_ne (by omega)))).trans ((((cpM_ne (by omega)).trans (uM_ne (by omega)))).trans ((((cpM_ne (by omega)).trans (uM_ne (by omega)))).trans ((uM_ne (by omega)).trans ((uM_ne (by omega)).trans ((uM_ne (by omega)).trans ((uM_ne (by omega)).trans ((uM_ne (by omega)).trans ((uM_ne (by omega)).trans ((uM_ne (by omega)).trans uM_at)))))))))))))
    · show (gm_cpM (gm_uM (gm_cpM (gm_uM (gm_cpM (gm_uM (gm_cpM (gm_uM (gm_cpM (gm_uM (gm_cpM (gm_uM (gm_uM (gm_uM (gm_uM (gm_uM (gm_uM (gm_uM (gm_uM (gm_uM M b 0 (M s 0)) b 1 (M s 1)) b 2 (M s 2)) b 3 (M s 3)) b 4 (M s 4)) b 5 (M s 5)) b 6 (M s 6)) b 7 (M s 7)) (b + 1) 3 (M (s + 1) 3)) (s + 2) (b + 2) 0 0 ((56 : Nat) : Int)) (b + 3) 3 (M (s + 3) 3)) (s + 4) (b + 4) 0 0 ((24 : Nat) : Int)) (b + 5) 3 (M (s + 5) 3)) (s + 6) (b + 6) 0 0 ((24 : Nat) : Int)) (b + 7) 3 (M (s + 7) 3)) (s + 8) (b + 8) 0 0 ((168 : Nat) : Int)) (b + 9) 3 (M (s + 9) 3)) (s + 10) (b + 10) 0 0 ((36 : Nat) : Int)) (b + 11) 3 (M (s + 11) 3)) (s + 12) (b + 12) 0 0 ((72 : Nat) : Int)) b 1 = M s 1
      exact ((((cpM_ne (by omega)).trans (uM_ne (by omega)))).trans ((((cpM_ne (by omega)).trans (uM_ne (by omega)))).trans ((((cpM_ne (by omega)).trans (uM_ne (by omega)))).trans ((((cpM_ne (by omega)).trans (uM_ne (by omega)))).trans ((((cpM_ne (by omega)).trans (uM_ne (by omega)))).trans ((((cpM_ne (by omega)).trans (uM_ne (by omega)))).trans ((uM_ne (by omega)).trans ((uM_ne (by omega)).trans ((uM_ne (by omega)).trans ((uM_ne (by omega)).trans ((uM_ne (by omega)).trans ((uM_ne (by omega)).trans uM_at))))))))))))
    · show (gm_cpM (gm_uM (gm_cpM (gm_uM (gm_cpM (gm_uM (gm_cpM (gm_uM (gm_cpM (gm_uM (gm_cpM (gm_uM (gm_uM (gm_uM (gm_uM (gm_uM (gm_uM (gm_uM (gm_uM (gm_uM M b 0 (M s 0)) b 1 (M s 1)) b 2 (M s 2)) b 3 (M s 3)) b 4 (M s 4)) b 5 (M s 5)) b 6 (M s 6)) b 7 (M s 7)) (b + 1) 3 (M (s + 1) 3)) (s + 2) (b + 2) 0 0 ((56 : Nat) : Int)) (b + 3) 3 (M (s + 3) 3)) (s + 4) (b + 4) 0 0 ((24 : Nat) : Int)) (b + 5) 3 (M (s + 5) 3)) (s + 6) (b + 6) 0 0 ((24 : Nat) : Int)) (b + 7) 3 (M (s + 7) 3)) (s + 8) (b + 8) 0 0 ((168 : Nat) : Int)) (b + 9) 3 (M (s + 9) 3)) (s + 10) (b + 10) 0 0 ((36 : Nat) : Int)) (b + 11) 3 (M (s + 11) 3)) (s + 12) (b + 12) 0 0 ((72 : Nat) : Int)) (b + 1) 3 = M (s + 1) 3
      exact ((((cpM_ne (by omega)).trans (uM_ne (by omega)))).trans ((((cpM_ne (by omega)).trans (uM_ne (by omega)))).trans ((((cpM_ne (by omega)).trans (uM_ne (by omega)))).trans ((((cpM_ne (by omega)).trans (uM_ne (by omega)))).trans ((((cpM_ne (by omega)).trans (uM_ne (by omega)))).trans ((cpM_ne (by omega)).trans uM_at))))))
    · show (gm_cpM (gm_uM (gm_cpM (gm_uM (gm_cpM (gm_uM (gm_cpM (gm_uM (gm_cpM (gm_uM (gm_cpM (gm_uM (gm_uM (gm_uM (gm_uM (gm_uM (gm_uM (gm_uM (gm_uM (gm_uM M b 0 (M s 0)) b 1 (M s 1)) b 2 (M s 2)) b 3 (M s 3)) b 4 (M s 4)) b 5 (M s 5)) b 6 (M s 6)) b 7 (M s 7)) (b + 1) 3 (M (s + 1) 3)) (s + 2) (b + 2) 0 0 ((56 : Nat) : Int)) (b + 3) 3 (M (s + 3) 3)) (s + 4) (b + 4) 0 0 ((24 : Nat) : Int)) (b + 5) 3 (M (s + 5) 3)) (s + 6) (b + 6) 0 0 ((24 : Nat) : Int)) (b + 7) 3 (M (s + 7) 3)) (s + 8) (b + 8) 0 0 ((168 : Nat) : Int)) (b + 9) 3 (M (s + 9) 3)) (s + 10) (b + 10) 0 0 ((36 : Nat) : Int)) (b + 11) 3 (M (s + 11) 3)) (s + 12) (b + 12) 0 0 ((72 : Nat) : Int)) (b + 5) 3 = M (s + 5) 3
      exact ((((cpM_ne (by omega)).trans (uM_ne (by omega)))).trans ((((cpM_ne (by omega)).trans (uM_ne (by omega)))).trans ((((cpM_ne (by omega)).trans (uM_ne (by omega)))).trans ((cpM_ne (by omega)).trans uM_at))))
    · show (gm_cpM (gm_uM (gm_cpM (gm_uM (gm_cpM (gm_uM (gm_cpM (gm_uM (gm_cpM (gm_uM (gm_cpM (gm_uM (gm_uM (gm_uM (gm_uM (gm_uM (gm_uM (gm_uM (gm_uM (gm_uM M b 0 (M s 0)) b 1 (M s 1)) b 2 (M s 2)) b 3 (M s 3)) b 4 (M s 4)) b 5 (M s 5)) b 6 (M s 6)) b 7 (M s 7)) (b + 1) 3 (M (s + 1) 3)) (s + 2) (b + 2) 0 0 ((56 : Nat) : Int)) (b + 3) 3 (M (s + 3) 3)) (s + 4) (b + 4) 0 0 ((24 : Nat) : Int)) (b + 5) 3 (M (s + 5) 3)) (s + 6) (b + 6) 0 0 ((24 : Nat) : Int)) (b + 7) 3 (M (s + 7) 3)) (s + 8) (b + 8) 0 0 ((168 : Nat) : Int)) (b + 9) 3 (M (s + 9) 3)) (s + 10) (b + 10) 0 0 ((36 : Nat) : Int)) (b + 11) 3 (M (s + 11) 3)) (s + 12) (b + 12) 0 0 ((72 : Nat) : Int)) (b + 7) 3 = M (s + 7) 3
      exact ((((cpM_ne (by omega)).trans (uM_ne (by omega)))).trans ((((cpM_ne (by omega)).trans (uM_ne (by omega)))).trans ((cpM_ne (by omega)).trans uM_at)))
    · show (gm_cpM (gm_uM (gm_cpM (gm_uM (gm_cpM (gm_uM (gm_cpM (gm_uM (gm_cpM (gm_uM (gm_cpM (gm_uM (gm_uM (gm_uM (gm_uM (gm_uM (gm_uM (gm_uM (gm_uM (gm_uM M b 0 (M s 0)) b 1 (M s 1)) b 2 (M s 2)) b 3 (M s 3)) b 4 (M s 4)) b 5 (M s 5)) b 6 (M s 6)) b 7 (M s 7)) (b + 1) 3 (M (s + 1) 3)) (s + 2) (b + 2) 0 0 ((56 : Nat) : Int)) (b + 3) 3 (M (s + 3) 3)) (s + 4) (b + 4) 0 0 ((24 : Nat) : Int)) (b + 5) 3 (M (s + 5) 3)) (s + 6) (b + 6) 0 0 ((24 : Nat) : Int)) (b + 7) 3 (M (s + 7) 3)) (s + 8) (b + 8) 0 0 ((168 : Nat) : Int)) (b + 9) 3 (M (s + 9) 3)) (s + 10) (b + 10) 0 0 ((36 : Nat) : Int)) (b + 11) 3 (M (s + 11) 3)) (s + 12) (b + 12) 0 0 ((72 : Nat) : Int)) (b + 3) 3 = M (s + 3) 3
      exact ((((cpM_ne (by omega)).trans (uM_ne (by omega)))).trans ((((cpM_ne (by omega)).trans (uM_ne (by omega)))).trans ((((cpM_ne (by omega)).trans (uM_ne (by omega)))).trans ((((cpM_ne (by omega)).trans (uM_ne (by omega)))).trans ((cpM_ne (by omega)).trans uM_at)))))
    · show (gm_cpM (gm_uM (gm_cpM (gm_uM (gm_cpM (gm_uM (gm_cpM (gm_uM (gm_cpM (gm_uM (gm_cpM (gm_uM (gm_uM (gm_uM (gm_uM (gm_uM (gm_uM (gm_uM (gm_uM (gm_uM M b 0 (M s 0)) b 1 (M s 1)) b 2 (M s 2)) b 3 (M s 3)) b 4 (M s 4)) b 5 (M s 5)) b 6 (M s 6)) b 7 (M s 7)) (b + 1) 3 (M (s + 1) 3)) (s + 2) (b + 2) 0 0 ((56 : Nat) : Int)) (b + 3) 3 (M (s + 3) 3)) (s + 4) (b + 4) 0 0 ((24 : Nat) : Int)) (b + 5) 3 (M (s + 5) 3)) (s + 6) (b + 6) 0 0 ((24 : Nat) : Int)) (b + 7) 3 (M (s + 7) 3)) (s + 8) (b + 8) 0 0 ((168 : Nat) : Int)) (b + 9) 3 (M (s + 9) 3)) (s + 10) (b + 10) 0 0 ((36 : Nat) : Int)) (b + 11) 3 (M (s + 11) 3)) (s + 12) (b + 12) 0 0 ((72 : Nat) : Int)) (b + 9) 3 = M (s + 9) 3
      exact ((((cpM_ne (by omega)).trans (uM_ne (by omega)))).trans ((cpM_ne (by omega)).trans uM_at))
    · show (gm_cpM (gm_uM (gm_cpM (gm_uM (gm_cpM (gm_uM (gm_cpM (gm_uM (gm_cpM (gm_uM (gm_cpM (gm_uM (gm_uM (gm_uM (gm_uM (gm_uM (gm_uM (gm_uM (gm_uM (gm_uM M b 0 (M s 0)) b 1 (M s 1)) b 2 (M s 2)) b 3 (M s 3)) b 4 (M s 4)) b 5 (M s 5)) b 6 (M s 6)) b 7 (M s 7)) (b + 1) 3 (M (s + 1) 3)) (s + 2) (b + 2) 0 0 ((56 : Nat) : Int)) (b + 3) 3 (M (s + 3) 3)) (s + 4) (b + 4) 0 0 ((24 : Nat) : Int)) (b + 5) 3 (M (s + 5) 3)) (s + 6) (b + 6) 0 0 ((24 : Nat) : Int)) (b + 7) 3 (M (s + 7) 3)) (s + 8) (b + 8) 0 0 ((168 : Nat) : Int)) (b + 9) 3 (M (s + 9) 3)) (s + 10) (b + 10) 0 0 ((36 : Nat) : Int)) (b + 11) 3 (M (s + 11) 3)) (s + 12) (b + 12) 0 0 ((72 : Nat) : Int)) b 7 = M s 7
      exact ((((cpM_ne (by omega)).trans (uM_ne (by omega)))).trans ((((cpM_ne (by omega)).trans (uM_ne (by omega)))).trans ((((cpM_ne (by omega)).trans (uM_ne (by omega)))).trans ((((cpM_ne (by omega)).trans (uM_ne (by omega)))).trans ((((cpM_ne (by omega)).trans (uM_ne (by omega)))).trans ((((cpM_ne (by omega)).trans (uM_ne (by omega)))).trans uM_at))))))
    · show (gm_cpM (gm_uM (gm_cpM (gm_uM (gm_cpM (gm_uM (gm_cpM (gm_uM (gm_cpM (gm_uM (gm_cpM (gm_uM (gm_uM (gm_uM (gm_uM (gm_uM (gm_uM (gm_uM (gm_uM (gm_uM M b 0 (M s 0)) b 1 (M s 1)) b 2 (M s 2)) b 3 (M s 3)) b 4 (M s 4)) b 5 (M s 5)) b 6 (M s 6)) b 7 (M s 7)) (b + 1) 3 (M (s + 1) 3)) (s + 2) (b + 2) 0 0 ((56 : Nat) : Int)) (b + 3) 3 (M (s + 3) 3)) (s + 4) (b + 4) 0 0 ((24 : Nat) : Int)) (b + 5) 3 (M (s + 5) 3)) (s + 6) (b + 6) 0 0 ((24 : Nat) : Int)) (b + 7) 3 (M (s + 7) 3)) (s + 8) (b + 8) 0 0 ((168 : Nat) : Int)) (b + 9) 3 (M (s + 9) 3)) (s + 10) (b + 10) 0 0 ((36 : Nat) : Int)) (b + 11) 3 (M (s + 11) 3)) (s + 12) (b + 12) 0 0 ((72 : Nat) : Int)) b 6 = M s 6
      exact ((((cpM_ne (by omega)).trans (uM_ne (by omega)))).trans ((((cpM_ne (by omega)).trans (uM_ne (by omega)))).trans ((((cpM_ne (by omega)).trans (uM_ne (by omega)))).trans ((((cpM_ne (by omega)).trans (uM_ne (by omega)))).trans ((((cpM_ne (by omega)).trans (uM_ne (by omega)))).trans ((((cpM_ne (by omega)).trans (uM_ne (by omega)))).trans ((uM_ne (by omega)).trans uM_at)))))))
    · show (gm_cpM (gm_uM (gm_cpM (gm_uM (gm_cpM (gm_uM (gm_cpM (gm_uM (gm_cpM (gm_uM (gm_cpM (gm_uM (gm_uM (gm_uM (gm_uM (gm_uM (gm_uM (gm_uM (gm_uM (gm_uM M b 0 (M s 0)) b 1 (M s 1)) b 2 (M s 2)) b 3 (M s 3)) b 4 (M s 4)) b 5 (M s 5)) b 6 (M s 6)) b 7 (M s 7)) (b + 1) 3 (M (s + 1) 3)) (s + 2) (b + 2) 0 0 ((56 : Nat) : Int)) (b + 3) 3 (M (s + 3) 3)) (s + 4) (b + 4) 0 0 ((24 : Nat) : Int)) (b + 5) 3 (M (s + 5) 3)) (s + 6) (b + 6) 0 0 ((24 : Nat) : Int)) (b + 7) 3 (M (s + 7) 3)) (s + 8) (b + 8) 0 0 ((168 : Nat) : Int)) (b + 9) 3 (M (s + 9) 3)) (s + 10) (b + 10) 0 0 ((36 : Nat) : Int)) (b + 11) 3 (M (s + 11) 3)) (s + 12) (b + 12) 0 0 ((72 : Nat) : Int)) b 2 = M s 2
      exact ((((cpM_ne (by omega)).trans (uM_ne (by omega)))).trans ((((cpM_ne (by omega)).trans (uM_ne (by omega)))).trans ((((cpM_ne (by omega)).trans (uM_ne (by omega)))).trans ((((cpM_ne (by omega)).trans (uM_ne (by omega)))).trans ((((cpM_ne (by omega)).trans (uM_ne (by omega)))).trans ((((cpM_ne (by omega)).trans (uM_ne (by omega)))).trans ((uM_ne (by omega)).trans ((uM_ne (by omega)).trans ((uM_ne (by omega)).trans ((uM_ne (by omega)).trans ((uM_ne (by omega)).trans uM_at)))))))))))
    · show (gm_cpM (gm_uM (gm_cpM (gm_uM (gm_cpM (gm_uM (gm_cpM (gm_uM (gm_cpM (gm_uM (gm_cpM (gm_uM (gm_uM (gm_uM (gm_uM (gm_uM (gm_uM (gm_uM (gm_uM (gm_uM M b 0 (M s 0)) b 1 (M s 1)) b 2 (M s 2)) b 3 (M s 3)) b 4 (M s 4)) b 5 (M s 5)) b 6 (M s 6)) b 7 (M s 7)) (b + 1) 3 (M (s + 1) 3)) (s + 2) (b + 2) 0 0 ((56 : Nat) : Int)) (b + 3) 3 (M (s + 3) 3)) (s + 4) (b + 4) 0 0 ((24 : Nat) : Int)) (b + 5) 3 (M (s + 5) 3)) (s + 6) (b + 6) 0 0 ((24 : Nat) : Int)) (b + 7) 3 (M (s + 7) 3)) (s + 8) (b + 8) 0 0 ((168 : Nat) : Int)) (b + 9) 3 (M (s + 9) 3)) (s + 10) (b + 10) 0 0 ((36 : Nat) : Int)) (b + 11) 3 (M (s + 11) 3)) (s + 12) (b + 12) 0 0 ((72 : Nat) : Int)) b 3 = M s 3
      exact ((((cpM_ne (by omega)).trans (uM_ne (by omega)))).trans ((((cpM_ne (by omega)).trans (uM_ne (by omega)))).trans ((((cpM_ne (by omega)).trans (uM_ne (by omega)))).trans ((((cpM_ne (by omega)).trans (uM_ne (by omega)))).trans ((((cpM_ne (by omega)).trans (uM_ne (by omega)))).trans ((((cpM_ne (by omega)).trans (uM_ne (by omega)))).trans ((uM_ne (by omega)).trans ((uM_ne (by omega)).trans ((uM_ne (by omega)).trans ((uM_ne (by omega)).trans uM_at))))))))))
    · show (gm_cpM (gm_uM (gm_cpM (gm_uM (gm_cpM (gm_uM (gm_cpM (gm_uM (gm_cpM (gm_uM (gm_cpM (gm_uM (gm_uM (gm_uM (gm_uM (gm_uM (gm_uM (gm_uM (gm_uM (gm_uM M b 0 (M s 0)) b 1 (M s 1)) b 2 (M s 2)) b 3 (M s 3)) b 4 (M s 4)) b 5 (M s 5)) b 6 (M s 6)) b 7 (M s 7)) (b + 1) 3 (M (s + 1) 3)) (s + 2) (b + 2) 0 0 ((56 : Nat) : Int)) (b + 3) 3 (M (s + 3) 3)) (s + 4) (b + 4) 0 0 ((24 : Nat) : Int)) (b + 5) 3 (M (s + 5) 3)) (s + 6) (b + 6) 0 0 ((24 : Nat) : Int)) (b + 7) 3 (M (s + 7) 3)) (s + 8) (b + 8) 0 0 ((168 : Nat) : Int)) (b + 9) 3 (M (s + 9) 3)) (s + 10) (b + 10) 0 0 ((36 : Nat) : Int)) (b + 11) 3 (M (s + 11) 3)) (s + 12) (b + 12) 0 0 ((72 : Nat) : Int)) b 4 = M s 4
      exact ((((cpM_ne (by omega)).trans (uM_ne (by omega)))).trans ((((cpM_ne (by omega)).trans (uM_ne (by omega)))).trans ((((cpM_ne (by omega)).trans (uM_ne (by omega)))).trans ((((cpM_ne (by omega)).trans (uM_ne (by omega)))).trans ((((cpM_ne (by omega)).trans (uM_ne (by omega)))).trans ((((cpM_ne (by omega)).trans (uM_ne (by omega)))).trans ((uM_ne (by omega)).trans ((uM_ne (by omega)).trans ((uM_ne (by omega)).trans uM_at)))))))))
    · show (gm_cpM (gm_uM (gm_cpM (gm_uM (gm_cpM (gm_uM (gm_cpM (gm_uM (gm_cpM (gm_uM (gm_cpM (gm_uM (gm_uM (gm_uM (gm_uM (gm_uM (gm_uM (gm_uM (gm_uM (gm_uM M b 0 (M s 0)) b 1 (M s 1)) b 2 (M s 2)) b 3 (M s 3)) b 4 (M s 4)) b 5 (M s 5)) b 6 (M s 6)) b 7 (M s 7)) (b + 1) 3 (M (s + 1) 3)) (s + 2) (b + 2) 0 0 ((56 : Nat) : Int)) (b + 3) 3 (M (s + 3) 3)) (s + 4) (b + 4) 0 0 ((24 : Nat) : Int)) (b + 5) 3 (M (s + 5) 3)) (s + 6) (b + 6) 0 0 ((24 : Nat) : Int)) (b + 7) 3 (M (s + 7) 3)) (s + 8) (b + 8) 0 0 ((168 : Nat) : Int)) (b + 9) 3 (M (s + 9) 3)) (s + 10) (b + 10) 0 0 ((36 : Nat) : Int)) (b + 11) 3 (M (s + 11) 3)) (s + 12) (b + 12) 0 0 ((72 : Nat) : Int)) b 5 = M s 5
      exact ((((cpM_ne (by omega)).trans (uM_ne (by omega)))).trans ((((cpM_ne (by omega)).trans (uM_ne (by omega)))).trans ((((cpM_ne (by omega)).trans (uM_ne (by omega)))).trans ((((cpM_ne (by omega)).trans (uM_ne (by omega)))).trans ((((cpM_ne (by omega)).trans (uM_ne (by omega)))).trans ((((cpM_ne (by omega)).trans (uM_ne (by omega)))).trans ((uM_ne (by omega)).trans ((uM_ne (by omega)).trans uM_at))))))))
    · show (gm_cpM (gm_uM (gm_cpM (gm_uM (gm_cpM (gm_uM (gm_cpM (gm_uM (gm_cpM (gm_uM (gm_cpM (gm_uM (gm_uM (gm_uM (gm_uM (gm_uM (gm_uM (gm_uM (gm_uM (gm_uM M b 0 (M s 0)) b 1 (M s 1)) b 2 (M s 2)) b 3 (M s 3)) b 4 (M s 4)) b 5 (M s 5)) b 6 (M s 6)) b 7 (M s 7)) (b + 1) 3 (M (s + 1) 3)) (s + 2) (b + 2) 0 0 ((56 : Nat) : Int)) (b + 3) 3 (M (s + 3) 3)) (s + 4) (b + 4) 0 0 ((24 : Nat) : Int)) (b + 5) 3 (M (s + 5) 3)) (s + 6) (b + 6) 0 0 ((24 : Nat) : Int)) (b + 7) 3 (M (s + 7) 3)) (s + 8) (b + 8) 0 0 ((168 : Nat) : Int)) (b + 9) 3 (M (s + 9) 3)) (s + 10) (b + 10) 0 0 ((36 : Nat) : Int)) (b + 11) 3 (M (s + 11) 3)) (s + 12) (b + 12) 0 0 ((72 : Nat) : Int)) (b + 11) 3 = M (s + 11) 3
      exact ((cpM_ne (by omega)).trans uM_at)
    · have e : pl i = (2, i - 15) := pl_2 h
      rw [e]
      show (gm_cpM (gm_uM (gm_cpM (gm_uM (gm_cpM (gm_uM (gm_cpM (gm_uM (gm_cpM (gm_uM (gm_cpM (gm_uM (gm_uM (gm_uM (gm_uM (gm_uM (gm_uM (gm_uM (gm_uM (gm_uM M b 0 (M s 0)) b 1 (M s 1)) b 2 (M s 2)) b 3 (M s 3)) b 4 (M s 4)) b 5 (M s 5)) b 6 (M s 6)) b 7 (M s 7)) (b + 1) 3 (M (s + 1) 3)) (s + 2) (b + 2) 0 0 ((56 : Nat) : Int)) (b + 3) 3 (M (s + 3) 3)) (s + 4) (b + 4) 0 0 ((24 : Nat) : Int)) (b + 5) 3 (M (s + 5) 3)) (s + 6) (b + 6) 0 0 ((24 : Nat) : Int)) (b + 7) 3 (M (s + 7) 3)) (s + 8) (b + 8) 0 0 ((168 : Nat) : Int)) (b + 9) 3 (M (s + 9) 3)) (s + 10) (b + 10) 0 0 ((36 : Nat) : Int)) (b + 11) 3 (M (s + 11) 3)) (s + 12) (b + 12) 0 0 ((72 : Nat) : Int)) (b + 2) (i - 15) = M (s + 2) (i - 15)
      exact ((((cpM_ne (by omega)).trans (uM_ne (by omega)))).trans ((((cpM_ne (by omega)).trans (uM_ne (by omega)))).trans ((((cpM_ne (by omega)).trans (uM_ne (by omega)))).trans ((((cpM_ne (by omega)).trans (uM_ne (by omega)))).trans ((((cpM_ne (by omega)).trans (uM_ne (by omega)))).trans ((cpM_at (by omega) (by omega)).trans ((uM_ne (by omega)).trans ((uM_ne (by omega)).trans ((uM_ne (by omega)).trans ((uM_ne (by omega)).trans ((uM_ne (by omega)).trans ((uM_ne (by omega)).trans ((uM_ne (by omega)).trans ((uM_ne (by omega)).trans (uM_ne (by omega))))))))))))))))
    · have e : pl i = (4, i - 71) := pl_4 h
      rw [e]
      show (gm_cpM (gm_uM (gm_cpM (gm_uM (gm_cpM (gm_uM (gm_cpM (gm_uM (gm_cpM (gm_uM (gm_cpM (gm_uM (gm_uM (gm_uM (gm_uM (gm_uM (gm_uM (gm_uM (gm_uM (gm_uM M b 0 (M s 0)) b 1 (M s 1)) b 2 (M s 2)) b 3 (M s 3)) b 4 (M s 4)) b 5 (M s 5)) b 6 (M s 6)) b 7 (M s 7)) (b + 1) 3 (M (s + 1) 3)) (s + 2) (b + 2) 0 0 ((56 : Nat) : Int)) (b + 3) 3 (M (s + 3) 3)) (s + 4) (b + 4) 0 0 ((24 : Nat) : Int)) (b + 5) 3 (M (s + 5) 3)) (s + 6) (b + 6) 0 0 ((24 : Nat) : Int)) (b + 7) 3 (M (s + 7) 3)) (s + 8) (b + 8) 0 0 ((168 : Nat) : Int)) (b + 9) 3 (M (s + 9) 3)) (s + 10) (b + 10) 0 0 ((36 : Nat) : Int)) (b + 11) 3 (M (s + 11) 3)) (s + 12) (b + 12) 0 0 ((72 : Nat) : Int)) (b + 4) (i - 71) = M (s + 4) (i - 71)
      exact ((((cpM_ne (by omega)).trans (uM_ne (by omega)))).trans ((((cpM_ne (by omega)).trans (uM_ne (by omega)))).trans ((((cpM_ne (by omega)).trans (uM_ne (by omega)))).trans ((((cpM_ne (by omega)).trans (uM_ne (by omega)))).trans ((cpM_at (by omega) (by omega)).trans ((uM_ne (by omega)).trans ((((cpM_ne (by omega)).trans (uM_ne (by omega)))).trans ((uM_ne (by omega)).trans ((uM_ne (by omega)).trans ((uM_ne (by omega)).trans ((uM_ne (by omega)).trans ((uM_ne (by omega)).trans ((uM_ne (by omega)).trans ((uM_ne (by omega)).trans (uM_ne (by omega))))))))))))))))
    · have e : pl i = (6, i - 95) := pl_6 h
      rw [e]
      show (gm_cpM (gm_uM (gm_cpM (gm_uM (gm_cpM (gm_uM (gm_cpM (gm_uM (gm_cpM (gm_uM (gm_cpM (gm_uM (gm_uM (gm_uM (gm_uM (gm_uM (gm_uM (gm_uM (gm_uM (gm_uM M b 0 (M s 0)) b 1 (M s 1)) b 2 (M s 2)) b 3 (M s 3)) b 4 (M s 4)) b 5 (M s 5)) b 6 (M s 6)) b 7 (M s 7)) (b + 1) 3 (M (s + 1) 3)) (s + 2) (b + 2) 0 0 ((56 : Nat) : Int)) (b + 3) 3 (M (s + 3) 3)) (s + 4) (b + 4) 0 0 ((24 : Nat) : Int)) (b + 5) 3 (M (s + 5) 3)) (s + 6) (b + 6) 0 0 ((24 : Nat) : Int)) (b + 7) 3 (M (s + 7) 3)) (s + 8) (b + 8) 0 0 ((168 : Nat) : Int)) (b + 9) 3 (M (s + 9) 3)) (s + 10) (b + 10) 0 0 ((36 : Nat) : Int)) (b + 11) 3 (M (s + 11) 3)) (s + 12) (b + 12) 0 0 ((72 : Nat) : Int)) (b + 6) (i - 95) = M (s + 6) (i - 95)
      exact ((((cpM_ne (by omega)).trans (uM_ne (by omega)))).trans ((((cpM_ne (by omega)).trans (uM_ne (by omega)))).trans ((((cpM_ne (by omega)).trans (uM_ne (by omega)))).trans ((cpM_at (by omega) (by omega)).trans ((uM_ne (by omega)).trans ((((cpM_ne (by omega)).trans (uM_ne (by omega)))).trans ((((cpM_ne (by omega)).trans (uM_ne (by omega)))).trans ((uM_ne (by omega)).trans ((uM_ne (by omega)).trans ((uM_ne (by omega)).trans ((uM_ne (by omega)).trans ((uM_ne (by omega)).trans ((uM_ne (by omega)).trans ((uM_ne (by omega)).trans (uM_ne (by omega))))))))))))))))
    · have e : pl i = (8, i - 119) := pl_8 h
      rw [e]
      show (gm_cpM (gm_uM (gm_cpM (gm_uM (gm_cpM (gm_uM (gm_cpM (gm_uM (gm_cpM (gm_uM (gm_cpM (gm_uM (gm_uM (gm_uM (gm_uM (gm_uM (gm_uM (gm_uM (gm_uM (gm_uM M b 0 (M s 0)) b 1 (M s 1)) b 2 (M s 2)) b 3 (M s 3)) b 4 (M s 4)) b 5 (M s 5)) b 6 (M s 6)) b 7 (M s 7)) (b + 1) 3 (M (s + 1) 3)) (s + 2) (b + 2) 0 0 ((56 : Nat) : Int)) (b + 3) 3 (M (s + 3) 3)) (s + 4) (b + 4) 0 0 ((24 : Nat) : Int)) (b + 5) 3 (M (s + 5) 3)) (s + 6) (b + 6) 0 0 ((24 : Nat) : Int)) (b + 7) 3 (M (s + 7) 3)) (s + 8) (b + 8) 0 0 ((168 : Nat) : Int)) (b + 9) 3 (M (s + 9) 3)) (s + 10) (b + 10) 0 0 ((36 : Nat) : Int)) (b + 11) 3 (M (s + 11) 3)) (s + 12) (b + 12) 0 0 ((72 : Nat) : Int)) (b + 8) (i - 119) = M (s + 8) (i - 119)
      exact ((((cpM_ne (by omega)).trans (uM_ne (by omega)))).trans ((((cpM_ne (by omega)).trans (uM_ne (by omega)))).trans ((cpM_at (by omega) (by omega)).trans ((uM_ne (by omega)).trans ((((cpM_ne (by omega)).trans (uM_ne (by omega)))).trans ((((cpM_ne (by omega)).trans (uM_ne (by omega)))).trans ((((cpM_ne (by omega)).trans (uM_ne (by omega)))).trans ((uM_ne (by omega)).trans ((uM_ne (by omega)).trans ((uM_ne (by omega)).trans ((uM_ne (by omega)).trans ((uM_ne (by omega)).trans ((uM_ne (by omega)).trans ((uM_ne (by omega)).trans (uM_ne (by omega))))))))))))))))
    · have e : pl i = (10, i - 287) := pl_10 h
      rw [e]
      show (gm_cpM (gm_uM (gm_cpM (gm_uM (gm_cpM (gm_uM (gm_cpM (gm_uM (gm_cpM (gm_uM (gm_cpM (gm_uM (gm_uM (gm_uM (gm_uM (gm_uM (gm_uM (gm_uM (gm_uM (gm_uM M b 0 (M s 0)) b 1 (M s 1)) b 2 (M s 2)) b 3 (M s 3)) b 4 (M s 4)) b 5 (M s 5)) b 6 (M s 6)) b 7 (M s 7)) (b + 1) 3 (M (s + 1) 3)) (s + 2) (b + 2) 0 0 ((56 : Nat) : Int)) (b + 3) 3 (M (s + 3) 3)) (s + 4) (b + 4) 0 0 ((24 : Nat) : Int)) (b + 5) 3 (M (s + 5) 3)) (s + 6) (b + 6) 0 0 ((24 : Nat) : Int)) (b + 7) 3 (M (s + 7) 3)) (s + 8) (b + 8) 0 0 ((168 : Nat) : Int)) (b + 9) 3 (M (s + 9) 3)) (s + 10) (b + 10) 0 0 ((36 : Nat) : Int)) (b + 11) 3 (M (s + 11) 3)) (s + 12) (b + 12) 0 0 ((72 : Nat) : Int)) (b + 10) (i - 287) = M (s + 10) (i - 287)
      exact ((((cpM_ne (by omega)).trans (uM_ne (by omega)))).trans ((cpM_at (by omega) (by omega)).trans ((uM_ne (by omega)).trans ((((cpM_ne (by omega)).trans (uM_ne (by omega)))).trans ((((cpM_ne (by omega)).trans (uM_ne (by omega)))).trans ((((cpM_ne (by omega)).trans (uM_ne (by omega)))).trans ((((cpM_ne (by omega)).trans (uM_ne (by omega)))).trans ((uM_ne (by omega)).trans ((uM_ne (by omega)).trans ((uM_ne (by omega)).trans ((uM_ne (by omega)).trans ((uM_ne (by omega)).trans ((uM_ne (by omega)).trans ((uM_ne (by omega)).trans (uM_ne (by omega))))))))))))))))
    · have e : pl i = (12, i - 323) := pl_12 h
      rw [e]
      show (gm_cpM (gm_uM (gm_cpM (gm_uM (gm_cpM (gm_uM (gm_cpM (gm_uM (gm_cpM (gm_uM (gm_cpM (gm_uM (gm_uM (gm_uM (gm_uM (gm_uM (gm_uM (gm_uM (gm_uM (gm_uM M b 0 (M s 0)) b 1 (M s 1)) b 2 (M s 2)) b 3 (M s 3)) b 4 (M s 4)) b 5 (M s 5)) b 6 (M s 6)) b 7 (M s 7)) (b + 1) 3 (M (s + 1) 3)) (s + 2) (b + 2) 0 0 ((56 : Nat) : Int)) (b + 3) 3 (M (s + 3) 3)) (s + 4) (b + 4) 0 0 ((24 : Nat) : Int)) (b + 5) 3 (M (s + 5) 3)) (s + 6) (b + 6) 0 0 ((24 : Nat) : Int)) (b + 7) 3 (M (s + 7) 3)) (s + 8) (b + 8) 0 0 ((168 : Nat) : Int)) (b + 9) 3 (M (s + 9) 3)) (s + 10) (b + 10) 0 0 ((36 : Nat) : Int)) (b + 11) 3 (M (s + 11) 3)) (s + 12) (b + 12) 0 0 ((72 : Nat) : Int)) (b + 12) (i - 323) = M (s + 12) (i - 323)
      exact ((cpM_at (by omega) (by omega)).trans ((uM_ne (by omega)).trans ((((cpM_ne (by omega)).trans (uM_ne (by omega)))).trans ((((cpM_ne (by omega)).trans (uM_ne (by omega)))).trans ((((cpM_ne (by omega)).trans (uM_ne (by omega)))).trans ((((cpM_ne (by omega)).trans (uM_ne (by omega)))).trans ((((cpM_ne (by omega)).trans (uM_ne (by omega)))).trans ((uM_ne (by omega)).trans ((uM_ne (by omega)).trans ((uM_ne (by omega)).trans ((uM_ne (by omega)).trans ((uM_ne (by omega)).trans ((uM_ne (by omega)).trans ((uM_ne (by omega)).trans (uM_ne (by omega))))))))))))))))
end CP9
end
