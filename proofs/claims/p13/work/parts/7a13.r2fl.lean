/-! THE REFERENCE'S FLOWS, its law (laid by wip/core/r2.py). -/
theorem wb_id {x : Int} (h1 : -128 ≤ x) (h2 : x < 128) : gm_wb x = x := by unfold gm_wb; omega
/-- the speed by the sections, t of them looked at -/
noncomputable def rsp (N : Int → Int) (lane row : Int) : Nat → Int
  | 0 => 0
  | t + 1 => if N (15 + 7 * (t : Int)) ≤ row then N (15 + 7 * (t : Int) + 1 + lane) else rsp N lane row t
noncomputable def nsp (N : Int → Int) (lane row : Int) : Int := rsp N lane row (N 2).toNat
/-- bounds of the sections -/
noncomputable def NSb (b : Int) (N : Int → Int) : Prop := ∀ s : Int, 0 ≤ s → s < N 2 → (0 ≤ N (15 + 7 * s) ∧ N (15 + 7 * s) ≤ 98) ∧ ∀ l, 0 ≤ l → l < b → 0 ≤ N (15 + 7 * s + 1 + l) ∧ N (15 + 7 * s + 1 + l) ≤ 20
noncomputable def NS (N : Int → Int) : Prop := ∀ s : Int, 0 ≤ s → s < N 2 → (0 ≤ N (15 + 7 * s) ∧ N (15 + 7 * s) ≤ 98) ∧ ∀ l, 0 ≤ l → l < N 0 → 0 ≤ N (15 + 7 * s + 1 + l) ∧ N (15 + 7 * s + 1 + l) ≤ 20
/-- a fact, or the number -/
noncomputable def rfa (F : Int → Int) (c a : Int) : Int := if c = 10 then a else F c
noncomputable def rbin (c a b : Int) : Int := if c = 11 then a + b else if c = 12 then (if gm_w a < gm_w b then 1 else 0) else if c = 13 then (if gm_w b < gm_w a then 1 else 0) else if c = 15 then (if gm_w (a + b) = 2 then 1 else 0) else (if 0 < gm_w (a + b) then 1 else 0)
/-- one step: what is laid upon one another, how many -/
noncomputable def rv1 (F : Int → Int) (c a : Int) (s : (Int → Int) × Int) : (Int → Int) × Int :=
  if c ≤ 10 then (nup s.1 s.2 (rfa F c a), s.2 + 1)
  else if c = 14 then (nup s.1 (s.2 - 1) (1 - s.1 (s.2 - 1)), s.2)
  else (nup s.1 (s.2 - 1 - 1) (rbin c (s.1 (s.2 - 1 - 1)) (s.1 (s.2 - 1))), s.2 - 1)
noncomputable def rvr (F G : Int → Int) : Nat → Int → (Int → Int) × Int → (Int → Int) × Int
  | 0, _, s => s
  | u + 1, j, s => rvr F G u (j + 1) (rv1 F (G (444 + 2 * j)) (G (444 + 2 * j + 1)) s)
/-- what is laid upon one another always fits -/
noncomputable def hok (G : Int → Int) : Nat → Int → Int → Prop
  | 0, _, t => 0 ≤ t ∧ t ≤ 400
  | u + 1, j, t => (0 ≤ G (444 + 2 * j) ∧ G (444 + 2 * j) ≤ 16) ∧ (G (444 + 2 * j) ≤ 10 → (0 ≤ t ∧ t < 400) ∧ hok G u (j + 1) (t + 1)) ∧ (G (444 + 2 * j) = 14 → (1 ≤ t ∧ t ≤ 400) ∧ hok G u (j + 1) t) ∧ (10 < G (444 + 2 * j) → ¬ G (444 + 2 * j) = 14 → (2 ≤ t ∧ t ≤ 400) ∧ hok G u (j + 1) (t - 1))
noncomputable def rend (s : (Int → Int) × Int) : Prop := s.2 = 0 ∨ gm_w (s.1 0) = 1
/-- whether a LINE holds -/
noncomputable def rhl (F G : Int → Int) (k : Int) (V : Int → Int) : Prop := rend (rvr F G (G (396 + 4 * k + 3) - G (396 + 4 * k + 2)).toNat (G (396 + 4 * k + 2)) (V, 0))
/-- the lines of the law -/
noncomputable def LG (G : Int → Int) (m : Int) : Prop := (G 8 = 1 ∧ G 395 = m ∧ 0 ≤ m ∧ m ≤ 12) ∧ ∀ k : Int, 0 ≤ k → k < m → (0 ≤ G (396 + 4 * k) ∧ G (396 + 4 * k) ≤ 2) ∧ (0 ≤ G (396 + 4 * k + 1) ∧ G (396 + 4 * k + 1) ≤ 20) ∧ (0 ≤ G (396 + 4 * k + 2) ∧ G (396 + 4 * k + 2) ≤ G (396 + 4 * k + 3) ∧ G (396 + 4 * k + 3) ≤ 400) ∧ hok G (G (396 + 4 * k + 3) - G (396 + 4 * k + 2)).toNat (G (396 + 4 * k + 2)) 0
/-- the sum of the LINES of a kind that hold, k of them looked at -/
noncomputable def rsum (H : (Int → Int) → Int → Prop) (F G : Int → Int) (kd : Int) : Nat → Int
  | 0 => 0
  | k + 1 => rsum H F G kd k + @ite Int (G (396 + 4 * (k : Int)) = kd ∧ H F (k : Int)) (Classical.propDecidable _) (G (396 + 4 * (k : Int) + 1)) 0
/-- side and first are 0 or 1 -/
noncomputable def FB (F : Int → Int) : Prop := (F 8 = 0 ∨ F 8 = 1) ∧ (F 9 = 0 ∨ F 9 = 1)
theorem fb_fcts {N h : Int → Int} {l r y s p a dp : Int} : FB (fcts N h l r y s p a dp) := by
  have e8 : fcts N h l r y s p a dp 8 = (if l = 0 ∨ l = N 0 - 1 then 1 else 0) := by simp [fcts]
  have e9 : fcts N h l r y s p a dp 9 = (if l < N 12 then 1 else 0) := by simp [fcts]
  unfold FB
  rw [e8, e9]
  constructor <;> split <;> decide
/-- what the LINES that hold say of how one holds, whatever lay there before -/
noncomputable def HHL (H : (Int → Int) → Int → Prop) (G : Int → Int) (m : Int) : Prop := ∀ F k V, FB F → 0 ≤ k → k < m → (rhl F G k V ↔ H F k)
/-- what is kept is right -/
noncomputable def KFR (N : Int → Int) (φ : Int → Int → Int → Int) (M : gm_M) : Prop := (-1 ≤ M 226 26 ∧ M 226 26 ≤ 6) ∧ (∀ j, 0 ≤ j → j < 29700 → 0 ≤ M 235 j ∧ M 235 j ≤ 31) ∧ ∀ r y, 0 ≤ M 226 26 → M 226 26 < 6 → 0 ≤ r → r < 99 → 0 ≤ y → y < 300 → M 235 (r * 300 + y) = 0 ∨ M 235 (r * 300 + y) = φ (M 226 26) r y + 1
section RF2
variable {X : Int → Int} {LX d bc bs n : Nat} {K : gm_K} {R : gm_R} {M M2 : gm_M} {Q : gm_Q} {lane row year l r y s p a dp c x k kd m person : Int} {N h F G : Int → Int} {H : (Int → Int) → Int → Prop} {φ : Int → Int → Int → Int} {W : List (Nat × Option Int)}
theorem kfr_fr (h9 : fr W M M2) (hw : okR W = true) (hk : KFR N φ M) : KFR N φ M2 := by
  have e5 : ∀ j, M2 235 j = M 235 j := fun j => h9 235 j (fun hm => by have := List.all_eq_true.mp hw _ hm; simp at this) (fun hm => by have := List.all_eq_true.mp hw _ hm; simp at this)
  have e6 : M2 226 26 = M 226 26 := h9 226 26 (fun hm => by have := List.all_eq_true.mp hw _ hm; simp at this) (fun hm => by have := List.all_eq_true.mp hw _ hm; simp at this)
  refine ⟨?_, fun j j0 j1 => ?_, fun r y a0 a1 r0 r1 y0 y1 => ?_⟩
  · rw [e6]; exact hk.1
  · rw [e5]; exact hk.2.1 j j0 j1
  · rw [e6] at a0 a1 ⊢
    rw [e5]; exact hk.2.2 r y a0 a1 r0 r1 y0 y1
theorem g_fr (h9 : fr W M M2) (hw : okR W = true) (hG : ∀ j, (395 ≤ j ∨ j = 8) → M 227 j = G j) : ∀ j, (395 ≤ j ∨ j = 8) → M2 227 j = G j := fun j hj => (h9 227 j (fun hm => by have := List.all_eq_true.mp hw _ hm; simp at this) (fun hm => by have := List.all_eq_true.mp hw _ hm; simp at this)).trans (hG j hj)
theorem rsp_b {b : Int} (hS : NSb b N) (hl : 0 ≤ lane ∧ lane < b) : ∀ t : Nat, (t : Int) ≤ N 2 → 0 ≤ rsp N lane row t ∧ rsp N lane row t ≤ 20 := by
  intro t
  induction t with
  | zero => intro _; exact ⟨Int.le_refl _, by show (0 : Int) ≤ 20; decide⟩
  | succ t ih =>
    intro ht
    unfold rsp
    split
    · exact (hS t (by omega) (by omega)).2 lane hl.1 hl.2
    · exact ih (by omega)
theorem rsum_b (hL : LG G m) : ∀ k : Nat, (k : Int) ≤ m → 0 ≤ rsum H F G kd k ∧ rsum H F G kd k ≤ 20 * (k : Int) := by
  intro k
  induction k with
  | zero => intro _; exact ⟨Int.le_refl _, by show (0 : Int) ≤ _; omega⟩
  | succ k ih =>
    intro hk
    obtain ⟨i1, i2⟩ := ih (by omega)
    have hl := (hL.2 k (by omega) (by omega)).2.1
    unfold rsum
    split <;> exact ⟨by omega, by omega⟩
theorem re_sp (hE : E0 n K R) (hT : TR N h M) (hN : NR N) (hl : 0 ≤ lane ∧ lane < 6) (hr : gm_ir row) (hS : NSb 6 N) (hq : Q (.inl (some (gm_vi (nsp N lane row)))) n K R M) : ∀ (u t : Nat), (t : Int) + (u : Int) = N 2 → gm_Wp X LX d bc bs 290 5 [some (gm_vr 226), some (gm_vi lane), some (gm_vi row), some (gm_vi (rsp N lane row t)), some (gm_vi (t : Int))] [] n K R M Q := by
  obtain ⟨⟨⟨a0, b0⟩, ⟨a1, b1⟩, ⟨a10, b10⟩, ⟨a11, b11⟩, ⟨a12, b12⟩, a9, b9⟩, ⟨⟨a2, b2⟩, ⟨a5, b5⟩, ⟨a3, b3⟩, ⟨a4, b4⟩, ⟨a6, b6⟩, ⟨a14, b14⟩, ⟨a7, b7⟩, a13, b13⟩, rF, rP, rL⟩ := id hN
  obtain ⟨hr1, hr2⟩ := hr
  intro u
  induction u with
  | zero =>
    intro t ht
    have et : t = (N 2).toNat := by omega
    have hq : Q (.inl (some (gm_vi (rsp N lane row (N 2).toNat)))) n K R M := hq
    rw [← et] at hq
    refine gm_sz (gm_p_load (pc := 5) (i := .iload 4) (sr := 0) (j := 4) (by decide +kernel) rfl rfl rfl) ?_
    refine gm_sz (gm_p_load (pc := 7) (i := .aload_n 0) (sr := 2) (j := 0) (by decide +kernel) rfl rfl rfl) ?_
    refine gm_sz (fw_gr (pc := 8) (ix := 13) (ci := 11) (j := 1) (r := 227) (by decide +kernel) (e0k hE (k := 226) (c := 11) (by decide +kernel)) (by decide +kernel) (by decide +kernel) (e0r hE (k := 226) (j := 1) (r := 227) (by decide +kernel))) ?_
    refine gm_sz (gm_p_const (pc := 11) (i := .iconst 2) (v := gm_vi 2) (by decide +kernel) (by decide +kernel)) ?_
    refine gm_sz (fw_ia (pc := 12) (k := 227) (len := 2093) (e0 := 2) (x := N 2) (by decide +kernel) (e0a hE (k := 227) (q := ((0 : Nat), (2093 : Nat))) (by decide +kernel)).1 (e0a hE (k := 227) (q := ((0 : Nat), (2093 : Nat))) (by decide +kernel)).2 (by decide) ⟨by omega, by omega⟩ (tr_w hT (by omega) (by omega) (by omega))) ?_
    refine fw_ict (cc := .ge) (pc := 13) (off := 48) (by decide +kernel) (by decide) ⟨by omega, by omega⟩ ⟨by omega, by omega⟩ (show (N 2) ≤ (t : Int) by omega) ?_
    refine gm_sz (gm_p_load (pc := 61) (i := .iload_n 3) (sr := 0) (j := 3) (by decide +kernel) rfl rfl rfl) ?_
    exact gm_r_int (pc := 62) (by decide +kernel) (Or.inl (by decide +kernel)) hq
  | succ u ih =>
    intro t ht
    obtain ⟨⟨s0, s1⟩, hs⟩ := hS t (by omega) (by omega)
    refine gm_sz (gm_p_load (pc := 5) (i := .iload 4) (sr := 0) (j := 4) (by decide +kernel) rfl rfl rfl) ?_
    refine gm_sz (gm_p_load (pc := 7) (i := .aload_n 0) (sr := 2) (j := 0) (by decide +kernel) rfl rfl rfl) ?_
    refine gm_sz (fw_gr (pc := 8) (ix := 13) (ci := 11) (j := 1) (r := 227) (by decide +kernel) (e0k hE (k := 226) (c := 11) (by decide +kernel)) (by decide +kernel) (by decide +kernel) (e0r hE (k := 226) (j := 1) (r := 227) (by decide +kernel))) ?_
    refine gm_sz (gm_p_const (pc := 11) (i := .iconst 2) (v := gm_vi 2) (by decide +kernel) (by decide +kernel)) ?_
    refine gm_sz (fw_ia (pc := 12) (k := 227) (len := 2093) (e0 := 2) (x := N 2) (by decide +kernel) (e0a hE (k := 227) (q := ((0 : Nat), (2093 : Nat))) (by decide +kernel)).1 (e0a hE (k := 227) (q := ((0 : Nat), (2093 : Nat))) (by decide +kernel)).2 (by decide) ⟨by omega, by omega⟩ (tr_w hT (by omega) (by omega) (by omega))) ?_
    refine fw_icf (cc := .ge) (pc := 13) (off := 48) (by decide +kernel) (by decide) ⟨by omega, by omega⟩ ⟨by omega, by omega⟩ (show ¬ (N 2) ≤ (t : Int) by omega) ?_
    refine gm_sz (gm_p_load (pc := 16) (i := .aload_n 0) (sr := 2) (j := 0) (by decide +kernel) rfl rfl rfl) ?_
    refine gm_sz (fw_gr (pc := 17) (ix := 13) (ci := 11) (j := 1) (r := 227) (by decide +kernel) (e0k hE (k := 226) (c := 11) (by decide +kernel)) (by decide +kernel) (by decide +kernel) (e0r hE (k := 226) (j := 1) (r := 227) (by decide +kernel))) ?_
    refine gm_sz (gm_p_const (pc := 20) (i := .bipush 15) (v := gm_vi 15) (by decide +kernel) (by decide +kernel)) ?_
    refine gm_sz (gm_p_const (pc := 22) (i := .bipush 7) (v := gm_vi 7) (by decide +kernel) (by decide +kernel)) ?_
    refine gm_sz (gm_p_load (pc := 24) (i := .iload 4) (sr := 0) (j := 4) (by decide +kernel) rfl rfl rfl) ?_
    refine gm_sz (gm_p_bin (pc := 26) (i := .imul) (f := fun x y => x * y) (by decide +kernel) rfl) ?_
    refine gm_sz (gm_p_bin (pc := 27) (i := .iadd) (f := fun x y => x + y) (by decide +kernel) rfl) ?_
    refine gm_sz (fw_ia (pc := 28) (k := 227) (len := 2093) (e0 := 15 + (7 * (t : Int))) (x := N (15 + (7 * (t : Int)))) (by decide +kernel) (e0a hE (k := 227) (q := ((0 : Nat), (2093 : Nat))) (by decide +kernel)).1 (e0a hE (k := 227) (q := ((0 : Nat), (2093 : Nat))) (by decide +kernel)).2 (by decide) ⟨by omega, by omega⟩ (tr_w hT (by omega) (by omega) (by omega))) ?_
    refine gm_sz (gm_p_load (pc := 29) (i := .iload_n 2) (sr := 0) (j := 2) (by decide +kernel) rfl rfl rfl) ?_
    refine fw_ic (cc := .gt) (pc := 30) (off := 23) (by decide +kernel) (by decide) ⟨by omega, by omega⟩ ⟨by omega, by omega⟩ (fun h30 => ?_) (fun h30 => ?_)
    · have h30 : row < (N (15 + (7 * (t : Int)))) := h30
      refine gm_sz (gm_p_load (pc := 53) (i := .iload_n 3) (sr := 0) (j := 3) (by decide +kernel) rfl rfl rfl) ?_
      refine gm_sz (gm_p_stor (pc := 54) (i := .istore_n 3) (sr := 0) (j := 3) (by decide +kernel) rfl (show 4 ≤ _ from Nat.le_of_ble_eq_true rfl) rfl) ?_
      refine gm_sz (gm_p_iinc (pc := 55) (j := 4) (z := 1) (by decide +kernel) rfl) ?_
      refine gm_sz (gm_p_goto (pc := 58) (off := (-53)) (by decide +kernel) (by decide)) ?_
      have e9 : rsp N lane row (t + 1) = rsp N lane row t := if_neg (by omega)
      rw [← e9]
      exact ih (t + 1) (by omega)
    · have h30 : ¬ row < (N (15 + (7 * (t : Int)))) := h30
      refine gm_sz (gm_p_load (pc := 33) (i := .aload_n 0) (sr := 2) (j := 0) (by decide +kernel) rfl rfl rfl) ?_
      refine gm_sz (fw_gr (pc := 34) (ix := 13) (ci := 11) (j := 1) (r := 227) (by decide +kernel) (e0k hE (k := 226) (c := 11) (by decide +kernel)) (by decide +kernel) (by decide +kernel) (e0r hE (k := 226) (j := 1) (r := 227) (by decide +kernel))) ?_
      refine gm_sz (gm_p_const (pc := 37) (i := .bipush 15) (v := gm_vi 15) (by decide +kernel) (by decide +kernel)) ?_
      refine gm_sz (gm_p_const (pc := 39) (i := .bipush 7) (v := gm_vi 7) (by decide +kernel) (by decide +kernel)) ?_
      refine gm_sz (gm_p_load (pc := 41) (i := .iload 4) (sr := 0) (j := 4) (by decide +kernel) rfl rfl rfl) ?_
      refine gm_sz (gm_p_bin (pc := 43) (i := .imul) (f := fun x y => x * y) (by decide +kernel) rfl) ?_
      refine gm_sz (gm_p_bin (pc := 44) (i := .iadd) (f := fun x y => x + y) (by decide +kernel) rfl) ?_
      refine gm_sz (gm_p_const (pc := 45) (i := .iconst 1) (v := gm_vi 1) (by decide +kernel) (by decide +kernel)) ?_
      refine gm_sz (gm_p_bin (pc := 46) (i := .iadd) (f := fun x y => x + y) (by decide +kernel) rfl) ?_
      refine gm_sz (gm_p_load (pc := 47) (i := .iload_n 1) (sr := 0) (j := 1) (by decide +kernel) rfl rfl rfl) ?_
      refine gm_sz (gm_p_bin (pc := 48) (i := .iadd) (f := fun x y => x + y) (by decide +kernel) rfl) ?_
      refine gm_sz (fw_ia (pc := 49) (k := 227) (len := 2093) (e0 := ((15 + (7 * (t : Int))) + 1) + lane) (x := N (((15 + (7 * (t : Int))) + 1) + lane)) (by decide +kernel) (e0a hE (k := 227) (q := ((0 : Nat), (2093 : Nat))) (by decide +kernel)).1 (e0a hE (k := 227) (q := ((0 : Nat), (2093 : Nat))) (by decide +kernel)).2 (by decide) ⟨by omega, by omega⟩ (tr_w hT (by omega) (by omega) (by omega))) ?_
      refine gm_sz (gm_p_goto (pc := 50) (off := 4) (by decide +kernel) (by decide)) ?_
      refine gm_sz (gm_p_stor (pc := 54) (i := .istore_n 3) (sr := 0) (j := 3) (by decide +kernel) rfl (show 4 ≤ _ from Nat.le_of_ble_eq_true rfl) rfl) ?_
      refine gm_sz (gm_p_iinc (pc := 55) (j := 4) (z := 1) (by decide +kernel) rfl) ?_
      refine gm_sz (gm_p_goto (pc := 58) (off := (-53)) (by decide +kernel) (by decide)) ?_
      have e9 : rsp N lane row (t + 1) = N (((15 + (7 * (t : Int))) + 1) + lane) := if_pos (by omega)
      rw [← e9]
      exact ih (t + 1) (by omega)
theorem re_c290 (hE : E0 n K R) (hT : TR N h M) (hN : NR N) (hl : 0 ≤ lane ∧ lane < 6) (hr : gm_ir row) (hS : NSb 6 N) (hq : Q (.inl (some (gm_vi (nsp N lane row)))) n K R M) : gm_Wp X LX d bc bs 290 0 (gm_ent 290 [gm_vr 226, gm_vi lane, gm_vi row]) [] n K R M Q := by
  have a2 := hN.2.1.1
  refine gm_sz (gm_p_const (pc := 0) (i := .iconst 0) (v := gm_vi 0) (by decide +kernel) (by decide +kernel)) ?_
  refine gm_sz (gm_p_stor (pc := 1) (i := .istore_n 3) (sr := 0) (j := 3) (by decide +kernel) rfl (show 4 ≤ _ from Nat.le_of_ble_eq_true rfl) rfl) ?_
  refine gm_sz (gm_p_const (pc := 2) (i := .iconst 0) (v := gm_vi 0) (by decide +kernel) (by decide +kernel)) ?_
  refine gm_sz (gm_p_stor (pc := 3) (i := .istore 4) (sr := 0) (j := 4) (by decide +kernel) rfl (show 5 ≤ _ from Nat.le_of_ble_eq_true rfl) rfl) ?_
  exact re_sp hE hT hN hl hr hS hq (N 2).toNat 0 (by omega)
theorem re_tl (hE : E0 n K R) (h99 : N 1 ≤ 99) (hl : 0 ≤ lane ∧ lane ≤ 6) (hq : ∀ M2, fr [((226 : Nat), some (26 : Int)), ((235 : Nat), none)] M M2 → M2 226 26 = lane → KFR N φ M2 → Q (.inl none) n K R M2) : ∀ (u : Nat) (i : Int) (M1 : gm_M), i + (u : Int) = 29700 → 0 ≤ i → fr [((226 : Nat), some (26 : Int)), ((235 : Nat), none)] M M1 → M1 226 26 = lane → (∀ j, 0 ≤ j → j < i → M1 235 j = 0) → gm_Wp X LX d bc bs 293 16 [some (gm_vr 226), some (gm_vi lane), some (gm_vi i)] [] n K R M1 Q := by
  intro u
  induction u with
  | zero =>
    intro i M1 hi hi0 hf h26 hz
    have ei : i = 29700 := by omega
    subst ei
    refine gm_sz (gm_p_load (pc := 16) (i := .iload_n 2) (sr := 0) (j := 2) (by decide +kernel) rfl rfl rfl) ?_
    refine gm_sz (gm_p_load (pc := 17) (i := .aload_n 0) (sr := 2) (j := 0) (by decide +kernel) rfl rfl rfl) ?_
    refine gm_sz (fw_gr (pc := 18) (ix := 42) (ci := 11) (j := 25) (r := 235) (by decide +kernel) (e0k hE (k := 226) (c := 11) (by decide +kernel)) (by decide +kernel) (by decide +kernel) (e0r hE (k := 226) (j := 25) (r := 235) (by decide +kernel))) ?_
    refine gm_sz (fw_al (pc := 21) (k := 235) (len := 29700) (by decide +kernel) (e0a hE (k := 235) (q := ((1 : Nat), (29700 : Nat))) (by decide +kernel)).1 (e0a hE (k := 235) (q := ((1 : Nat), (29700 : Nat))) (by decide +kernel)).2 (by decide)) ?_
    refine fw_ictd (cc := .ge) (pc := 22) (off := 16) (by decide +kernel) (by decide) ⟨by decide, by decide⟩ ⟨by decide, by decide⟩ (by decide) ?_
    exact gm_r_void (pc := 38) (by decide +kernel) (by decide +kernel) (hq M1 hf h26 ⟨by rw [h26]; exact ⟨by omega, by omega⟩, fun j j0 j1 => by rw [hz j j0 j1]; exact ⟨by decide, by decide⟩, fun r y a0 a1 r0 r1 y0 y1 => Or.inl (hz _ (by omega) (by omega))⟩)
  | succ u ih =>
    intro i M1 hi hi0 hf h26 hz
    refine gm_sz (gm_p_load (pc := 16) (i := .iload_n 2) (sr := 0) (j := 2) (by decide +kernel) rfl rfl rfl) ?_
    refine gm_sz (gm_p_load (pc := 17) (i := .aload_n 0) (sr := 2) (j := 0) (by decide +kernel) rfl rfl rfl) ?_
    refine gm_sz (fw_gr (pc := 18) (ix := 42) (ci := 11) (j := 25) (r := 235) (by decide +kernel) (e0k hE (k := 226) (c := 11) (by decide +kernel)) (by decide +kernel) (by decide +kernel) (e0r hE (k := 226) (j := 25) (r := 235) (by decide +kernel))) ?_
    refine gm_sz (fw_al (pc := 21) (k := 235) (len := 29700) (by decide +kernel) (e0a hE (k := 235) (q := ((1 : Nat), (29700 : Nat))) (by decide +kernel)).1 (e0a hE (k := 235) (q := ((1 : Nat), (29700 : Nat))) (by decide +kernel)).2 (by decide)) ?_
    refine fw_icf (cc := .ge) (pc := 22) (off := 16) (by decide +kernel) (by decide) ⟨by omega, by omega⟩ ⟨by decide, by decide⟩ (show ¬ 29700 ≤ i by omega) ?_
    refine gm_sz (gm_p_load (pc := 25) (i := .aload_n 0) (sr := 2) (j := 0) (by decide +kernel) rfl rfl rfl) ?_
    refine gm_sz (fw_gr (pc := 26) (ix := 42) (ci := 11) (j := 25) (r := 235) (by decide +kernel) (e0k hE (k := 226) (c := 11) (by decide +kernel)) (by decide +kernel) (by decide +kernel) (e0r hE (k := 226) (j := 25) (r := 235) (by decide +kernel))) ?_
    refine gm_sz (gm_p_load (pc := 29) (i := .iload_n 2) (sr := 0) (j := 2) (by decide +kernel) rfl rfl rfl) ?_
    refine gm_sz (gm_p_const (pc := 30) (i := .iconst 0) (v := gm_vi 0) (by decide +kernel) (by decide +kernel)) ?_
    refine gm_sz (fw_bs (pc := 31) (k := 235) (len := 29700) (e0 := i) (x := 0) (M' := gm_uM M1 235 i (gm_wb 0)) (by decide +kernel) (e0a hE (k := 235) (q := ((1 : Nat), (29700 : Nat))) (by decide +kernel)).1 (e0a hE (k := 235) (q := ((1 : Nat), (29700 : Nat))) (by decide +kernel)).2 (by decide) ⟨by omega, by omega⟩ rfl) ?_
    refine gm_sz (gm_p_iinc (pc := 32) (j := 2) (z := 1) (by decide +kernel) rfl) ?_
    refine gm_sz (gm_p_goto (pc := 35) (off := (-19)) (by decide +kernel) (by decide)) ?_
    refine ih (i + 1) _ (by omega) (by omega) (fr_p (fr_t fr_0 hf (by decide)) (Or.inl (by decide))) ((uM_ne (by omega)).trans h26) (fun j j0 j1 => ?_)
    by_cases e : j = i
    · subst e
      exact uM_at
    · exact (uM_ne (fun hh => e hh.2)).trans (hz j j0 (by omega))
theorem re_c293 (hE : E0 n K R) (h99 : N 1 ≤ 99) (hl : 0 ≤ lane ∧ lane ≤ 6) (hk : KFR N φ M) (hq : ∀ M2, fr [((226 : Nat), some (26 : Int)), ((235 : Nat), none)] M M2 → M2 226 26 = lane → KFR N φ M2 → Q (.inl none) n K R M2) : gm_Wp X LX d bc bs 293 0 (gm_ent 293 [gm_vr 226, gm_vi lane]) [] n K R M Q := by
  obtain ⟨k1, k2⟩ := hk.1
  refine gm_sz (gm_p_load (pc := 0) (i := .iload_n 1) (sr := 0) (j := 1) (by decide +kernel) rfl rfl rfl) ?_
  refine gm_sz (gm_p_load (pc := 1) (i := .aload_n 0) (sr := 2) (j := 0) (by decide +kernel) rfl rfl rfl) ?_
  refine gm_sz (fw_gi (pc := 2) (ix := 331) (ci := 11) (j := 26) (x := M 226 26) (by decide +kernel) (e0k hE (k := 226) (c := 11) (by decide +kernel)) (by decide +kernel) (by decide +kernel) rfl) ?_
  refine fw_ic (cc := .ne) (pc := 5) (off := 4) (by decide +kernel) (by decide) ⟨by omega, by omega⟩ ⟨by omega, by omega⟩ (fun h5 => ?_) (fun h5 => ?_)
  · have h5 : ¬ lane = (M 226 26) := h5
    refine gm_sz (gm_p_load (pc := 9) (i := .aload_n 0) (sr := 2) (j := 0) (by decide +kernel) rfl rfl rfl) ?_
    refine gm_sz (gm_p_load (pc := 10) (i := .iload_n 1) (sr := 0) (j := 1) (by decide +kernel) rfl rfl rfl) ?_
    refine gm_sz (fw_pi (pc := 11) (ix := 331) (ci := 11) (j := 26) (M' := gm_uM M 226 26 lane) (by decide +kernel) (e0k hE (k := 226) (c := 11) (by decide +kernel)) (by decide +kernel) (by decide +kernel) (by decide +kernel) rfl) ?_
    refine gm_sz (gm_p_const (pc := 14) (i := .iconst 0) (v := gm_vi 0) (by decide +kernel) (by decide +kernel)) ?_
    refine gm_sz (gm_p_stor (pc := 15) (i := .istore_n 2) (sr := 0) (j := 2) (by decide +kernel) rfl (show 3 ≤ _ from Nat.le_of_ble_eq_true rfl) rfl) ?_
    exact re_tl hE h99 hl hq 29700 0 _ (by omega) (Int.le_refl _) (fr_p fr_0 (Or.inr (by decide))) uM_at (fun j j0 j1 => by omega)
  · have h5 : lane = (M 226 26) := Classical.not_not.mp h5
    exact gm_r_void (pc := 8) (by decide +kernel) (by decide +kernel) (hq M fr_0 h5.symm hk)
theorem re_fact (hd : 1 ≤ d) (hE : E0 n K R) (hT : TR N h M) (hN : NR N) (g17 : M 226 17 = l) (g18 : M 226 18 = r) (g19 : M 226 19 = y) (g20 : M 226 20 = s) (g21 : M 226 21 = p) (g22 : M 226 22 = a) (g23 : M 226 23 = dp) (hl : 0 ≤ l ∧ l < 6) (hy : 0 ≤ y ∧ y < 300) (hc : 0 ≤ c ∧ c ≤ 10) (hq : Q (.inl (some (gm_vi (rfa (fcts N h l r y s p a dp) c x)))) n K R M) : gm_Wp X LX d bc bs 296 0 (gm_ent 296 [gm_vr 226, gm_vi c, gm_vi x]) [] n K R M Q := by
  obtain ⟨⟨⟨a0, b0⟩, ⟨a1, b1⟩, ⟨a10, b10⟩, ⟨a11, b11⟩, ⟨a12, b12⟩, a9, b9⟩, ⟨⟨a2, b2⟩, ⟨a5, b5⟩, ⟨a3, b3⟩, ⟨a4, b4⟩, ⟨a6, b6⟩, ⟨a14, b14⟩, ⟨a7, b7⟩, a13, b13⟩, rF, rP, rL⟩ := id hN
  have h11 : c = 0 ∨ c = 1 ∨ c = 2 ∨ c = 3 ∨ c = 4 ∨ c = 5 ∨ c = 6 ∨ c = 7 ∨ c = 8 ∨ c = 9 ∨ c = 10 := by omega
  rcases h11 with rfl | rfl | rfl | rfl | rfl | rfl | rfl | rfl | rfl | rfl | rfl
  · refine gm_sz (gm_p_load (pc := 0) (i := .iload_n 1) (sr := 0) (j := 1) (by decide +kernel) rfl rfl rfl) ?_
    refine gm_b_sw (pc := 1) (df := 146) (lo := 0) (hi := 9) (offs := #[55, 60, 65, 70, 80, 85, 90, 95, 100, 126]) (by decide +kernel) (by decide) ⟨by decide, by decide⟩ (fun h => absurd h (by decide)) ⟨(fun _ => ?_), (fun h => absurd h (by decide)), (fun h => absurd h (by decide)), (fun h => absurd h (by decide)), (fun h => absurd h (by decide)), (fun h => absurd h (by decide)), (fun h => absurd h (by decide)), (fun h => absurd h (by decide)), (fun h => absurd h (by decide)), (fun h => absurd h (by decide)), trivial⟩
    refine gm_sz (gm_p_load (pc := 56) (i := .aload_n 0) (sr := 2) (j := 0) (by decide +kernel) rfl rfl rfl) ?_
    refine gm_sz (fw_gi (pc := 57) (ix := 303) (ci := 11) (j := 17) (x := l) (by decide +kernel) (e0k hE (k := 226) (c := 11) (by decide +kernel)) (by decide +kernel) (by decide +kernel) g17) ?_
    have e9 : rfa (fcts N h l r y s p a dp) 0 x = l := by simp [rfa, fcts]
    rw [e9] at hq
    exact gm_r_int (pc := 60) (by decide +kernel) (Or.inl (by decide +kernel)) hq
  · refine gm_sz (gm_p_load (pc := 0) (i := .iload_n 1) (sr := 0) (j := 1) (by decide +kernel) rfl rfl rfl) ?_
    refine gm_b_sw (pc := 1) (df := 146) (lo := 0) (hi := 9) (offs := #[55, 60, 65, 70, 80, 85, 90, 95, 100, 126]) (by decide +kernel) (by decide) ⟨by decide, by decide⟩ (fun h => absurd h (by decide)) ⟨(fun h => absurd h (by decide)), (fun _ => ?_), (fun h => absurd h (by decide)), (fun h => absurd h (by decide)), (fun h => absurd h (by decide)), (fun h => absurd h (by decide)), (fun h => absurd h (by decide)), (fun h => absurd h (by decide)), (fun h => absurd h (by decide)), (fun h => absurd h (by decide)), trivial⟩
    refine gm_sz (gm_p_load (pc := 61) (i := .aload_n 0) (sr := 2) (j := 0) (by decide +kernel) rfl rfl rfl) ?_
    refine gm_sz (fw_gi (pc := 62) (ix := 306) (ci := 11) (j := 18) (x := r) (by decide +kernel) (e0k hE (k := 226) (c := 11) (by decide +kernel)) (by decide +kernel) (by decide +kernel) g18) ?_
    have e9 : rfa (fcts N h l r y s p a dp) 1 x = r := by simp [rfa, fcts]
    rw [e9] at hq
    exact gm_r_int (pc := 65) (by decide +kernel) (Or.inl (by decide +kernel)) hq
  · refine gm_sz (gm_p_load (pc := 0) (i := .iload_n 1) (sr := 0) (j := 1) (by decide +kernel) rfl rfl rfl) ?_
    refine gm_b_sw (pc := 1) (df := 146) (lo := 0) (hi := 9) (offs := #[55, 60, 65, 70, 80, 85, 90, 95, 100, 126]) (by decide +kernel) (by decide) ⟨by decide, by decide⟩ (fun h => absurd h (by decide)) ⟨(fun h => absurd h (by decide)), (fun h => absurd h (by decide)), (fun _ => ?_), (fun h => absurd h (by decide)), (fun h => absurd h (by decide)), (fun h => absurd h (by decide)), (fun h => absurd h (by decide)), (fun h => absurd h (by decide)), (fun h => absurd h (by decide)), (fun h => absurd h (by decide)), trivial⟩
    refine gm_sz (gm_p_load (pc := 66) (i := .aload_n 0) (sr := 2) (j := 0) (by decide +kernel) rfl rfl rfl) ?_
    refine gm_sz (fw_gi (pc := 67) (ix := 309) (ci := 11) (j := 19) (x := y) (by decide +kernel) (e0k hE (k := 226) (c := 11) (by decide +kernel)) (by decide +kernel) (by decide +kernel) g19) ?_
    have e9 : rfa (fcts N h l r y s p a dp) 2 x = y := by simp [rfa, fcts]
    rw [e9] at hq
    exact gm_r_int (pc := 70) (by decide +kernel) (Or.inl (by decide +kernel)) hq
  · refine gm_sz (gm_p_load (pc := 0) (i := .iload_n 1) (sr := 0) (j := 1) (by decide +kernel) rfl rfl rfl) ?_
    refine gm_b_sw (pc := 1) (df := 146) (lo := 0) (hi := 9) (offs := #[55, 60, 65, 70, 80, 85, 90, 95, 100, 126]) (by decide +kernel) (by decide) ⟨by decide, by decide⟩ (fun h => absurd h (by decide)) ⟨(fun h => absurd h (by decide)), (fun h => absurd h (by decide)), (fun h => absurd h (by decide)), (fun _ => ?_), (fun h => absurd h (by decide)), (fun h => absurd h (by decide)), (fun h => absurd h (by decide)), (fun h => absurd h (by decide)), (fun h => absurd h (by decide)), (fun h => absurd h (by decide)), trivial⟩
    refine gm_sz (gm_p_load (pc := 71) (i := .aload_n 0) (sr := 2) (j := 0) (by decide +kernel) rfl rfl rfl) ?_
    refine gm_sz (fw_gr (pc := 72) (ix := 39) (ci := 11) (j := 24) (r := 234) (by decide +kernel) (e0k hE (k := 226) (c := 11) (by decide +kernel)) (by decide +kernel) (by decide +kernel) (e0r hE (k := 226) (j := 24) (r := 234) (by decide +kernel))) ?_
    refine gm_sz (gm_p_load (pc := 75) (i := .aload_n 0) (sr := 2) (j := 0) (by decide +kernel) rfl rfl rfl) ?_
    refine gm_sz (fw_gi (pc := 76) (ix := 309) (ci := 11) (j := 19) (x := y) (by decide +kernel) (e0k hE (k := 226) (c := 11) (by decide +kernel)) (by decide +kernel) (by decide +kernel) g19) ?_
    refine gm_sz (fw_ia (pc := 79) (k := 234) (len := 300) (e0 := y) (x := h y) (by decide +kernel) (e0a hE (k := 234) (q := ((0 : Nat), (300 : Nat))) (by decide +kernel)).1 (e0a hE (k := 234) (q := ((0 : Nat), (300 : Nat))) (by decide +kernel)).2 (by decide) ⟨by omega, by omega⟩ ((hT.2 _ (by omega) (by omega)).1)) ?_
    have e9 : rfa (fcts N h l r y s p a dp) 3 x = h y := by simp [rfa, fcts]
    rw [e9] at hq
    exact gm_r_int (pc := 80) (by decide +kernel) (Or.inl (by decide +kernel)) hq
  · refine gm_sz (gm_p_load (pc := 0) (i := .iload_n 1) (sr := 0) (j := 1) (by decide +kernel) rfl rfl rfl) ?_
    refine gm_b_sw (pc := 1) (df := 146) (lo := 0) (hi := 9) (offs := #[55, 60, 65, 70, 80, 85, 90, 95, 100, 126]) (by decide +kernel) (by decide) ⟨by decide, by decide⟩ (fun h => absurd h (by decide)) ⟨(fun h => absurd h (by decide)), (fun h => absurd h (by decide)), (fun h => absurd h (by decide)), (fun h => absurd h (by decide)), (fun _ => ?_), (fun h => absurd h (by decide)), (fun h => absurd h (by decide)), (fun h => absurd h (by decide)), (fun h => absurd h (by decide)), (fun h => absurd h (by decide)), trivial⟩
    refine gm_sz (gm_p_load (pc := 81) (i := .aload_n 0) (sr := 2) (j := 0) (by decide +kernel) rfl rfl rfl) ?_
    refine gm_sz (fw_gi (pc := 82) (ix := 312) (ci := 11) (j := 20) (x := s) (by decide +kernel) (e0k hE (k := 226) (c := 11) (by decide +kernel)) (by decide +kernel) (by decide +kernel) g20) ?_
    have e9 : rfa (fcts N h l r y s p a dp) 4 x = s := by simp [rfa, fcts]
    rw [e9] at hq
    exact gm_r_int (pc := 85) (by decide +kernel) (Or.inl (by decide +kernel)) hq
  · refine gm_sz (gm_p_load (pc := 0) (i := .iload_n 1) (sr := 0) (j := 1) (by decide +kernel) rfl rfl rfl) ?_
    refine gm_b_sw (pc := 1) (df := 146) (lo := 0) (hi := 9) (offs := #[55, 60, 65, 70, 80, 85, 90, 95, 100, 126]) (by decide +kernel) (by decide) ⟨by decide, by decide⟩ (fun h => absurd h (by decide)) ⟨(fun h => absurd h (by decide)), (fun h => absurd h (by decide)), (fun h => absurd h (by decide)), (fun h => absurd h (by decide)), (fun h => absurd h (by decide)), (fun _ => ?_), (fun h => absurd h (by decide)), (fun h => absurd h (by decide)), (fun h => absurd h (by decide)), (fun h => absurd h (by decide)), trivial⟩
    refine gm_sz (gm_p_load (pc := 86) (i := .aload_n 0) (sr := 2) (j := 0) (by decide +kernel) rfl rfl rfl) ?_
    refine gm_sz (fw_gi (pc := 87) (ix := 315) (ci := 11) (j := 21) (x := p) (by decide +kernel) (e0k hE (k := 226) (c := 11) (by decide +kernel)) (by decide +kernel) (by decide +kernel) g21) ?_
    have e9 : rfa (fcts N h l r y s p a dp) 5 x = p := by simp [rfa, fcts]
    rw [e9] at hq
    exact gm_r_int (pc := 90) (by decide +kernel) (Or.inl (by decide +kernel)) hq
  · refine gm_sz (gm_p_load (pc := 0) (i := .iload_n 1) (sr := 0) (j := 1) (by decide +kernel) rfl rfl rfl) ?_
    refine gm_b_sw (pc := 1) (df := 146) (lo := 0) (hi := 9) (offs := #[55, 60, 65, 70, 80, 85, 90, 95, 100, 126]) (by decide +kernel) (by decide) ⟨by decide, by decide⟩ (fun h => absurd h (by decide)) ⟨(fun h => absurd h (by decide)), (fun h => absurd h (by decide)), (fun h => absurd h (by decide)), (fun h => absurd h (by decide)), (fun h => absurd h (by decide)), (fun h => absurd h (by decide)), (fun _ => ?_), (fun h => absurd h (by decide)), (fun h => absurd h (by decide)), (fun h => absurd h (by decide)), trivial⟩
    refine gm_sz (gm_p_load (pc := 91) (i := .aload_n 0) (sr := 2) (j := 0) (by decide +kernel) rfl rfl rfl) ?_
    refine gm_sz (fw_gi (pc := 92) (ix := 318) (ci := 11) (j := 22) (x := a) (by decide +kernel) (e0k hE (k := 226) (c := 11) (by decide +kernel)) (by decide +kernel) (by decide +kernel) g22) ?_
    have e9 : rfa (fcts N h l r y s p a dp) 6 x = a := by simp [rfa, fcts]
    rw [e9] at hq
    exact gm_r_int (pc := 95) (by decide +kernel) (Or.inl (by decide +kernel)) hq
  · refine gm_sz (gm_p_load (pc := 0) (i := .iload_n 1) (sr := 0) (j := 1) (by decide +kernel) rfl rfl rfl) ?_
    refine gm_b_sw (pc := 1) (df := 146) (lo := 0) (hi := 9) (offs := #[55, 60, 65, 70, 80, 85, 90, 95, 100, 126]) (by decide +kernel) (by decide) ⟨by decide, by decide⟩ (fun h => absurd h (by decide)) ⟨(fun h => absurd h (by decide)), (fun h => absurd h (by decide)), (fun h => absurd h (by decide)), (fun h => absurd h (by decide)), (fun h => absurd h (by decide)), (fun h => absurd h (by decide)), (fun h => absurd h (by decide)), (fun _ => ?_), (fun h => absurd h (by decide)), (fun h => absurd h (by decide)), trivial⟩
    refine gm_sz (gm_p_load (pc := 96) (i := .aload_n 0) (sr := 2) (j := 0) (by decide +kernel) rfl rfl rfl) ?_
    refine gm_sz (fw_gi (pc := 97) (ix := 321) (ci := 11) (j := 23) (x := dp) (by decide +kernel) (e0k hE (k := 226) (c := 11) (by decide +kernel)) (by decide +kernel) (by decide +kernel) g23) ?_
    have e9 : rfa (fcts N h l r y s p a dp) 7 x = dp := by simp [rfa, fcts]
    rw [e9] at hq
    exact gm_r_int (pc := 100) (by decide +kernel) (Or.inl (by decide +kernel)) hq
  · refine gm_sz (gm_p_load (pc := 0) (i := .iload_n 1) (sr := 0) (j := 1) (by decide +kernel) rfl rfl rfl) ?_
    refine gm_b_sw (pc := 1) (df := 146) (lo := 0) (hi := 9) (offs := #[55, 60, 65, 70, 80, 85, 90, 95, 100, 126]) (by decide +kernel) (by decide) ⟨by decide, by decide⟩ (fun h => absurd h (by decide)) ⟨(fun h => absurd h (by decide)), (fun h => absurd h (by decide)), (fun h => absurd h (by decide)), (fun h => absurd h (by decide)), (fun h => absurd h (by decide)), (fun h => absurd h (by decide)), (fun h => absurd h (by decide)), (fun h => absurd h (by decide)), (fun _ => ?_), (fun h => absurd h (by decide)), trivial⟩
    refine gm_sz (gm_p_load (pc := 101) (i := .aload_n 0) (sr := 2) (j := 0) (by decide +kernel) rfl rfl rfl) ?_
    refine gm_sz (fw_gi (pc := 102) (ix := 303) (ci := 11) (j := 17) (x := l) (by decide +kernel) (e0k hE (k := 226) (c := 11) (by decide +kernel)) (by decide +kernel) (by decide +kernel) g17) ?_
    refine fw_if (cc := .eq) (pc := 105) (off := 16) (by decide +kernel) (by decide) ⟨by omega, by omega⟩ (fun h105 => ?_) (fun h105 => ?_)
    · have h105 : l = 0 := h105
      refine gm_sz (gm_p_const (pc := 121) (i := .iconst 1) (v := gm_vi 1) (by decide +kernel) (by decide +kernel)) ?_
      refine gm_sz (gm_p_goto (pc := 122) (off := 4) (by decide +kernel) (by decide)) ?_
      have e8 : (l = 0 ∨ l = N 0 - 1) := by omega
      have e9 : rfa (fcts N h l r y s p a dp) 8 x = 1 := by simp [rfa, fcts, e8]
      rw [e9] at hq
      exact gm_r_int (pc := 126) (by decide +kernel) (Or.inl (by decide +kernel)) hq
    · have h105 : ¬ l = 0 := h105
      refine gm_sz (gm_p_load (pc := 108) (i := .aload_n 0) (sr := 2) (j := 0) (by decide +kernel) rfl rfl rfl) ?_
      refine gm_sz (fw_gi (pc := 109) (ix := 303) (ci := 11) (j := 17) (x := l) (by decide +kernel) (e0k hE (k := 226) (c := 11) (by decide +kernel)) (by decide +kernel) (by decide +kernel) g17) ?_
      refine gm_sz (gm_p_load (pc := 112) (i := .aload_n 0) (sr := 2) (j := 0) (by decide +kernel) rfl rfl rfl) ?_
      refine gm_c_virt (k := 226) (ci := 11) (mj := 261) (ix := 86) (pc := 113) (as := []) (st := [gm_vi l]) (d' := d - 1) (bc' := 0) (bs' := 0) (by decide +kernel) (by decide +kernel) (by decide +kernel) (by decide +kernel) (e0k hE (k := 226) (c := 11) (by decide +kernel)).1 (e0k hE (k := 226) (c := 11) (by decide +kernel)).2 (by decide) (by decide +kernel) (show 0 = gm_na 261 by decide +kernel) fw_c0 (show 1 ≤ gm_ml 261 by decide +kernel) (Nat.le_of_ble_eq_true rfl) (by omega) (Nat.zero_le _) (Nat.zero_le _) ?_
      refine re_lan hE hT hN ?_
      show gm_Wp X LX d _ _ 296 116 _ [gm_vi (N 0), gm_vi l] n K _ _ Q
      refine gm_sz (gm_p_const (pc := 116) (i := .iconst 1) (v := gm_vi 1) (by decide +kernel) (by decide +kernel)) ?_
      refine gm_sz (gm_p_bin (pc := 117) (i := .isub) (f := fun x y => x - y) (by decide +kernel) rfl) ?_
      refine fw_ic (cc := .ne) (pc := 118) (off := 7) (by decide +kernel) (by decide) ⟨by omega, by omega⟩ ⟨by omega, by omega⟩ (fun h118 => ?_) (fun h118 => ?_)
      · have h118 : ¬ l = ((N 0) - 1) := h118
        refine gm_sz (gm_p_const (pc := 125) (i := .iconst 0) (v := gm_vi 0) (by decide +kernel) (by decide +kernel)) ?_
        have e8 : ¬ (l = 0 ∨ l = N 0 - 1) := by omega
        have e9 : rfa (fcts N h l r y s p a dp) 8 x = 0 := by simp [rfa, fcts, e8]
        rw [e9] at hq
        exact gm_r_int (pc := 126) (by decide +kernel) (Or.inl (by decide +kernel)) hq
      · have h118 : l = ((N 0) - 1) := Classical.not_not.mp h118
        refine gm_sz (gm_p_const (pc := 121) (i := .iconst 1) (v := gm_vi 1) (by decide +kernel) (by decide +kernel)) ?_
        refine gm_sz (gm_p_goto (pc := 122) (off := 4) (by decide +kernel) (by decide)) ?_
        have e8 : (l = 0 ∨ l = N 0 - 1) := by omega
        have e9 : rfa (fcts N h l r y s p a dp) 8 x = 1 := by simp [rfa, fcts, e8]
        rw [e9] at hq
        exact gm_r_int (pc := 126) (by decide +kernel) (Or.inl (by decide +kernel)) hq
  · refine gm_sz (gm_p_load (pc := 0) (i := .iload_n 1) (sr := 0) (j := 1) (by decide +kernel) rfl rfl rfl) ?_
    refine gm_b_sw (pc := 1) (df := 146) (lo := 0) (hi := 9) (offs := #[55, 60, 65, 70, 80, 85, 90, 95, 100, 126]) (by decide +kernel) (by decide) ⟨by decide, by decide⟩ (fun h => absurd h (by decide)) ⟨(fun h => absurd h (by decide)), (fun h => absurd h (by decide)), (fun h => absurd h (by decide)), (fun h => absurd h (by decide)), (fun h => absurd h (by decide)), (fun h => absurd h (by decide)), (fun h => absurd h (by decide)), (fun h => absurd h (by decide)), (fun h => absurd h (by decide)), (fun _ => ?_), trivial⟩
    refine gm_sz (gm_p_load (pc := 127) (i := .aload_n 0) (sr := 2) (j := 0) (by decide +kernel) rfl rfl rfl) ?_
    refine gm_sz (fw_gi (pc := 128) (ix := 303) (ci := 11) (j := 17) (x := l) (by decide +kernel) (e0k hE (k := 226) (c := 11) (by decide +kernel)) (by decide +kernel) (by decide +kernel) g17) ?_
    refine gm_sz (gm_p_load (pc := 131) (i := .aload_n 0) (sr := 2) (j := 0) (by decide +kernel) rfl rfl rfl) ?_
    refine gm_sz (fw_gr (pc := 132) (ix := 13) (ci := 11) (j := 1) (r := 227) (by decide +kernel) (e0k hE (k := 226) (c := 11) (by decide +kernel)) (by decide +kernel) (by decide +kernel) (e0r hE (k := 226) (j := 1) (r := 227) (by decide +kernel))) ?_
    refine gm_sz (gm_p_const (pc := 135) (i := .bipush 12) (v := gm_vi 12) (by decide +kernel) (by decide +kernel)) ?_
    refine gm_sz (fw_ia (pc := 137) (k := 227) (len := 2093) (e0 := 12) (x := N 12) (by decide +kernel) (e0a hE (k := 227) (q := ((0 : Nat), (2093 : Nat))) (by decide +kernel)).1 (e0a hE (k := 227) (q := ((0 : Nat), (2093 : Nat))) (by decide +kernel)).2 (by decide) ⟨by omega, by omega⟩ (tr_w hT (by decide) (by decide) (by decide))) ?_
    refine fw_ic (cc := .ge) (pc := 138) (off := 7) (by decide +kernel) (by decide) ⟨by omega, by omega⟩ ⟨by omega, by omega⟩ (fun h138 => ?_) (fun h138 => ?_)
    · have h138 : (N 12) ≤ l := h138
      refine gm_sz (gm_p_const (pc := 145) (i := .iconst 0) (v := gm_vi 0) (by decide +kernel) (by decide +kernel)) ?_
      have e8 : ¬ l < N 12 := by omega
      have e9 : rfa (fcts N h l r y s p a dp) 9 x = 0 := by simp [rfa, fcts, e8]
      rw [e9] at hq
      exact gm_r_int (pc := 146) (by decide +kernel) (Or.inl (by decide +kernel)) hq
    · have h138 : ¬ (N 12) ≤ l := h138
      refine gm_sz (gm_p_const (pc := 141) (i := .iconst 1) (v := gm_vi 1) (by decide +kernel) (by decide +kernel)) ?_
      refine gm_sz (gm_p_goto (pc := 142) (off := 4) (by decide +kernel) (by decide)) ?_
      have e8 : l < N 12 := by omega
      have e9 : rfa (fcts N h l r y s p a dp) 9 x = 1 := by simp [rfa, fcts, e8]
      rw [e9] at hq
      exact gm_r_int (pc := 146) (by decide +kernel) (Or.inl (by decide +kernel)) hq
  · refine gm_sz (gm_p_load (pc := 0) (i := .iload_n 1) (sr := 0) (j := 1) (by decide +kernel) rfl rfl rfl) ?_
    refine gm_b_sw (pc := 1) (df := 146) (lo := 0) (hi := 9) (offs := #[55, 60, 65, 70, 80, 85, 90, 95, 100, 126]) (by decide +kernel) (by decide) ⟨by decide, by decide⟩ (fun _ => ?_) ⟨(fun h => absurd h (by decide)), (fun h => absurd h (by decide)), (fun h => absurd h (by decide)), (fun h => absurd h (by decide)), (fun h => absurd h (by decide)), (fun h => absurd h (by decide)), (fun h => absurd h (by decide)), (fun h => absurd h (by decide)), (fun h => absurd h (by decide)), (fun h => absurd h (by decide)), trivial⟩
    refine gm_sz (gm_p_load (pc := 147) (i := .iload_n 2) (sr := 0) (j := 2) (by decide +kernel) rfl rfl rfl) ?_
    have e9 : rfa (fcts N h l r y s p a dp) 10 x = x := by simp [rfa, fcts]
    rw [e9] at hq
    exact gm_r_int (pc := 148) (by decide +kernel) (Or.inl (by decide +kernel)) hq
theorem re_hl (hd : 2 ≤ d) (hE : E0 n K R) (hT : TR N h M) (hN : NR N) (hG : ∀ j, (395 ≤ j ∨ j = 8) → M 227 j = G j) (g17 : M 226 17 = l) (g18 : M 226 18 = r) (g19 : M 226 19 = y) (g20 : M 226 20 = s) (g21 : M 226 21 = p) (g22 : M 226 22 = a) (g23 : M 226 23 = dp) (hl : 0 ≤ l ∧ l < 6) (hy : 0 ≤ y ∧ y < 300) (hk : 0 ≤ k ∧ k < 12) (he : G (396 + 4 * k + 3) ≤ 400) {fin : (Int → Int) × Int} (q1 : rend fin → ∀ M2, fr [((233 : Nat), none)] M M2 → Q (.inl (some (gm_vi 1))) n K R M2) (q0 : ¬ rend fin → ∀ M2, fr [((233 : Nat), none)] M M2 → Q (.inl (some (gm_vi 0))) n K R M2) : ∀ (u : Nat) (j t : Int) (V : Int → Int) (z5 z6 z7 z8 : Option gm_V) (M1 : gm_M), j + (u : Int) = G (396 + 4 * k + 3) → 0 ≤ j → fr [((233 : Nat), none)] M M1 → M1 233 = V → hok G u j t → rvr (fcts N h l r y s p a dp) G u j (V, t) = fin → gm_Wp X LX d bc bs 295 20 [some (gm_vr 226), some (gm_vi k), some (gm_vi t), some (gm_vi (396 + (4 * k))), some (gm_vi j), z5, z6, z7, z8] [] n K R M1 Q := by
  intro u
  induction u with
  | zero =>
    intro j t V z5 z6 z7 z8 M1 hj j0 hf hV ho hev
    obtain ⟨t0, t1⟩ := ho
    have hev : (V, t) = fin := hev
    subst hev
    refine gm_sz (gm_p_load (pc := 20) (i := .iload 4) (sr := 0) (j := 4) (by decide +kernel) rfl rfl rfl) ?_
    refine gm_sz (gm_p_load (pc := 22) (i := .aload_n 0) (sr := 2) (j := 0) (by decide +kernel) rfl rfl rfl) ?_
    refine gm_sz (fw_gr (pc := 23) (ix := 13) (ci := 11) (j := 1) (r := 227) (by decide +kernel) (e0k hE (k := 226) (c := 11) (by decide +kernel)) (by decide +kernel) (by decide +kernel) (e0r hE (k := 226) (j := 1) (r := 227) (by decide +kernel))) ?_
    refine gm_sz (gm_p_load (pc := 26) (i := .iload_n 3) (sr := 0) (j := 3) (by decide +kernel) rfl rfl rfl) ?_
    refine gm_sz (gm_p_const (pc := 27) (i := .iconst 3) (v := gm_vi 3) (by decide +kernel) (by decide +kernel)) ?_
    refine gm_sz (gm_p_bin (pc := 28) (i := .iadd) (f := fun x y => x + y) (by decide +kernel) rfl) ?_
    refine gm_sz (fw_ia (pc := 29) (k := 227) (len := 2093) (e0 := (396 + (4 * k)) + 3) (x := G ((396 + (4 * k)) + 3)) (by decide +kernel) (e0a hE (k := 227) (q := ((0 : Nat), (2093 : Nat))) (by decide +kernel)).1 (e0a hE (k := 227) (q := ((0 : Nat), (2093 : Nat))) (by decide +kernel)).2 (by decide) ⟨by omega, by omega⟩ ((fr_c hf (by decide)).trans (hG _ (by omega)))) ?_
    refine fw_ict (cc := .ge) (pc := 30) (off := 229) (by decide +kernel) (by decide) ⟨by omega, by omega⟩ ⟨by omega, by omega⟩ (show (G ((396 + (4 * k)) + 3)) ≤ j by omega) ?_
    refine gm_sz (gm_p_load (pc := 259) (i := .iload_n 2) (sr := 0) (j := 2) (by decide +kernel) rfl rfl rfl) ?_
    refine fw_if (cc := .eq) (pc := 260) (off := 13) (by decide +kernel) (by decide) ⟨by omega, by omega⟩ (fun h260 => ?_) (fun h260 => ?_)
    · have h260 : t = 0 := h260
      refine gm_sz (gm_p_const (pc := 273) (i := .iconst 1) (v := gm_vi 1) (by decide +kernel) (by decide +kernel)) ?_
      refine gm_sz (gm_p_goto (pc := 274) (off := 4) (by decide +kernel) (by decide)) ?_
      exact gm_r_int (pc := 278) (by decide +kernel) (Or.inr ⟨(by decide +kernel), Or.inr rfl⟩) (q1 (Or.inl h260) M1 hf)
    · have h260 : ¬ t = 0 := h260
      refine gm_sz (gm_p_load (pc := 263) (i := .aload_n 0) (sr := 2) (j := 0) (by decide +kernel) rfl rfl rfl) ?_
      refine gm_sz (fw_gr (pc := 264) (ix := 36) (ci := 11) (j := 16) (r := 233) (by decide +kernel) (e0k hE (k := 226) (c := 11) (by decide +kernel)) (by decide +kernel) (by decide +kernel) (e0r hE (k := 226) (j := 16) (r := 233) (by decide +kernel))) ?_
      refine gm_sz (gm_p_const (pc := 267) (i := .iconst 0) (v := gm_vi 0) (by decide +kernel) (by decide +kernel)) ?_
      refine gm_sz (fw_ia (pc := 268) (k := 233) (len := 400) (e0 := 0) (x := V 0) (by decide +kernel) (e0a hE (k := 233) (q := ((0 : Nat), (400 : Nat))) (by decide +kernel)).1 (e0a hE (k := 233) (q := ((0 : Nat), (400 : Nat))) (by decide +kernel)).2 (by decide) ⟨by omega, by omega⟩ (congrFun hV _)) ?_
      refine gm_sz (gm_p_const (pc := 269) (i := .iconst 1) (v := gm_vi 1) (by decide +kernel) (by decide +kernel)) ?_
      refine gm_b_ic (cc := .ne) (pc := 270) (off := 7) (by decide +kernel) (by decide) (fun h270 => ?_) (fun h270 => ?_)
      · have h270 : ¬ gm_w (V 0) = 1 := h270
        refine gm_sz (gm_p_const (pc := 277) (i := .iconst 0) (v := gm_vi 0) (by decide +kernel) (by decide +kernel)) ?_
        exact gm_r_int (pc := 278) (by decide +kernel) (Or.inr ⟨(by decide +kernel), Or.inl rfl⟩) (q0 (fun hh => hh.elim h260 h270) M1 hf)
      · have h270 : gm_w (V 0) = 1 := Classical.not_not.mp h270
        refine gm_sz (gm_p_const (pc := 273) (i := .iconst 1) (v := gm_vi 1) (by decide +kernel) (by decide +kernel)) ?_
        refine gm_sz (gm_p_goto (pc := 274) (off := 4) (by decide +kernel) (by decide)) ?_
        exact gm_r_int (pc := 278) (by decide +kernel) (Or.inr ⟨(by decide +kernel), Or.inr rfl⟩) (q1 (Or.inr h270) M1 hf)
  | succ u ih =>
    intro j t V z5 z6 z7 z8 M1 hj j0 hf hV ho hev
    obtain ⟨⟨c0, c1⟩, ho1, ho2, ho3⟩ := ho
    have hev : rvr (fcts N h l r y s p a dp) G u (j + 1) (rv1 (fcts N h l r y s p a dp) (G (444 + 2 * j)) (G (444 + 2 * j + 1)) (V, t)) = fin := hev
    refine gm_sz (gm_p_load (pc := 20) (i := .iload 4) (sr := 0) (j := 4) (by decide +kernel) rfl rfl rfl) ?_
    refine gm_sz (gm_p_load (pc := 22) (i := .aload_n 0) (sr := 2) (j := 0) (by decide +kernel) rfl rfl rfl) ?_
    refine gm_sz (fw_gr (pc := 23) (ix := 13) (ci := 11) (j := 1) (r := 227) (by decide +kernel) (e0k hE (k := 226) (c := 11) (by decide +kernel)) (by decide +kernel) (by decide +kernel) (e0r hE (k := 226) (j := 1) (r := 227) (by decide +kernel))) ?_
    refine gm_sz (gm_p_load (pc := 26) (i := .iload_n 3) (sr := 0) (j := 3) (by decide +kernel) rfl rfl rfl) ?_
    refine gm_sz (gm_p_const (pc := 27) (i := .iconst 3) (v := gm_vi 3) (by decide +kernel) (by decide +kernel)) ?_
    refine gm_sz (gm_p_bin (pc := 28) (i := .iadd) (f := fun x y => x + y) (by decide +kernel) rfl) ?_
    refine gm_sz (fw_ia (pc := 29) (k := 227) (len := 2093) (e0 := (396 + (4 * k)) + 3) (x := G ((396 + (4 * k)) + 3)) (by decide +kernel) (e0a hE (k := 227) (q := ((0 : Nat), (2093 : Nat))) (by decide +kernel)).1 (e0a hE (k := 227) (q := ((0 : Nat), (2093 : Nat))) (by decide +kernel)).2 (by decide) ⟨by omega, by omega⟩ ((fr_c hf (by decide)).trans (hG _ (by omega)))) ?_
    refine fw_icf (cc := .ge) (pc := 30) (off := 229) (by decide +kernel) (by decide) ⟨by omega, by omega⟩ ⟨by omega, by omega⟩ (show ¬ (G ((396 + (4 * k)) + 3)) ≤ j by omega) ?_
    refine gm_sz (gm_p_load (pc := 33) (i := .aload_n 0) (sr := 2) (j := 0) (by decide +kernel) rfl rfl rfl) ?_
    refine gm_sz (fw_gr (pc := 34) (ix := 13) (ci := 11) (j := 1) (r := 227) (by decide +kernel) (e0k hE (k := 226) (c := 11) (by decide +kernel)) (by decide +kernel) (by decide +kernel) (e0r hE (k := 226) (j := 1) (r := 227) (by decide +kernel))) ?_
    refine gm_sz (gm_p_const (pc := 37) (i := .sipush 444) (v := gm_vi 444) (by decide +kernel) (by decide +kernel)) ?_
    refine gm_sz (gm_p_const (pc := 40) (i := .iconst 2) (v := gm_vi 2) (by decide +kernel) (by decide +kernel)) ?_
    refine gm_sz (gm_p_load (pc := 41) (i := .iload 4) (sr := 0) (j := 4) (by decide +kernel) rfl rfl rfl) ?_
    refine gm_sz (gm_p_bin (pc := 43) (i := .imul) (f := fun x y => x * y) (by decide +kernel) rfl) ?_
    refine gm_sz (gm_p_bin (pc := 44) (i := .iadd) (f := fun x y => x + y) (by decide +kernel) rfl) ?_
    refine gm_sz (fw_ia (pc := 45) (k := 227) (len := 2093) (e0 := 444 + (2 * j)) (x := G (444 + (2 * j))) (by decide +kernel) (e0a hE (k := 227) (q := ((0 : Nat), (2093 : Nat))) (by decide +kernel)).1 (e0a hE (k := 227) (q := ((0 : Nat), (2093 : Nat))) (by decide +kernel)).2 (by decide) ⟨by omega, by omega⟩ ((fr_c hf (by decide)).trans (hG _ (by omega)))) ?_
    refine gm_sz (gm_p_stor (pc := 46) (i := .istore 5) (sr := 0) (j := 5) (by decide +kernel) rfl (show 6 ≤ _ from Nat.le_of_ble_eq_true rfl) rfl) ?_
    show gm_Wp X LX d _ _ 295 48 [some (gm_vr 226), some (gm_vi k), some (gm_vi t), some (gm_vi (396 + (4 * k))), some (gm_vi j), some (gm_vi (G (444 + (2 * j)))), z6, z7, z8] [] n K _ _ Q
    refine gm_sz (gm_p_load (pc := 48) (i := .iload 5) (sr := 0) (j := 5) (by decide +kernel) rfl rfl rfl) ?_
    refine gm_sz (gm_p_const (pc := 50) (i := .bipush 10) (v := gm_vi 10) (by decide +kernel) (by decide +kernel)) ?_
    refine fw_ic (cc := .gt) (pc := 52) (off := 36) (by decide +kernel) (by decide) ⟨by omega, by omega⟩ ⟨by decide, by decide⟩ (fun h52 => ?_) (fun h52 => ?_)
    · have h52 : 10 < (G (444 + (2 * j))) := h52
      refine gm_sz (gm_p_load (pc := 88) (i := .iload 5) (sr := 0) (j := 5) (by decide +kernel) rfl rfl rfl) ?_
      refine gm_sz (gm_p_const (pc := 90) (i := .bipush 14) (v := gm_vi 14) (by decide +kernel) (by decide +kernel)) ?_
      refine fw_ic (cc := .ne) (pc := 92) (off := 24) (by decide +kernel) (by decide) ⟨by omega, by omega⟩ ⟨by decide, by decide⟩ (fun h92 => ?_) (fun h92 => ?_)
      · have h92 : ¬ (G (444 + (2 * j))) = 14 := h92
        have h9 := ho3 (by omega) (by omega)
        obtain ⟨t0, t1⟩ := h9.1
        refine gm_sz (gm_p_iinc (pc := 116) (j := 2) (z := (-1)) (by decide +kernel) rfl) ?_
        refine gm_sz (gm_p_load (pc := 119) (i := .aload_n 0) (sr := 2) (j := 0) (by decide +kernel) rfl rfl rfl) ?_
        refine gm_sz (fw_gr (pc := 120) (ix := 36) (ci := 11) (j := 16) (r := 233) (by decide +kernel) (e0k hE (k := 226) (c := 11) (by decide +kernel)) (by decide +kernel) (by decide +kernel) (e0r hE (k := 226) (j := 16) (r := 233) (by decide +kernel))) ?_
        refine gm_sz (gm_p_load (pc := 123) (i := .iload_n 2) (sr := 0) (j := 2) (by decide +kernel) rfl rfl rfl) ?_
        refine gm_sz (gm_p_const (pc := 124) (i := .iconst 1) (v := gm_vi 1) (by decide +kernel) (by decide +kernel)) ?_
        refine gm_sz (gm_p_bin (pc := 125) (i := .isub) (f := fun x y => x - y) (by decide +kernel) rfl) ?_
        refine gm_sz (fw_ia (pc := 126) (k := 233) (len := 400) (e0 := (t - 1) - 1) (x := V ((t - 1) - 1)) (by decide +kernel) (e0a hE (k := 233) (q := ((0 : Nat), (400 : Nat))) (by decide +kernel)).1 (e0a hE (k := 233) (q := ((0 : Nat), (400 : Nat))) (by decide +kernel)).2 (by decide) ⟨by omega, by omega⟩ (congrFun hV _)) ?_
        refine gm_sz (gm_p_stor (pc := 127) (i := .istore 6) (sr := 0) (j := 6) (by decide +kernel) rfl (show 7 ≤ _ from Nat.le_of_ble_eq_true rfl) rfl) ?_
        show gm_Wp X LX d _ _ 295 129 [some (gm_vr 226), some (gm_vi k), some (gm_vi (t - 1)), some (gm_vi (396 + (4 * k))), some (gm_vi j), some (gm_vi (G (444 + (2 * j)))), some (gm_vi (V ((t - 1) - 1))), z7, z8] [] n K _ _ Q
        refine gm_sz (gm_p_load (pc := 129) (i := .aload_n 0) (sr := 2) (j := 0) (by decide +kernel) rfl rfl rfl) ?_
        refine gm_sz (fw_gr (pc := 130) (ix := 36) (ci := 11) (j := 16) (r := 233) (by decide +kernel) (e0k hE (k := 226) (c := 11) (by decide +kernel)) (by decide +kernel) (by decide +kernel) (e0r hE (k := 226) (j := 16) (r := 233) (by decide +kernel))) ?_
        refine gm_sz (gm_p_load (pc := 133) (i := .iload_n 2) (sr := 0) (j := 2) (by decide +kernel) rfl rfl rfl) ?_
        refine gm_sz (fw_ia (pc := 134) (k := 233) (len := 400) (e0 := t - 1) (x := V (t - 1)) (by decide +kernel) (e0a hE (k := 233) (q := ((0 : Nat), (400 : Nat))) (by decide +kernel)).1 (e0a hE (k := 233) (q := ((0 : Nat), (400 : Nat))) (by decide +kernel)).2 (by decide) ⟨by omega, by omega⟩ (congrFun hV _)) ?_
        refine gm_sz (gm_p_stor (pc := 135) (i := .istore 7) (sr := 0) (j := 7) (by decide +kernel) rfl (show 8 ≤ _ from Nat.le_of_ble_eq_true rfl) rfl) ?_
        show gm_Wp X LX d _ _ 295 137 [some (gm_vr 226), some (gm_vi k), some (gm_vi (t - 1)), some (gm_vi (396 + (4 * k))), some (gm_vi j), some (gm_vi (G (444 + (2 * j)))), some (gm_vi (V ((t - 1) - 1))), some (gm_vi (V (t - 1))), z8] [] n K _ _ Q
        refine gm_sz (gm_p_load (pc := 137) (i := .iload 5) (sr := 0) (j := 5) (by decide +kernel) rfl rfl rfl) ?_
        refine gm_sz (gm_p_const (pc := 139) (i := .bipush 12) (v := gm_vi 12) (by decide +kernel) (by decide +kernel)) ?_
        refine fw_ic (cc := .ne) (pc := 141) (off := 18) (by decide +kernel) (by decide) ⟨by omega, by omega⟩ ⟨by decide, by decide⟩ (fun h141 => ?_) (fun h141 => ?_)
        · have h141 : ¬ (G (444 + (2 * j))) = 12 := h141
          refine gm_sz (gm_p_load (pc := 159) (i := .iload 5) (sr := 0) (j := 5) (by decide +kernel) rfl rfl rfl) ?_
          refine gm_sz (gm_p_const (pc := 161) (i := .bipush 13) (v := gm_vi 13) (by decide +kernel) (by decide +kernel)) ?_
          refine fw_ic (cc := .ne) (pc := 163) (off := 18) (by decide +kernel) (by decide) ⟨by omega, by omega⟩ ⟨by decide, by decide⟩ (fun h163 => ?_) (fun h163 => ?_)
          · have h163 : ¬ (G (444 + (2 * j))) = 13 := h163
            refine gm_sz (gm_p_load (pc := 181) (i := .iload 5) (sr := 0) (j := 5) (by decide +kernel) rfl rfl rfl) ?_
            refine gm_sz (gm_p_const (pc := 183) (i := .bipush 15) (v := gm_vi 15) (by decide +kernel) (by decide +kernel)) ?_
            refine fw_ic (cc := .ne) (pc := 185) (off := 20) (by decide +kernel) (by decide) ⟨by omega, by omega⟩ ⟨by decide, by decide⟩ (fun h185 => ?_) (fun h185 => ?_)
            · have h185 : ¬ (G (444 + (2 * j))) = 15 := h185
              refine gm_sz (gm_p_load (pc := 205) (i := .iload 6) (sr := 0) (j := 6) (by decide +kernel) rfl rfl rfl) ?_
              refine gm_sz (gm_p_load (pc := 207) (i := .iload 7) (sr := 0) (j := 7) (by decide +kernel) rfl rfl rfl) ?_
              refine gm_sz (gm_p_bin (pc := 209) (i := .iadd) (f := fun x y => x + y) (by decide +kernel) rfl) ?_
              refine gm_b_if (cc := .le) (pc := 210) (off := 7) (by decide +kernel) (by decide) (fun h210 => ?_) (fun h210 => ?_)
              · have h210 : gm_w ((V ((t - 1) - 1)) + (V (t - 1))) ≤ 0 := h210
                refine gm_sz (gm_p_const (pc := 217) (i := .iconst 0) (v := gm_vi 0) (by decide +kernel) (by decide +kernel)) ?_
                refine gm_sz (gm_p_stor (pc := 218) (i := .istore 8) (sr := 0) (j := 8) (by decide +kernel) rfl (show 9 ≤ _ from Nat.le_of_ble_eq_true rfl) rfl) ?_
                show gm_Wp X LX d _ _ 295 220 [some (gm_vr 226), some (gm_vi k), some (gm_vi (t - 1)), some (gm_vi (396 + (4 * k))), some (gm_vi j), some (gm_vi (G (444 + (2 * j)))), some (gm_vi (V ((t - 1) - 1))), some (gm_vi (V (t - 1))), some (gm_vi 0)] [] n K _ _ Q
                refine gm_sz (gm_p_load (pc := 220) (i := .aload_n 0) (sr := 2) (j := 0) (by decide +kernel) rfl rfl rfl) ?_
                refine gm_sz (fw_gr (pc := 221) (ix := 36) (ci := 11) (j := 16) (r := 233) (by decide +kernel) (e0k hE (k := 226) (c := 11) (by decide +kernel)) (by decide +kernel) (by decide +kernel) (e0r hE (k := 226) (j := 16) (r := 233) (by decide +kernel))) ?_
                refine gm_sz (gm_p_load (pc := 224) (i := .iload_n 2) (sr := 0) (j := 2) (by decide +kernel) rfl rfl rfl) ?_
                refine gm_sz (gm_p_const (pc := 225) (i := .iconst 1) (v := gm_vi 1) (by decide +kernel) (by decide +kernel)) ?_
                refine gm_sz (gm_p_bin (pc := 226) (i := .isub) (f := fun x y => x - y) (by decide +kernel) rfl) ?_
                refine gm_sz (gm_p_load (pc := 227) (i := .iload 5) (sr := 0) (j := 5) (by decide +kernel) rfl rfl rfl) ?_
                refine gm_sz (gm_p_const (pc := 229) (i := .bipush 11) (v := gm_vi 11) (by decide +kernel) (by decide +kernel)) ?_
                refine fw_ic (cc := .ne) (pc := 231) (off := 11) (by decide +kernel) (by decide) ⟨by omega, by omega⟩ ⟨by decide, by decide⟩ (fun h231 => ?_) (fun h231 => ?_)
                · have h231 : ¬ (G (444 + (2 * j))) = 11 := h231
                  refine gm_sz (gm_p_load (pc := 242) (i := .iload 8) (sr := 0) (j := 8) (by decide +kernel) rfl rfl rfl) ?_
                  refine fw_iftd (cc := .eq) (pc := 244) (off := 7) (by decide +kernel) (by decide) ⟨by decide, by decide⟩ (by decide) ?_
                  refine gm_sz (gm_p_const (pc := 251) (i := .iconst 0) (v := gm_vi 0) (by decide +kernel) (by decide +kernel)) ?_
                  refine gm_sz (fw_is (pc := 252) (k := 233) (len := 400) (e0 := (t - 1) - 1) (x := 0) (M' := gm_uM M1 233 ((t - 1) - 1) 0) (by decide +kernel) (e0a hE (k := 233) (q := ((0 : Nat), (400 : Nat))) (by decide +kernel)).1 (e0a hE (k := 233) (q := ((0 : Nat), (400 : Nat))) (by decide +kernel)).2 (by decide) ⟨by omega, by omega⟩ rfl) ?_
                  refine gm_sz (gm_p_iinc (pc := 253) (j := 4) (z := 1) (by decide +kernel) rfl) ?_
                  refine gm_sz (gm_p_goto (pc := 256) (off := (-236)) (by decide +kernel) (by decide)) ?_
                  have e9 : rv1 (fcts N h l r y s p a dp) (G (444 + 2 * j)) (G (444 + 2 * j + 1)) (V, t) = (nup V ((t - 1) - 1) 0, t - 1) := by
                    unfold rv1 rbin
                    dsimp only
                    repeat (first | rw [if_pos (by omega)] | rw [if_neg (by omega)])
                  rw [e9] at hev
                  exact ih (j + 1) _ _ _ _ _ _ _ (by omega) (by omega) (fr_p (fr_t fr_0 hf (by decide)) (Or.inl (by decide))) (nup_s hV) h9.2 hev
                · have h231 : (G (444 + (2 * j))) = 11 := Classical.not_not.mp h231
                  refine gm_sz (gm_p_load (pc := 234) (i := .iload 6) (sr := 0) (j := 6) (by decide +kernel) rfl rfl rfl) ?_
                  refine gm_sz (gm_p_load (pc := 236) (i := .iload 7) (sr := 0) (j := 7) (by decide +kernel) rfl rfl rfl) ?_
                  refine gm_sz (gm_p_bin (pc := 238) (i := .iadd) (f := fun x y => x + y) (by decide +kernel) rfl) ?_
                  refine gm_sz (gm_p_goto (pc := 239) (off := 13) (by decide +kernel) (by decide)) ?_
                  refine gm_sz (fw_is (pc := 252) (k := 233) (len := 400) (e0 := (t - 1) - 1) (x := (V ((t - 1) - 1)) + (V (t - 1))) (M' := gm_uM M1 233 ((t - 1) - 1) ((V ((t - 1) - 1)) + (V (t - 1)))) (by decide +kernel) (e0a hE (k := 233) (q := ((0 : Nat), (400 : Nat))) (by decide +kernel)).1 (e0a hE (k := 233) (q := ((0 : Nat), (400 : Nat))) (by decide +kernel)).2 (by decide) ⟨by omega, by omega⟩ rfl) ?_
                  refine gm_sz (gm_p_iinc (pc := 253) (j := 4) (z := 1) (by decide +kernel) rfl) ?_
                  refine gm_sz (gm_p_goto (pc := 256) (off := (-236)) (by decide +kernel) (by decide)) ?_
                  have e9 : rv1 (fcts N h l r y s p a dp) (G (444 + 2 * j)) (G (444 + 2 * j + 1)) (V, t) = (nup V ((t - 1) - 1) ((V ((t - 1) - 1)) + (V (t - 1))), t - 1) := by
                    unfold rv1 rbin
                    dsimp only
                    repeat (first | rw [if_pos (by omega)] | rw [if_neg (by omega)])
                  rw [e9] at hev
                  exact ih (j + 1) _ _ _ _ _ _ _ (by omega) (by omega) (fr_p (fr_t fr_0 hf (by decide)) (Or.inl (by decide))) (nup_s hV) h9.2 hev
              · have h210 : ¬ gm_w ((V ((t - 1) - 1)) + (V (t - 1))) ≤ 0 := h210
                refine gm_sz (gm_p_const (pc := 213) (i := .iconst 1) (v := gm_vi 1) (by decide +kernel) (by decide +kernel)) ?_
                refine gm_sz (gm_p_goto (pc := 214) (off := 4) (by decide +kernel) (by decide)) ?_
                refine gm_sz (gm_p_stor (pc := 218) (i := .istore 8) (sr := 0) (j := 8) (by decide +kernel) rfl (show 9 ≤ _ from Nat.le_of_ble_eq_true rfl) rfl) ?_
                show gm_Wp X LX d _ _ 295 220 [some (gm_vr 226), some (gm_vi k), some (gm_vi (t - 1)), some (gm_vi (396 + (4 * k))), some (gm_vi j), some (gm_vi (G (444 + (2 * j)))), some (gm_vi (V ((t - 1) - 1))), some (gm_vi (V (t - 1))), some (gm_vi 1)] [] n K _ _ Q
                refine gm_sz (gm_p_load (pc := 220) (i := .aload_n 0) (sr := 2) (j := 0) (by decide +kernel) rfl rfl rfl) ?_
                refine gm_sz (fw_gr (pc := 221) (ix := 36) (ci := 11) (j := 16) (r := 233) (by decide +kernel) (e0k hE (k := 226) (c := 11) (by decide +kernel)) (by decide +kernel) (by decide +kernel) (e0r hE (k := 226) (j := 16) (r := 233) (by decide +kernel))) ?_
                refine gm_sz (gm_p_load (pc := 224) (i := .iload_n 2) (sr := 0) (j := 2) (by decide +kernel) rfl rfl rfl) ?_
                refine gm_sz (gm_p_const (pc := 225) (i := .iconst 1) (v := gm_vi 1) (by decide +kernel) (by decide +kernel)) ?_
                refine gm_sz (gm_p_bin (pc := 226) (i := .isub) (f := fun x y => x - y) (by decide +kernel) rfl) ?_
                refine gm_sz (gm_p_load (pc := 227) (i := .iload 5) (sr := 0) (j := 5) (by decide +kernel) rfl rfl rfl) ?_
                refine gm_sz (gm_p_const (pc := 229) (i := .bipush 11) (v := gm_vi 11) (by decide +kernel) (by decide +kernel)) ?_
                refine fw_ic (cc := .ne) (pc := 231) (off := 11) (by decide +kernel) (by decide) ⟨by omega, by omega⟩ ⟨by decide, by decide⟩ (fun h231 => ?_) (fun h231 => ?_)
                · have h231 : ¬ (G (444 + (2 * j))) = 11 := h231
                  refine gm_sz (gm_p_load (pc := 242) (i := .iload 8) (sr := 0) (j := 8) (by decide +kernel) rfl rfl rfl) ?_
                  refine fw_iffd (cc := .eq) (pc := 244) (off := 7) (by decide +kernel) (by decide) ⟨by decide, by decide⟩ (by decide) ?_
                  refine gm_sz (gm_p_const (pc := 247) (i := .iconst 1) (v := gm_vi 1) (by decide +kernel) (by decide +kernel)) ?_
                  refine gm_sz (gm_p_goto (pc := 248) (off := 4) (by decide +kernel) (by decide)) ?_
                  refine gm_sz (fw_is (pc := 252) (k := 233) (len := 400) (e0 := (t - 1) - 1) (x := 1) (M' := gm_uM M1 233 ((t - 1) - 1) 1) (by decide +kernel) (e0a hE (k := 233) (q := ((0 : Nat), (400 : Nat))) (by decide +kernel)).1 (e0a hE (k := 233) (q := ((0 : Nat), (400 : Nat))) (by decide +kernel)).2 (by decide) ⟨by omega, by omega⟩ rfl) ?_
                  refine gm_sz (gm_p_iinc (pc := 253) (j := 4) (z := 1) (by decide +kernel) rfl) ?_
                  refine gm_sz (gm_p_goto (pc := 256) (off := (-236)) (by decide +kernel) (by decide)) ?_
                  have e9 : rv1 (fcts N h l r y s p a dp) (G (444 + 2 * j)) (G (444 + 2 * j + 1)) (V, t) = (nup V ((t - 1) - 1) 1, t - 1) := by
                    unfold rv1 rbin
                    dsimp only
                    repeat (first | rw [if_pos (by omega)] | rw [if_neg (by omega)])
                  rw [e9] at hev
                  exact ih (j + 1) _ _ _ _ _ _ _ (by omega) (by omega) (fr_p (fr_t fr_0 hf (by decide)) (Or.inl (by decide))) (nup_s hV) h9.2 hev
                · have h231 : (G (444 + (2 * j))) = 11 := Classical.not_not.mp h231
                  refine gm_sz (gm_p_load (pc := 234) (i := .iload 6) (sr := 0) (j := 6) (by decide +kernel) rfl rfl rfl) ?_
                  refine gm_sz (gm_p_load (pc := 236) (i := .iload 7) (sr := 0) (j := 7) (by decide +kernel) rfl rfl rfl) ?_
                  refine gm_sz (gm_p_bin (pc := 238) (i := .iadd) (f := fun x y => x + y) (by decide +kernel) rfl) ?_
                  refine gm_sz (gm_p_goto (pc := 239) (off := 13) (by decide +kernel) (by decide)) ?_
                  refine gm_sz (fw_is (pc := 252) (k := 233) (len := 400) (e0 := (t - 1) - 1) (x := (V ((t - 1) - 1)) + (V (t - 1))) (M' := gm_uM M1 233 ((t - 1) - 1) ((V ((t - 1) - 1)) + (V (t - 1)))) (by decide +kernel) (e0a hE (k := 233) (q := ((0 : Nat), (400 : Nat))) (by decide +kernel)).1 (e0a hE (k := 233) (q := ((0 : Nat), (400 : Nat))) (by decide +kernel)).2 (by decide) ⟨by omega, by omega⟩ rfl) ?_
                  refine gm_sz (gm_p_iinc (pc := 253) (j := 4) (z := 1) (by decide +kernel) rfl) ?_
                  refine gm_sz (gm_p_goto (pc := 256) (off := (-236)) (by decide +kernel) (by decide)) ?_
                  have e9 : rv1 (fcts N h l r y s p a dp) (G (444 + 2 * j)) (G (444 + 2 * j + 1)) (V, t) = (nup V ((t - 1) - 1) ((V ((t - 1) - 1)) + (V (t - 1))), t - 1) := by
                    unfold rv1 rbin
                    dsimp only
                    repeat (first | rw [if_pos (by omega)] | rw [if_neg (by omega)])
                  rw [e9] at hev
                  exact ih (j + 1) _ _ _ _ _ _ _ (by omega) (by omega) (fr_p (fr_t fr_0 hf (by decide)) (Or.inl (by decide))) (nup_s hV) h9.2 hev
            · have h185 : (G (444 + (2 * j))) = 15 := Classical.not_not.mp h185
              refine gm_sz (gm_p_load (pc := 188) (i := .iload 6) (sr := 0) (j := 6) (by decide +kernel) rfl rfl rfl) ?_
              refine gm_sz (gm_p_load (pc := 190) (i := .iload 7) (sr := 0) (j := 7) (by decide +kernel) rfl rfl rfl) ?_
              refine gm_sz (gm_p_bin (pc := 192) (i := .iadd) (f := fun x y => x + y) (by decide +kernel) rfl) ?_
              refine gm_sz (gm_p_const (pc := 193) (i := .iconst 2) (v := gm_vi 2) (by decide +kernel) (by decide +kernel)) ?_
              refine gm_b_ic (cc := .ne) (pc := 194) (off := 7) (by decide +kernel) (by decide) (fun h194 => ?_) (fun h194 => ?_)
              · have h194 : ¬ gm_w ((V ((t - 1) - 1)) + (V (t - 1))) = 2 := h194
                refine gm_sz (gm_p_const (pc := 201) (i := .iconst 0) (v := gm_vi 0) (by decide +kernel) (by decide +kernel)) ?_
                refine gm_sz (gm_p_goto (pc := 202) (off := 16) (by decide +kernel) (by decide)) ?_
                refine gm_sz (gm_p_stor (pc := 218) (i := .istore 8) (sr := 0) (j := 8) (by decide +kernel) rfl (show 9 ≤ _ from Nat.le_of_ble_eq_true rfl) rfl) ?_
                show gm_Wp X LX d _ _ 295 220 [some (gm_vr 226), some (gm_vi k), some (gm_vi (t - 1)), some (gm_vi (396 + (4 * k))), some (gm_vi j), some (gm_vi (G (444 + (2 * j)))), some (gm_vi (V ((t - 1) - 1))), some (gm_vi (V (t - 1))), some (gm_vi 0)] [] n K _ _ Q
                refine gm_sz (gm_p_load (pc := 220) (i := .aload_n 0) (sr := 2) (j := 0) (by decide +kernel) rfl rfl rfl) ?_
                refine gm_sz (fw_gr (pc := 221) (ix := 36) (ci := 11) (j := 16) (r := 233) (by decide +kernel) (e0k hE (k := 226) (c := 11) (by decide +kernel)) (by decide +kernel) (by decide +kernel) (e0r hE (k := 226) (j := 16) (r := 233) (by decide +kernel))) ?_
                refine gm_sz (gm_p_load (pc := 224) (i := .iload_n 2) (sr := 0) (j := 2) (by decide +kernel) rfl rfl rfl) ?_
                refine gm_sz (gm_p_const (pc := 225) (i := .iconst 1) (v := gm_vi 1) (by decide +kernel) (by decide +kernel)) ?_
                refine gm_sz (gm_p_bin (pc := 226) (i := .isub) (f := fun x y => x - y) (by decide +kernel) rfl) ?_
                refine gm_sz (gm_p_load (pc := 227) (i := .iload 5) (sr := 0) (j := 5) (by decide +kernel) rfl rfl rfl) ?_
                refine gm_sz (gm_p_const (pc := 229) (i := .bipush 11) (v := gm_vi 11) (by decide +kernel) (by decide +kernel)) ?_
                refine fw_ict (cc := .ne) (pc := 231) (off := 11) (by decide +kernel) (by decide) ⟨by omega, by omega⟩ ⟨by decide, by decide⟩ (show ¬ (G (444 + (2 * j))) = 11 by omega) ?_
                refine gm_sz (gm_p_load (pc := 242) (i := .iload 8) (sr := 0) (j := 8) (by decide +kernel) rfl rfl rfl) ?_
                refine fw_iftd (cc := .eq) (pc := 244) (off := 7) (by decide +kernel) (by decide) ⟨by decide, by decide⟩ (by decide) ?_
                refine gm_sz (gm_p_const (pc := 251) (i := .iconst 0) (v := gm_vi 0) (by decide +kernel) (by decide +kernel)) ?_
                refine gm_sz (fw_is (pc := 252) (k := 233) (len := 400) (e0 := (t - 1) - 1) (x := 0) (M' := gm_uM M1 233 ((t - 1) - 1) 0) (by decide +kernel) (e0a hE (k := 233) (q := ((0 : Nat), (400 : Nat))) (by decide +kernel)).1 (e0a hE (k := 233) (q := ((0 : Nat), (400 : Nat))) (by decide +kernel)).2 (by decide) ⟨by omega, by omega⟩ rfl) ?_
                refine gm_sz (gm_p_iinc (pc := 253) (j := 4) (z := 1) (by decide +kernel) rfl) ?_
                refine gm_sz (gm_p_goto (pc := 256) (off := (-236)) (by decide +kernel) (by decide)) ?_
                have e9 : rv1 (fcts N h l r y s p a dp) (G (444 + 2 * j)) (G (444 + 2 * j + 1)) (V, t) = (nup V ((t - 1) - 1) 0, t - 1) := by
                  unfold rv1 rbin
                  dsimp only
                  repeat (first | rw [if_pos (by omega)] | rw [if_neg (by omega)])
                rw [e9] at hev
                exact ih (j + 1) _ _ _ _ _ _ _ (by omega) (by omega) (fr_p (fr_t fr_0 hf (by decide)) (Or.inl (by decide))) (nup_s hV) h9.2 hev
              · have h194 : gm_w ((V ((t - 1) - 1)) + (V (t - 1))) = 2 := Classical.not_not.mp h194
                refine gm_sz (gm_p_const (pc := 197) (i := .iconst 1) (v := gm_vi 1) (by decide +kernel) (by decide +kernel)) ?_
                refine gm_sz (gm_p_goto (pc := 198) (off := 20) (by decide +kernel) (by decide)) ?_
                refine gm_sz (gm_p_stor (pc := 218) (i := .istore 8) (sr := 0) (j := 8) (by decide +kernel) rfl (show 9 ≤ _ from Nat.le_of_ble_eq_true rfl) rfl) ?_
                show gm_Wp X LX d _ _ 295 220 [some (gm_vr 226), some (gm_vi k), some (gm_vi (t - 1)), some (gm_vi (396 + (4 * k))), some (gm_vi j), some (gm_vi (G (444 + (2 * j)))), some (gm_vi (V ((t - 1) - 1))), some (gm_vi (V (t - 1))), some (gm_vi 1)] [] n K _ _ Q
                refine gm_sz (gm_p_load (pc := 220) (i := .aload_n 0) (sr := 2) (j := 0) (by decide +kernel) rfl rfl rfl) ?_
                refine gm_sz (fw_gr (pc := 221) (ix := 36) (ci := 11) (j := 16) (r := 233) (by decide +kernel) (e0k hE (k := 226) (c := 11) (by decide +kernel)) (by decide +kernel) (by decide +kernel) (e0r hE (k := 226) (j := 16) (r := 233) (by decide +kernel))) ?_
                refine gm_sz (gm_p_load (pc := 224) (i := .iload_n 2) (sr := 0) (j := 2) (by decide +kernel) rfl rfl rfl) ?_
                refine gm_sz (gm_p_const (pc := 225) (i := .iconst 1) (v := gm_vi 1) (by decide +kernel) (by decide +kernel)) ?_
                refine gm_sz (gm_p_bin (pc := 226) (i := .isub) (f := fun x y => x - y) (by decide +kernel) rfl) ?_
                refine gm_sz (gm_p_load (pc := 227) (i := .iload 5) (sr := 0) (j := 5) (by decide +kernel) rfl rfl rfl) ?_
                refine gm_sz (gm_p_const (pc := 229) (i := .bipush 11) (v := gm_vi 11) (by decide +kernel) (by decide +kernel)) ?_
                refine fw_ict (cc := .ne) (pc := 231) (off := 11) (by decide +kernel) (by decide) ⟨by omega, by omega⟩ ⟨by decide, by decide⟩ (show ¬ (G (444 + (2 * j))) = 11 by omega) ?_
                refine gm_sz (gm_p_load (pc := 242) (i := .iload 8) (sr := 0) (j := 8) (by decide +kernel) rfl rfl rfl) ?_
                refine fw_iffd (cc := .eq) (pc := 244) (off := 7) (by decide +kernel) (by decide) ⟨by decide, by decide⟩ (by decide) ?_
                refine gm_sz (gm_p_const (pc := 247) (i := .iconst 1) (v := gm_vi 1) (by decide +kernel) (by decide +kernel)) ?_
                refine gm_sz (gm_p_goto (pc := 248) (off := 4) (by decide +kernel) (by decide)) ?_
                refine gm_sz (fw_is (pc := 252) (k := 233) (len := 400) (e0 := (t - 1) - 1) (x := 1) (M' := gm_uM M1 233 ((t - 1) - 1) 1) (by decide +kernel) (e0a hE (k := 233) (q := ((0 : Nat), (400 : Nat))) (by decide +kernel)).1 (e0a hE (k := 233) (q := ((0 : Nat), (400 : Nat))) (by decide +kernel)).2 (by decide) ⟨by omega, by omega⟩ rfl) ?_
                refine gm_sz (gm_p_iinc (pc := 253) (j := 4) (z := 1) (by decide +kernel) rfl) ?_
                refine gm_sz (gm_p_goto (pc := 256) (off := (-236)) (by decide +kernel) (by decide)) ?_
                have e9 : rv1 (fcts N h l r y s p a dp) (G (444 + 2 * j)) (G (444 + 2 * j + 1)) (V, t) = (nup V ((t - 1) - 1) 1, t - 1) := by
                  unfold rv1 rbin
                  dsimp only
                  repeat (first | rw [if_pos (by omega)] | rw [if_neg (by omega)])
                rw [e9] at hev
                exact ih (j + 1) _ _ _ _ _ _ _ (by omega) (by omega) (fr_p (fr_t fr_0 hf (by decide)) (Or.inl (by decide))) (nup_s hV) h9.2 hev
          · have h163 : (G (444 + (2 * j))) = 13 := Classical.not_not.mp h163
            refine gm_sz (gm_p_load (pc := 166) (i := .iload 6) (sr := 0) (j := 6) (by decide +kernel) rfl rfl rfl) ?_
            refine gm_sz (gm_p_load (pc := 168) (i := .iload 7) (sr := 0) (j := 7) (by decide +kernel) rfl rfl rfl) ?_
            refine gm_b_ic (cc := .le) (pc := 170) (off := 7) (by decide +kernel) (by decide) (fun h170 => ?_) (fun h170 => ?_)
            · have h170 : gm_w (V ((t - 1) - 1)) ≤ gm_w (V (t - 1)) := h170
              refine gm_sz (gm_p_const (pc := 177) (i := .iconst 0) (v := gm_vi 0) (by decide +kernel) (by decide +kernel)) ?_
              refine gm_sz (gm_p_goto (pc := 178) (off := 40) (by decide +kernel) (by decide)) ?_
              refine gm_sz (gm_p_stor (pc := 218) (i := .istore 8) (sr := 0) (j := 8) (by decide +kernel) rfl (show 9 ≤ _ from Nat.le_of_ble_eq_true rfl) rfl) ?_
              show gm_Wp X LX d _ _ 295 220 [some (gm_vr 226), some (gm_vi k), some (gm_vi (t - 1)), some (gm_vi (396 + (4 * k))), some (gm_vi j), some (gm_vi (G (444 + (2 * j)))), some (gm_vi (V ((t - 1) - 1))), some (gm_vi (V (t - 1))), some (gm_vi 0)] [] n K _ _ Q
              refine gm_sz (gm_p_load (pc := 220) (i := .aload_n 0) (sr := 2) (j := 0) (by decide +kernel) rfl rfl rfl) ?_
              refine gm_sz (fw_gr (pc := 221) (ix := 36) (ci := 11) (j := 16) (r := 233) (by decide +kernel) (e0k hE (k := 226) (c := 11) (by decide +kernel)) (by decide +kernel) (by decide +kernel) (e0r hE (k := 226) (j := 16) (r := 233) (by decide +kernel))) ?_
              refine gm_sz (gm_p_load (pc := 224) (i := .iload_n 2) (sr := 0) (j := 2) (by decide +kernel) rfl rfl rfl) ?_
              refine gm_sz (gm_p_const (pc := 225) (i := .iconst 1) (v := gm_vi 1) (by decide +kernel) (by decide +kernel)) ?_
              refine gm_sz (gm_p_bin (pc := 226) (i := .isub) (f := fun x y => x - y) (by decide +kernel) rfl) ?_
              refine gm_sz (gm_p_load (pc := 227) (i := .iload 5) (sr := 0) (j := 5) (by decide +kernel) rfl rfl rfl) ?_
              refine gm_sz (gm_p_const (pc := 229) (i := .bipush 11) (v := gm_vi 11) (by decide +kernel) (by decide +kernel)) ?_
              refine fw_ict (cc := .ne) (pc := 231) (off := 11) (by decide +kernel) (by decide) ⟨by omega, by omega⟩ ⟨by decide, by decide⟩ (show ¬ (G (444 + (2 * j))) = 11 by omega) ?_
              refine gm_sz (gm_p_load (pc := 242) (i := .iload 8) (sr := 0) (j := 8) (by decide +kernel) rfl rfl rfl) ?_
              refine fw_iftd (cc := .eq) (pc := 244) (off := 7) (by decide +kernel) (by decide) ⟨by decide, by decide⟩ (by decide) ?_
              refine gm_sz (gm_p_const (pc := 251) (i := .iconst 0) (v := gm_vi 0) (by decide +kernel) (by decide +kernel)) ?_
              refine gm_sz (fw_is (pc := 252) (k := 233) (len := 400) (e0 := (t - 1) - 1) (x := 0) (M' := gm_uM M1 233 ((t - 1) - 1) 0) (by decide +kernel) (e0a hE (k := 233) (q := ((0 : Nat), (400 : Nat))) (by decide +kernel)).1 (e0a hE (k := 233) (q := ((0 : Nat), (400 : Nat))) (by decide +kernel)).2 (by decide) ⟨by omega, by omega⟩ rfl) ?_
              refine gm_sz (gm_p_iinc (pc := 253) (j := 4) (z := 1) (by decide +kernel) rfl) ?_
              refine gm_sz (gm_p_goto (pc := 256) (off := (-236)) (by decide +kernel) (by decide)) ?_
              have e9 : rv1 (fcts N h l r y s p a dp) (G (444 + 2 * j)) (G (444 + 2 * j + 1)) (V, t) = (nup V ((t - 1) - 1) 0, t - 1) := by
                unfold rv1 rbin
                dsimp only
                repeat (first | rw [if_pos (by omega)] | rw [if_neg (by omega)])
              rw [e9] at hev
              exact ih (j + 1) _ _ _ _ _ _ _ (by omega) (by omega) (fr_p (fr_t fr_0 hf (by decide)) (Or.inl (by decide))) (nup_s hV) h9.2 hev
            · have h170 : ¬ gm_w (V ((t - 1) - 1)) ≤ gm_w (V (t - 1)) := h170
              refine gm_sz (gm_p_const (pc := 173) (i := .iconst 1) (v := gm_vi 1) (by decide +kernel) (by decide +kernel)) ?_
              refine gm_sz (gm_p_goto (pc := 174) (off := 44) (by decide +kernel) (by decide)) ?_
              refine gm_sz (gm_p_stor (pc := 218) (i := .istore 8) (sr := 0) (j := 8) (by decide +kernel) rfl (show 9 ≤ _ from Nat.le_of_ble_eq_true rfl) rfl) ?_
              show gm_Wp X LX d _ _ 295 220 [some (gm_vr 226), some (gm_vi k), some (gm_vi (t - 1)), some (gm_vi (396 + (4 * k))), some (gm_vi j), some (gm_vi (G (444 + (2 * j)))), some (gm_vi (V ((t - 1) - 1))), some (gm_vi (V (t - 1))), some (gm_vi 1)] [] n K _ _ Q
              refine gm_sz (gm_p_load (pc := 220) (i := .aload_n 0) (sr := 2) (j := 0) (by decide +kernel) rfl rfl rfl) ?_
              refine gm_sz (fw_gr (pc := 221) (ix := 36) (ci := 11) (j := 16) (r := 233) (by decide +kernel) (e0k hE (k := 226) (c := 11) (by decide +kernel)) (by decide +kernel) (by decide +kernel) (e0r hE (k := 226) (j := 16) (r := 233) (by decide +kernel))) ?_
              refine gm_sz (gm_p_load (pc := 224) (i := .iload_n 2) (sr := 0) (j := 2) (by decide +kernel) rfl rfl rfl) ?_
              refine gm_sz (gm_p_const (pc := 225) (i := .iconst 1) (v := gm_vi 1) (by decide +kernel) (by decide +kernel)) ?_
              refine gm_sz (gm_p_bin (pc := 226) (i := .isub) (f := fun x y => x - y) (by decide +kernel) rfl) ?_
              refine gm_sz (gm_p_load (pc := 227) (i := .iload 5) (sr := 0) (j := 5) (by decide +kernel) rfl rfl rfl) ?_
              refine gm_sz (gm_p_const (pc := 229) (i := .bipush 11) (v := gm_vi 11) (by decide +kernel) (by decide +kernel)) ?_
              refine fw_ict (cc := .ne) (pc := 231) (off := 11) (by decide +kernel) (by decide) ⟨by omega, by omega⟩ ⟨by decide, by decide⟩ (show ¬ (G (444 + (2 * j))) = 11 by omega) ?_
              refine gm_sz (gm_p_load (pc := 242) (i := .iload 8) (sr := 0) (j := 8) (by decide +kernel) rfl rfl rfl) ?_
              refine fw_iffd (cc := .eq) (pc := 244) (off := 7) (by decide +kernel) (by decide) ⟨by decide, by decide⟩ (by decide) ?_
              refine gm_sz (gm_p_const (pc := 247) (i := .iconst 1) (v := gm_vi 1) (by decide +kernel) (by decide +kernel)) ?_
              refine gm_sz (gm_p_goto (pc := 248) (off := 4) (by decide +kernel) (by decide)) ?_
              refine gm_sz (fw_is (pc := 252) (k := 233) (len := 400) (e0 := (t - 1) - 1) (x := 1) (M' := gm_uM M1 233 ((t - 1) - 1) 1) (by decide +kernel) (e0a hE (k := 233) (q := ((0 : Nat), (400 : Nat))) (by decide +kernel)).1 (e0a hE (k := 233) (q := ((0 : Nat), (400 : Nat))) (by decide +kernel)).2 (by decide) ⟨by omega, by omega⟩ rfl) ?_
              refine gm_sz (gm_p_iinc (pc := 253) (j := 4) (z := 1) (by decide +kernel) rfl) ?_
              refine gm_sz (gm_p_goto (pc := 256) (off := (-236)) (by decide +kernel) (by decide)) ?_
              have e9 : rv1 (fcts N h l r y s p a dp) (G (444 + 2 * j)) (G (444 + 2 * j + 1)) (V, t) = (nup V ((t - 1) - 1) 1, t - 1) := by
                unfold rv1 rbin
                dsimp only
                repeat (first | rw [if_pos (by omega)] | rw [if_neg (by omega)])
              rw [e9] at hev
              exact ih (j + 1) _ _ _ _ _ _ _ (by omega) (by omega) (fr_p (fr_t fr_0 hf (by decide)) (Or.inl (by decide))) (nup_s hV) h9.2 hev
        · have h141 : (G (444 + (2 * j))) = 12 := Classical.not_not.mp h141
          refine gm_sz (gm_p_load (pc := 144) (i := .iload 6) (sr := 0) (j := 6) (by decide +kernel) rfl rfl rfl) ?_
          refine gm_sz (gm_p_load (pc := 146) (i := .iload 7) (sr := 0) (j := 7) (by decide +kernel) rfl rfl rfl) ?_
          refine gm_b_ic (cc := .ge) (pc := 148) (off := 7) (by decide +kernel) (by decide) (fun h148 => ?_) (fun h148 => ?_)
          · have h148 : gm_w (V (t - 1)) ≤ gm_w (V ((t - 1) - 1)) := h148
            refine gm_sz (gm_p_const (pc := 155) (i := .iconst 0) (v := gm_vi 0) (by decide +kernel) (by decide +kernel)) ?_
            refine gm_sz (gm_p_goto (pc := 156) (off := 62) (by decide +kernel) (by decide)) ?_
            refine gm_sz (gm_p_stor (pc := 218) (i := .istore 8) (sr := 0) (j := 8) (by decide +kernel) rfl (show 9 ≤ _ from Nat.le_of_ble_eq_true rfl) rfl) ?_
            show gm_Wp X LX d _ _ 295 220 [some (gm_vr 226), some (gm_vi k), some (gm_vi (t - 1)), some (gm_vi (396 + (4 * k))), some (gm_vi j), some (gm_vi (G (444 + (2 * j)))), some (gm_vi (V ((t - 1) - 1))), some (gm_vi (V (t - 1))), some (gm_vi 0)] [] n K _ _ Q
            refine gm_sz (gm_p_load (pc := 220) (i := .aload_n 0) (sr := 2) (j := 0) (by decide +kernel) rfl rfl rfl) ?_
            refine gm_sz (fw_gr (pc := 221) (ix := 36) (ci := 11) (j := 16) (r := 233) (by decide +kernel) (e0k hE (k := 226) (c := 11) (by decide +kernel)) (by decide +kernel) (by decide +kernel) (e0r hE (k := 226) (j := 16) (r := 233) (by decide +kernel))) ?_
            refine gm_sz (gm_p_load (pc := 224) (i := .iload_n 2) (sr := 0) (j := 2) (by decide +kernel) rfl rfl rfl) ?_
            refine gm_sz (gm_p_const (pc := 225) (i := .iconst 1) (v := gm_vi 1) (by decide +kernel) (by decide +kernel)) ?_
            refine gm_sz (gm_p_bin (pc := 226) (i := .isub) (f := fun x y => x - y) (by decide +kernel) rfl) ?_
            refine gm_sz (gm_p_load (pc := 227) (i := .iload 5) (sr := 0) (j := 5) (by decide +kernel) rfl rfl rfl) ?_
            refine gm_sz (gm_p_const (pc := 229) (i := .bipush 11) (v := gm_vi 11) (by decide +kernel) (by decide +kernel)) ?_
            refine fw_ict (cc := .ne) (pc := 231) (off := 11) (by decide +kernel) (by decide) ⟨by omega, by omega⟩ ⟨by decide, by decide⟩ (show ¬ (G (444 + (2 * j))) = 11 by omega) ?_
            refine gm_sz (gm_p_load (pc := 242) (i := .iload 8) (sr := 0) (j := 8) (by decide +kernel) rfl rfl rfl) ?_
            refine fw_iftd (cc := .eq) (pc := 244) (off := 7) (by decide +kernel) (by decide) ⟨by decide, by decide⟩ (by decide) ?_
            refine gm_sz (gm_p_const (pc := 251) (i := .iconst 0) (v := gm_vi 0) (by decide +kernel) (by decide +kernel)) ?_
            refine gm_sz (fw_is (pc := 252) (k := 233) (len := 400) (e0 := (t - 1) - 1) (x := 0) (M' := gm_uM M1 233 ((t - 1) - 1) 0) (by decide +kernel) (e0a hE (k := 233) (q := ((0 : Nat), (400 : Nat))) (by decide +kernel)).1 (e0a hE (k := 233) (q := ((0 : Nat), (400 : Nat))) (by decide +kernel)).2 (by decide) ⟨by omega, by omega⟩ rfl) ?_
            refine gm_sz (gm_p_iinc (pc := 253) (j := 4) (z := 1) (by decide +kernel) rfl) ?_
            refine gm_sz (gm_p_goto (pc := 256) (off := (-236)) (by decide +kernel) (by decide)) ?_
            have e9 : rv1 (fcts N h l r y s p a dp) (G (444 + 2 * j)) (G (444 + 2 * j + 1)) (V, t) = (nup V ((t - 1) - 1) 0, t - 1) := by
              unfold rv1 rbin
              dsimp only
              repeat (first | rw [if_pos (by omega)] | rw [if_neg (by omega)])
            rw [e9] at hev
            exact ih (j + 1) _ _ _ _ _ _ _ (by omega) (by omega) (fr_p (fr_t fr_0 hf (by decide)) (Or.inl (by decide))) (nup_s hV) h9.2 hev
          · have h148 : ¬ gm_w (V (t - 1)) ≤ gm_w (V ((t - 1) - 1)) := h148
            refine gm_sz (gm_p_const (pc := 151) (i := .iconst 1) (v := gm_vi 1) (by decide +kernel) (by decide +kernel)) ?_
            refine gm_sz (gm_p_goto (pc := 152) (off := 66) (by decide +kernel) (by decide)) ?_
            refine gm_sz (gm_p_stor (pc := 218) (i := .istore 8) (sr := 0) (j := 8) (by decide +kernel) rfl (show 9 ≤ _ from Nat.le_of_ble_eq_true rfl) rfl) ?_
            show gm_Wp X LX d _ _ 295 220 [some (gm_vr 226), some (gm_vi k), some (gm_vi (t - 1)), some (gm_vi (396 + (4 * k))), some (gm_vi j), some (gm_vi (G (444 + (2 * j)))), some (gm_vi (V ((t - 1) - 1))), some (gm_vi (V (t - 1))), some (gm_vi 1)] [] n K _ _ Q
            refine gm_sz (gm_p_load (pc := 220) (i := .aload_n 0) (sr := 2) (j := 0) (by decide +kernel) rfl rfl rfl) ?_
            refine gm_sz (fw_gr (pc := 221) (ix := 36) (ci := 11) (j := 16) (r := 233) (by decide +kernel) (e0k hE (k := 226) (c := 11) (by decide +kernel)) (by decide +kernel) (by decide +kernel) (e0r hE (k := 226) (j := 16) (r := 233) (by decide +kernel))) ?_
            refine gm_sz (gm_p_load (pc := 224) (i := .iload_n 2) (sr := 0) (j := 2) (by decide +kernel) rfl rfl rfl) ?_
            refine gm_sz (gm_p_const (pc := 225) (i := .iconst 1) (v := gm_vi 1) (by decide +kernel) (by decide +kernel)) ?_
            refine gm_sz (gm_p_bin (pc := 226) (i := .isub) (f := fun x y => x - y) (by decide +kernel) rfl) ?_
            refine gm_sz (gm_p_load (pc := 227) (i := .iload 5) (sr := 0) (j := 5) (by decide +kernel) rfl rfl rfl) ?_
            refine gm_sz (gm_p_const (pc := 229) (i := .bipush 11) (v := gm_vi 11) (by decide +kernel) (by decide +kernel)) ?_
            refine fw_ict (cc := .ne) (pc := 231) (off := 11) (by decide +kernel) (by decide) ⟨by omega, by omega⟩ ⟨by decide, by decide⟩ (show ¬ (G (444 + (2 * j))) = 11 by omega) ?_
            refine gm_sz (gm_p_load (pc := 242) (i := .iload 8) (sr := 0) (j := 8) (by decide +kernel) rfl rfl rfl) ?_
            refine fw_iffd (cc := .eq) (pc := 244) (off := 7) (by decide +kernel) (by decide) ⟨by decide, by decide⟩ (by decide) ?_
            refine gm_sz (gm_p_const (pc := 247) (i := .iconst 1) (v := gm_vi 1) (by decide +kernel) (by decide +kernel)) ?_
            refine gm_sz (gm_p_goto (pc := 248) (off := 4) (by decide +kernel) (by decide)) ?_
            refine gm_sz (fw_is (pc := 252) (k := 233) (len := 400) (e0 := (t - 1) - 1) (x := 1) (M' := gm_uM M1 233 ((t - 1) - 1) 1) (by decide +kernel) (e0a hE (k := 233) (q := ((0 : Nat), (400 : Nat))) (by decide +kernel)).1 (e0a hE (k := 233) (q := ((0 : Nat), (400 : Nat))) (by decide +kernel)).2 (by decide) ⟨by omega, by omega⟩ rfl) ?_
            refine gm_sz (gm_p_iinc (pc := 253) (j := 4) (z := 1) (by decide +kernel) rfl) ?_
            refine gm_sz (gm_p_goto (pc := 256) (off := (-236)) (by decide +kernel) (by decide)) ?_
            have e9 : rv1 (fcts N h l r y s p a dp) (G (444 + 2 * j)) (G (444 + 2 * j + 1)) (V, t) = (nup V ((t - 1) - 1) 1, t - 1) := by
              unfold rv1 rbin
              dsimp only
              repeat (first | rw [if_pos (by omega)] | rw [if_neg (by omega)])
            rw [e9] at hev
            exact ih (j + 1) _ _ _ _ _ _ _ (by omega) (by omega) (fr_p (fr_t fr_0 hf (by decide)) (Or.inl (by decide))) (nup_s hV) h9.2 hev
      · have h92 : (G (444 + (2 * j))) = 14 := Classical.not_not.mp h92
        have h9 := ho2 (by omega)
        obtain ⟨t0, t1⟩ := h9.1
        refine gm_sz (gm_p_load (pc := 95) (i := .aload_n 0) (sr := 2) (j := 0) (by decide +kernel) rfl rfl rfl) ?_
        refine gm_sz (fw_gr (pc := 96) (ix := 36) (ci := 11) (j := 16) (r := 233) (by decide +kernel) (e0k hE (k := 226) (c := 11) (by decide +kernel)) (by decide +kernel) (by decide +kernel) (e0r hE (k := 226) (j := 16) (r := 233) (by decide +kernel))) ?_
        refine gm_sz (gm_p_load (pc := 99) (i := .iload_n 2) (sr := 0) (j := 2) (by decide +kernel) rfl rfl rfl) ?_
        refine gm_sz (gm_p_const (pc := 100) (i := .iconst 1) (v := gm_vi 1) (by decide +kernel) (by decide +kernel)) ?_
        refine gm_sz (gm_p_bin (pc := 101) (i := .isub) (f := fun x y => x - y) (by decide +kernel) rfl) ?_
        refine gm_sz (gm_p_const (pc := 102) (i := .iconst 1) (v := gm_vi 1) (by decide +kernel) (by decide +kernel)) ?_
        refine gm_sz (gm_p_load (pc := 103) (i := .aload_n 0) (sr := 2) (j := 0) (by decide +kernel) rfl rfl rfl) ?_
        refine gm_sz (fw_gr (pc := 104) (ix := 36) (ci := 11) (j := 16) (r := 233) (by decide +kernel) (e0k hE (k := 226) (c := 11) (by decide +kernel)) (by decide +kernel) (by decide +kernel) (e0r hE (k := 226) (j := 16) (r := 233) (by decide +kernel))) ?_
        refine gm_sz (gm_p_load (pc := 107) (i := .iload_n 2) (sr := 0) (j := 2) (by decide +kernel) rfl rfl rfl) ?_
        refine gm_sz (gm_p_const (pc := 108) (i := .iconst 1) (v := gm_vi 1) (by decide +kernel) (by decide +kernel)) ?_
        refine gm_sz (gm_p_bin (pc := 109) (i := .isub) (f := fun x y => x - y) (by decide +kernel) rfl) ?_
        refine gm_sz (fw_ia (pc := 110) (k := 233) (len := 400) (e0 := t - 1) (x := V (t - 1)) (by decide +kernel) (e0a hE (k := 233) (q := ((0 : Nat), (400 : Nat))) (by decide +kernel)).1 (e0a hE (k := 233) (q := ((0 : Nat), (400 : Nat))) (by decide +kernel)).2 (by decide) ⟨by omega, by omega⟩ (congrFun hV _)) ?_
        refine gm_sz (gm_p_bin (pc := 111) (i := .isub) (f := fun x y => x - y) (by decide +kernel) rfl) ?_
        refine gm_sz (fw_is (pc := 112) (k := 233) (len := 400) (e0 := t - 1) (x := 1 - (V (t - 1))) (M' := gm_uM M1 233 (t - 1) (1 - (V (t - 1)))) (by decide +kernel) (e0a hE (k := 233) (q := ((0 : Nat), (400 : Nat))) (by decide +kernel)).1 (e0a hE (k := 233) (q := ((0 : Nat), (400 : Nat))) (by decide +kernel)).2 (by decide) ⟨by omega, by omega⟩ rfl) ?_
        refine gm_sz (gm_p_goto (pc := 113) (off := 140) (by decide +kernel) (by decide)) ?_
        refine gm_sz (gm_p_iinc (pc := 253) (j := 4) (z := 1) (by decide +kernel) rfl) ?_
        refine gm_sz (gm_p_goto (pc := 256) (off := (-236)) (by decide +kernel) (by decide)) ?_
        have e9 : rv1 (fcts N h l r y s p a dp) (G (444 + 2 * j)) (G (444 + 2 * j + 1)) (V, t) = (nup V (t - 1) (1 - (V (t - 1))), t) := by
          unfold rv1 rbin
          dsimp only
          repeat (first | rw [if_pos (by omega)] | rw [if_neg (by omega)])
        rw [e9] at hev
        exact ih (j + 1) _ _ _ _ _ _ _ (by omega) (by omega) (fr_p (fr_t fr_0 hf (by decide)) (Or.inl (by decide))) (nup_s hV) h9.2 hev
    · have h52 : ¬ 10 < (G (444 + (2 * j))) := h52
      have h9 := ho1 (by omega)
      obtain ⟨t0, t1⟩ := h9.1
      refine gm_sz (gm_p_load (pc := 55) (i := .aload_n 0) (sr := 2) (j := 0) (by decide +kernel) rfl rfl rfl) ?_
      refine gm_sz (fw_gr (pc := 56) (ix := 36) (ci := 11) (j := 16) (r := 233) (by decide +kernel) (e0k hE (k := 226) (c := 11) (by decide +kernel)) (by decide +kernel) (by decide +kernel) (e0r hE (k := 226) (j := 16) (r := 233) (by decide +kernel))) ?_
      refine gm_sz (gm_p_load (pc := 59) (i := .iload_n 2) (sr := 0) (j := 2) (by decide +kernel) rfl rfl rfl) ?_
      refine gm_sz (gm_p_load (pc := 60) (i := .aload_n 0) (sr := 2) (j := 0) (by decide +kernel) rfl rfl rfl) ?_
      refine gm_sz (gm_p_load (pc := 61) (i := .iload 5) (sr := 0) (j := 5) (by decide +kernel) rfl rfl rfl) ?_
      refine gm_sz (gm_p_load (pc := 63) (i := .aload_n 0) (sr := 2) (j := 0) (by decide +kernel) rfl rfl rfl) ?_
      refine gm_sz (fw_gr (pc := 64) (ix := 13) (ci := 11) (j := 1) (r := 227) (by decide +kernel) (e0k hE (k := 226) (c := 11) (by decide +kernel)) (by decide +kernel) (by decide +kernel) (e0r hE (k := 226) (j := 1) (r := 227) (by decide +kernel))) ?_
      refine gm_sz (gm_p_const (pc := 67) (i := .sipush 444) (v := gm_vi 444) (by decide +kernel) (by decide +kernel)) ?_
      refine gm_sz (gm_p_const (pc := 70) (i := .iconst 2) (v := gm_vi 2) (by decide +kernel) (by decide +kernel)) ?_
      refine gm_sz (gm_p_load (pc := 71) (i := .iload 4) (sr := 0) (j := 4) (by decide +kernel) rfl rfl rfl) ?_
      refine gm_sz (gm_p_bin (pc := 73) (i := .imul) (f := fun x y => x * y) (by decide +kernel) rfl) ?_
      refine gm_sz (gm_p_bin (pc := 74) (i := .iadd) (f := fun x y => x + y) (by decide +kernel) rfl) ?_
      refine gm_sz (gm_p_const (pc := 75) (i := .iconst 1) (v := gm_vi 1) (by decide +kernel) (by decide +kernel)) ?_
      refine gm_sz (gm_p_bin (pc := 76) (i := .iadd) (f := fun x y => x + y) (by decide +kernel) rfl) ?_
      refine gm_sz (fw_ia (pc := 77) (k := 227) (len := 2093) (e0 := (444 + (2 * j)) + 1) (x := G ((444 + (2 * j)) + 1)) (by decide +kernel) (e0a hE (k := 227) (q := ((0 : Nat), (2093 : Nat))) (by decide +kernel)).1 (e0a hE (k := 227) (q := ((0 : Nat), (2093 : Nat))) (by decide +kernel)).2 (by decide) ⟨by omega, by omega⟩ ((fr_c hf (by decide)).trans (hG _ (by omega)))) ?_
      refine gm_c_virt (k := 226) (ci := 11) (mj := 296) (ix := 324) (pc := 78) (as := [gm_vi (G (444 + (2 * j))), gm_vi (G ((444 + (2 * j)) + 1))]) (st := [gm_vi t, gm_vr 233]) (d' := d - 1) (bc' := 0) (bs' := 0) (by decide +kernel) (by decide +kernel) (by decide +kernel) (by decide +kernel) (e0k hE (k := 226) (c := 11) (by decide +kernel)).1 (e0k hE (k := 226) (c := 11) (by decide +kernel)).2 (by decide) (by decide +kernel) (show 2 = gm_na 296 by decide +kernel) (fw_c2 fw_si fw_si) (show 3 ≤ gm_ml 296 by decide +kernel) (Nat.le_of_ble_eq_true rfl) (by omega) (Nat.zero_le _) (Nat.zero_le _) ?_
      refine re_fact (c := G (444 + (2 * j))) (x := G ((444 + (2 * j)) + 1)) (by omega) hE (tr_fr (W := [((233 : Nat), none)]) hT (fr_t fr_0 hf (by decide)) (by decide)) hN ((fr_c hf (by decide)).trans g17) ((fr_c hf (by decide)).trans g18) ((fr_c hf (by decide)).trans g19) ((fr_c hf (by decide)).trans g20) ((fr_c hf (by decide)).trans g21) ((fr_c hf (by decide)).trans g22) ((fr_c hf (by decide)).trans g23) hl hy ⟨by omega, by omega⟩ ?_
      show gm_Wp X LX d _ _ 295 81 _ [gm_vi (rfa (fcts N h l r y s p a dp) (G (444 + (2 * j))) (G ((444 + (2 * j)) + 1))), gm_vi t, gm_vr 233] n K _ _ Q
      refine gm_sz (fw_is (pc := 81) (k := 233) (len := 400) (e0 := t) (x := rfa (fcts N h l r y s p a dp) (G (444 + (2 * j))) (G ((444 + (2 * j)) + 1))) (M' := gm_uM M1 233 t (rfa (fcts N h l r y s p a dp) (G (444 + (2 * j))) (G ((444 + (2 * j)) + 1)))) (by decide +kernel) (e0a hE (k := 233) (q := ((0 : Nat), (400 : Nat))) (by decide +kernel)).1 (e0a hE (k := 233) (q := ((0 : Nat), (400 : Nat))) (by decide +kernel)).2 (by decide) ⟨by omega, by omega⟩ rfl) ?_
      refine gm_sz (gm_p_iinc (pc := 82) (j := 2) (z := 1) (by decide +kernel) rfl) ?_
      refine gm_sz (gm_p_goto (pc := 85) (off := 168) (by decide +kernel) (by decide)) ?_
      refine gm_sz (gm_p_iinc (pc := 253) (j := 4) (z := 1) (by decide +kernel) rfl) ?_
      refine gm_sz (gm_p_goto (pc := 256) (off := (-236)) (by decide +kernel) (by decide)) ?_
      have e9 : rv1 (fcts N h l r y s p a dp) (G (444 + 2 * j)) (G (444 + 2 * j + 1)) (V, t) = (nup V t (rfa (fcts N h l r y s p a dp) (G (444 + (2 * j))) (G ((444 + (2 * j)) + 1))), t + 1) := by
        unfold rv1 rbin
        dsimp only
        repeat (first | rw [if_pos (by omega)] | rw [if_neg (by omega)])
      rw [e9] at hev
      exact ih (j + 1) _ _ _ _ _ _ _ (by omega) (by omega) (fr_p (fr_t fr_0 hf (by decide)) (Or.inl (by decide))) (nup_s hV) h9.2 hev
theorem re_c295 (hd : 2 ≤ d) (hE : E0 n K R) (hT : TR N h M) (hN : NR N) (hG : ∀ j, (395 ≤ j ∨ j = 8) → M 227 j = G j) (g17 : M 226 17 = l) (g18 : M 226 18 = r) (g19 : M 226 19 = y) (g20 : M 226 20 = s) (g21 : M 226 21 = p) (g22 : M 226 22 = a) (g23 : M 226 23 = dp) (hl : 0 ≤ l ∧ l < 6) (hy : 0 ≤ y ∧ y < 300) (hk : 0 ≤ k ∧ k < m) (hL : LG G m) (hH : HHL H G m) (q1 : H (fcts N h l r y s p a dp) k → ∀ M2, fr [((233 : Nat), none)] M M2 → Q (.inl (some (gm_vi 1))) n K R M2) (q0 : ¬ H (fcts N h l r y s p a dp) k → ∀ M2, fr [((233 : Nat), none)] M M2 → Q (.inl (some (gm_vi 0))) n K R M2) : gm_Wp X LX d bc bs 295 0 (gm_ent 295 [gm_vr 226, gm_vi k]) [] n K R M Q := by
  obtain ⟨⟨-, -, m0, m1⟩, hLk⟩ := id hL
  obtain ⟨-, -, ⟨b1, b2, b3⟩, ho⟩ := hLk k hk.1 hk.2
  have hh := hH (fcts N h l r y s p a dp) k (M 233) fb_fcts hk.1 hk.2
  refine gm_sz (gm_p_const (pc := 0) (i := .iconst 0) (v := gm_vi 0) (by decide +kernel) (by decide +kernel)) ?_
  refine gm_sz (gm_p_stor (pc := 1) (i := .istore_n 2) (sr := 0) (j := 2) (by decide +kernel) rfl (show 3 ≤ _ from Nat.le_of_ble_eq_true rfl) rfl) ?_
  show gm_Wp X LX d _ _ 295 2 [some (gm_vr 226), some (gm_vi k), some (gm_vi 0), none, none, none, none, none, none] [] n K _ _ Q
  refine gm_sz (gm_p_const (pc := 2) (i := .sipush 396) (v := gm_vi 396) (by decide +kernel) (by decide +kernel)) ?_
  refine gm_sz (gm_p_const (pc := 5) (i := .iconst 4) (v := gm_vi 4) (by decide +kernel) (by decide +kernel)) ?_
  refine gm_sz (gm_p_load (pc := 6) (i := .iload_n 1) (sr := 0) (j := 1) (by decide +kernel) rfl rfl rfl) ?_
  refine gm_sz (gm_p_bin (pc := 7) (i := .imul) (f := fun x y => x * y) (by decide +kernel) rfl) ?_
  refine gm_sz (gm_p_bin (pc := 8) (i := .iadd) (f := fun x y => x + y) (by decide +kernel) rfl) ?_
  refine gm_sz (gm_p_stor (pc := 9) (i := .istore_n 3) (sr := 0) (j := 3) (by decide +kernel) rfl (show 4 ≤ _ from Nat.le_of_ble_eq_true rfl) rfl) ?_
  show gm_Wp X LX d _ _ 295 10 [some (gm_vr 226), some (gm_vi k), some (gm_vi 0), some (gm_vi (396 + (4 * k))), none, none, none, none, none] [] n K _ _ Q
  refine gm_sz (gm_p_load (pc := 10) (i := .aload_n 0) (sr := 2) (j := 0) (by decide +kernel) rfl rfl rfl) ?_
  refine gm_sz (fw_gr (pc := 11) (ix := 13) (ci := 11) (j := 1) (r := 227) (by decide +kernel) (e0k hE (k := 226) (c := 11) (by decide +kernel)) (by decide +kernel) (by decide +kernel) (e0r hE (k := 226) (j := 1) (r := 227) (by decide +kernel))) ?_
  refine gm_sz (gm_p_load (pc := 14) (i := .iload_n 3) (sr := 0) (j := 3) (by decide +kernel) rfl rfl rfl) ?_
  refine gm_sz (gm_p_const (pc := 15) (i := .iconst 2) (v := gm_vi 2) (by decide +kernel) (by decide +kernel)) ?_
  refine gm_sz (gm_p_bin (pc := 16) (i := .iadd) (f := fun x y => x + y) (by decide +kernel) rfl) ?_
  refine gm_sz (fw_ia (pc := 17) (k := 227) (len := 2093) (e0 := (396 + (4 * k)) + 2) (x := G ((396 + (4 * k)) + 2)) (by decide +kernel) (e0a hE (k := 227) (q := ((0 : Nat), (2093 : Nat))) (by decide +kernel)).1 (e0a hE (k := 227) (q := ((0 : Nat), (2093 : Nat))) (by decide +kernel)).2 (by decide) ⟨by omega, by omega⟩ (hG _ (by omega))) ?_
  refine gm_sz (gm_p_stor (pc := 18) (i := .istore 4) (sr := 0) (j := 4) (by decide +kernel) rfl (show 5 ≤ _ from Nat.le_of_ble_eq_true rfl) rfl) ?_
  show gm_Wp X LX d _ _ 295 20 [some (gm_vr 226), some (gm_vi k), some (gm_vi 0), some (gm_vi (396 + (4 * k))), some (gm_vi (G ((396 + (4 * k)) + 2))), none, none, none, none] [] n K _ _ Q
  exact re_hl hd hE hT hN hG g17 g18 g19 g20 g21 g22 g23 hl hy ⟨by omega, by omega⟩ b3 (fun hr => q1 (hh.mp hr)) (fun hr => q0 (fun h9 => hr (hh.mpr h9))) (G (396 + 4 * k + 3) - G (396 + 4 * k + 2)).toNat _ 0 (M 233) _ _ _ _ M (by omega) b1 fr_0 rfl ho rfl
theorem re_sl (hd : 3 ≤ d) (hE : E0 n K R) (hT : TR N h M) (hN : NR N) (hG : ∀ j, (395 ≤ j ∨ j = 8) → M 227 j = G j) (g17 : M 226 17 = l) (g18 : M 226 18 = r) (g19 : M 226 19 = y) (g20 : M 226 20 = s) (g21 : M 226 21 = p) (g22 : M 226 22 = a) (g23 : M 226 23 = dp) (hl : 0 ≤ l ∧ l < 6) (hy : 0 ≤ y ∧ y < 300) (hL : LG G m) (hH : HHL H G m) (hkd : 0 ≤ kd ∧ kd ≤ 2) (hq : ∀ M2, fr [((233 : Nat), none)] M M2 → Q (.inl (some (gm_vi (rsum H (fcts N h l r y s p a dp) G kd m.toNat)))) n K R M2) : ∀ (u k : Nat) (M1 : gm_M), (k : Int) + (u : Int) = m → fr [((233 : Nat), none)] M M1 → gm_Wp X LX d bc bs 294 4 [some (gm_vr 226), some (gm_vi kd), some (gm_vi (rsum H (fcts N h l r y s p a dp) G kd k)), some (gm_vi (k : Int))] [] n K R M1 Q := by
  obtain ⟨⟨G8, Gm, m0, m1⟩, hLk⟩ := id hL
  intro u
  induction u with
  | zero =>
    intro k M1 hk hf
    have ek : m.toNat = k := by omega
    rw [ek] at hq
    refine gm_sz (gm_p_load (pc := 4) (i := .aload_n 0) (sr := 2) (j := 0) (by decide +kernel) rfl rfl rfl) ?_
    refine gm_sz (fw_gr (pc := 5) (ix := 13) (ci := 11) (j := 1) (r := 227) (by decide +kernel) (e0k hE (k := 226) (c := 11) (by decide +kernel)) (by decide +kernel) (by decide +kernel) (e0r hE (k := 226) (j := 1) (r := 227) (by decide +kernel))) ?_
    refine gm_sz (gm_p_const (pc := 8) (i := .bipush 8) (v := gm_vi 8) (by decide +kernel) (by decide +kernel)) ?_
    refine gm_sz (fw_ia (pc := 10) (k := 227) (len := 2093) (e0 := 8) (x := 1) (by decide +kernel) (e0a hE (k := 227) (q := ((0 : Nat), (2093 : Nat))) (by decide +kernel)).1 (e0a hE (k := 227) (q := ((0 : Nat), (2093 : Nat))) (by decide +kernel)).2 (by decide) ⟨by omega, by omega⟩ ((fr_c hf (by decide)).trans ((hG _ (by omega)).trans G8))) ?_
    refine gm_sz (gm_p_const (pc := 11) (i := .iconst 1) (v := gm_vi 1) (by decide +kernel) (by decide +kernel)) ?_
    refine fw_icfd (cc := .ne) (pc := 12) (off := 66) (by decide +kernel) (by decide) ⟨by decide, by decide⟩ ⟨by decide, by decide⟩ (by decide) ?_
    refine gm_sz (gm_p_load (pc := 15) (i := .iload_n 3) (sr := 0) (j := 3) (by decide +kernel) rfl rfl rfl) ?_
    refine gm_sz (gm_p_load (pc := 16) (i := .aload_n 0) (sr := 2) (j := 0) (by decide +kernel) rfl rfl rfl) ?_
    refine gm_sz (fw_gr (pc := 17) (ix := 13) (ci := 11) (j := 1) (r := 227) (by decide +kernel) (e0k hE (k := 226) (c := 11) (by decide +kernel)) (by decide +kernel) (by decide +kernel) (e0r hE (k := 226) (j := 1) (r := 227) (by decide +kernel))) ?_
    refine gm_sz (gm_p_const (pc := 20) (i := .sipush 395) (v := gm_vi 395) (by decide +kernel) (by decide +kernel)) ?_
    refine gm_sz (fw_ia (pc := 23) (k := 227) (len := 2093) (e0 := 395) (x := m) (by decide +kernel) (e0a hE (k := 227) (q := ((0 : Nat), (2093 : Nat))) (by decide +kernel)).1 (e0a hE (k := 227) (q := ((0 : Nat), (2093 : Nat))) (by decide +kernel)).2 (by decide) ⟨by omega, by omega⟩ ((fr_c hf (by decide)).trans ((hG _ (by omega)).trans Gm))) ?_
    refine fw_ict (cc := .ge) (pc := 24) (off := 54) (by decide +kernel) (by decide) ⟨by omega, by omega⟩ ⟨by omega, by omega⟩ (show m ≤ (k : Int) by omega) ?_
    refine gm_sz (gm_p_load (pc := 78) (i := .iload_n 2) (sr := 0) (j := 2) (by decide +kernel) rfl rfl rfl) ?_
    exact gm_r_int (pc := 79) (by decide +kernel) (Or.inl (by decide +kernel)) (hq M1 hf)
  | succ u ih =>
    intro k M1 hk hf
    obtain ⟨⟨x1, x2⟩, ⟨x3, x4⟩, -⟩ := hLk k (by omega) (by omega)
    refine gm_sz (gm_p_load (pc := 4) (i := .aload_n 0) (sr := 2) (j := 0) (by decide +kernel) rfl rfl rfl) ?_
    refine gm_sz (fw_gr (pc := 5) (ix := 13) (ci := 11) (j := 1) (r := 227) (by decide +kernel) (e0k hE (k := 226) (c := 11) (by decide +kernel)) (by decide +kernel) (by decide +kernel) (e0r hE (k := 226) (j := 1) (r := 227) (by decide +kernel))) ?_
    refine gm_sz (gm_p_const (pc := 8) (i := .bipush 8) (v := gm_vi 8) (by decide +kernel) (by decide +kernel)) ?_
    refine gm_sz (fw_ia (pc := 10) (k := 227) (len := 2093) (e0 := 8) (x := 1) (by decide +kernel) (e0a hE (k := 227) (q := ((0 : Nat), (2093 : Nat))) (by decide +kernel)).1 (e0a hE (k := 227) (q := ((0 : Nat), (2093 : Nat))) (by decide +kernel)).2 (by decide) ⟨by omega, by omega⟩ ((fr_c hf (by decide)).trans ((hG _ (by omega)).trans G8))) ?_
    refine gm_sz (gm_p_const (pc := 11) (i := .iconst 1) (v := gm_vi 1) (by decide +kernel) (by decide +kernel)) ?_
    refine fw_icfd (cc := .ne) (pc := 12) (off := 66) (by decide +kernel) (by decide) ⟨by decide, by decide⟩ ⟨by decide, by decide⟩ (by decide) ?_
    refine gm_sz (gm_p_load (pc := 15) (i := .iload_n 3) (sr := 0) (j := 3) (by decide +kernel) rfl rfl rfl) ?_
    refine gm_sz (gm_p_load (pc := 16) (i := .aload_n 0) (sr := 2) (j := 0) (by decide +kernel) rfl rfl rfl) ?_
    refine gm_sz (fw_gr (pc := 17) (ix := 13) (ci := 11) (j := 1) (r := 227) (by decide +kernel) (e0k hE (k := 226) (c := 11) (by decide +kernel)) (by decide +kernel) (by decide +kernel) (e0r hE (k := 226) (j := 1) (r := 227) (by decide +kernel))) ?_
    refine gm_sz (gm_p_const (pc := 20) (i := .sipush 395) (v := gm_vi 395) (by decide +kernel) (by decide +kernel)) ?_
    refine gm_sz (fw_ia (pc := 23) (k := 227) (len := 2093) (e0 := 395) (x := m) (by decide +kernel) (e0a hE (k := 227) (q := ((0 : Nat), (2093 : Nat))) (by decide +kernel)).1 (e0a hE (k := 227) (q := ((0 : Nat), (2093 : Nat))) (by decide +kernel)).2 (by decide) ⟨by omega, by omega⟩ ((fr_c hf (by decide)).trans ((hG _ (by omega)).trans Gm))) ?_
    refine fw_icf (cc := .ge) (pc := 24) (off := 54) (by decide +kernel) (by decide) ⟨by omega, by omega⟩ ⟨by omega, by omega⟩ (show ¬ m ≤ (k : Int) by omega) ?_
    refine gm_sz (gm_p_load (pc := 27) (i := .iload_n 2) (sr := 0) (j := 2) (by decide +kernel) rfl rfl rfl) ?_
    refine gm_sz (gm_p_load (pc := 28) (i := .aload_n 0) (sr := 2) (j := 0) (by decide +kernel) rfl rfl rfl) ?_
    refine gm_sz (fw_gr (pc := 29) (ix := 13) (ci := 11) (j := 1) (r := 227) (by decide +kernel) (e0k hE (k := 226) (c := 11) (by decide +kernel)) (by decide +kernel) (by decide +kernel) (e0r hE (k := 226) (j := 1) (r := 227) (by decide +kernel))) ?_
    refine gm_sz (gm_p_const (pc := 32) (i := .sipush 396) (v := gm_vi 396) (by decide +kernel) (by decide +kernel)) ?_
    refine gm_sz (gm_p_const (pc := 35) (i := .iconst 4) (v := gm_vi 4) (by decide +kernel) (by decide +kernel)) ?_
    refine gm_sz (gm_p_load (pc := 36) (i := .iload_n 3) (sr := 0) (j := 3) (by decide +kernel) rfl rfl rfl) ?_
    refine gm_sz (gm_p_bin (pc := 37) (i := .imul) (f := fun x y => x * y) (by decide +kernel) rfl) ?_
    refine gm_sz (gm_p_bin (pc := 38) (i := .iadd) (f := fun x y => x + y) (by decide +kernel) rfl) ?_
    refine gm_sz (fw_ia (pc := 39) (k := 227) (len := 2093) (e0 := 396 + (4 * (k : Int))) (x := G (396 + (4 * (k : Int)))) (by decide +kernel) (e0a hE (k := 227) (q := ((0 : Nat), (2093 : Nat))) (by decide +kernel)).1 (e0a hE (k := 227) (q := ((0 : Nat), (2093 : Nat))) (by decide +kernel)).2 (by decide) ⟨by omega, by omega⟩ ((fr_c hf (by decide)).trans (hG _ (by omega)))) ?_
    refine gm_sz (gm_p_load (pc := 40) (i := .iload_n 1) (sr := 0) (j := 1) (by decide +kernel) rfl rfl rfl) ?_
    refine fw_ic (cc := .ne) (pc := 41) (off := 28) (by decide +kernel) (by decide) ⟨by omega, by omega⟩ ⟨by omega, by omega⟩ (fun h41 => ?_) (fun h41 => ?_)
    · have h41 : ¬ (G (396 + (4 * (k : Int)))) = kd := h41
      refine gm_sz (gm_p_const (pc := 69) (i := .iconst 0) (v := gm_vi 0) (by decide +kernel) (by decide +kernel)) ?_
      refine gm_sz (gm_p_bin (pc := 70) (i := .iadd) (f := fun x y => x + y) (by decide +kernel) rfl) ?_
      refine gm_sz (gm_p_stor (pc := 71) (i := .istore_n 2) (sr := 0) (j := 2) (by decide +kernel) rfl (show 3 ≤ _ from Nat.le_of_ble_eq_true rfl) rfl) ?_
      refine gm_sz (gm_p_iinc (pc := 72) (j := 3) (z := 1) (by decide +kernel) rfl) ?_
      refine gm_sz (gm_p_goto (pc := 75) (off := (-71)) (by decide +kernel) (by decide)) ?_
      have e9 : rsum H (fcts N h l r y s p a dp) G kd (k + 1) = (rsum H (fcts N h l r y s p a dp) G kd k) + 0 := by
        show rsum H (fcts N h l r y s p a dp) G kd k + _ = _
        rw [if_neg (fun hh => h41 hh.1)]
      rw [← e9]
      exact ih (k + 1) _ (by omega) (fr_t fr_0 hf (by decide))
    · have h41 : (G (396 + (4 * (k : Int)))) = kd := Classical.not_not.mp h41
      refine gm_sz (gm_p_load (pc := 44) (i := .aload_n 0) (sr := 2) (j := 0) (by decide +kernel) rfl rfl rfl) ?_
      refine gm_sz (gm_p_load (pc := 45) (i := .iload_n 3) (sr := 0) (j := 3) (by decide +kernel) rfl rfl rfl) ?_
      refine gm_c_virt (k := 226) (ci := 11) (mj := 295) (ix := 327) (pc := 46) (as := [gm_vi (k : Int)]) (st := [gm_vi (rsum H (fcts N h l r y s p a dp) G kd k)]) (d' := d - 1) (bc' := 0) (bs' := 0) (by decide +kernel) (by decide +kernel) (by decide +kernel) (by decide +kernel) (e0k hE (k := 226) (c := 11) (by decide +kernel)).1 (e0k hE (k := 226) (c := 11) (by decide +kernel)).2 (by decide) (by decide +kernel) (show 1 = gm_na 295 by decide +kernel) (fw_c1 fw_si) (show 2 ≤ gm_ml 295 by decide +kernel) (Nat.le_of_ble_eq_true rfl) (by omega) (Nat.zero_le _) (Nat.zero_le _) ?_
      refine re_c295 (k := (k : Int)) (m := m) (H := H) (by omega) hE (tr_fr (W := [((233 : Nat), none)]) hT (fr_t fr_0 hf (by decide)) (by decide)) hN (g_fr (W := [((233 : Nat), none)]) (fr_t fr_0 hf (by decide)) (by decide) hG) ((fr_c hf (by decide)).trans g17) ((fr_c hf (by decide)).trans g18) ((fr_c hf (by decide)).trans g19) ((fr_c hf (by decide)).trans g20) ((fr_c hf (by decide)).trans g21) ((fr_c hf (by decide)).trans g22) ((fr_c hf (by decide)).trans g23) hl hy ⟨by omega, by omega⟩ hL hH (fun v46 M46 hf46 => ?_) (fun v46 M46 hf46 => ?_)
      · show gm_Wp X LX d _ _ 294 49 _ [gm_vi 1, gm_vi (rsum H (fcts N h l r y s p a dp) G kd k)] n K _ _ Q
        refine fw_iffd (cc := .eq) (pc := 49) (off := 20) (by decide +kernel) (by decide) ⟨by decide, by decide⟩ (by decide) ?_
        refine gm_sz (gm_p_load (pc := 52) (i := .aload_n 0) (sr := 2) (j := 0) (by decide +kernel) rfl rfl rfl) ?_
        refine gm_sz (fw_gr (pc := 53) (ix := 13) (ci := 11) (j := 1) (r := 227) (by decide +kernel) (e0k hE (k := 226) (c := 11) (by decide +kernel)) (by decide +kernel) (by decide +kernel) (e0r hE (k := 226) (j := 1) (r := 227) (by decide +kernel))) ?_
        refine gm_sz (gm_p_const (pc := 56) (i := .sipush 396) (v := gm_vi 396) (by decide +kernel) (by decide +kernel)) ?_
        refine gm_sz (gm_p_const (pc := 59) (i := .iconst 4) (v := gm_vi 4) (by decide +kernel) (by decide +kernel)) ?_
        refine gm_sz (gm_p_load (pc := 60) (i := .iload_n 3) (sr := 0) (j := 3) (by decide +kernel) rfl rfl rfl) ?_
        refine gm_sz (gm_p_bin (pc := 61) (i := .imul) (f := fun x y => x * y) (by decide +kernel) rfl) ?_
        refine gm_sz (gm_p_bin (pc := 62) (i := .iadd) (f := fun x y => x + y) (by decide +kernel) rfl) ?_
        refine gm_sz (gm_p_const (pc := 63) (i := .iconst 1) (v := gm_vi 1) (by decide +kernel) (by decide +kernel)) ?_
        refine gm_sz (gm_p_bin (pc := 64) (i := .iadd) (f := fun x y => x + y) (by decide +kernel) rfl) ?_
        refine gm_sz (fw_ia (pc := 65) (k := 227) (len := 2093) (e0 := (396 + (4 * (k : Int))) + 1) (x := G ((396 + (4 * (k : Int))) + 1)) (by decide +kernel) (e0a hE (k := 227) (q := ((0 : Nat), (2093 : Nat))) (by decide +kernel)).1 (e0a hE (k := 227) (q := ((0 : Nat), (2093 : Nat))) (by decide +kernel)).2 (by decide) ⟨by omega, by omega⟩ ((fr_c hf46 (by decide)).trans ((fr_c hf (by decide)).trans (hG _ (by omega))))) ?_
        refine gm_sz (gm_p_goto (pc := 66) (off := 4) (by decide +kernel) (by decide)) ?_
        refine gm_sz (gm_p_bin (pc := 70) (i := .iadd) (f := fun x y => x + y) (by decide +kernel) rfl) ?_
        refine gm_sz (gm_p_stor (pc := 71) (i := .istore_n 2) (sr := 0) (j := 2) (by decide +kernel) rfl (show 3 ≤ _ from Nat.le_of_ble_eq_true rfl) rfl) ?_
        refine gm_sz (gm_p_iinc (pc := 72) (j := 3) (z := 1) (by decide +kernel) rfl) ?_
        refine gm_sz (gm_p_goto (pc := 75) (off := (-71)) (by decide +kernel) (by decide)) ?_
        have e9 : rsum H (fcts N h l r y s p a dp) G kd (k + 1) = (rsum H (fcts N h l r y s p a dp) G kd k) + (G ((396 + (4 * (k : Int))) + 1)) := by
          show rsum H (fcts N h l r y s p a dp) G kd k + _ = _
          rw [if_pos ⟨h41, v46⟩]
        rw [← e9]
        exact ih (k + 1) _ (by omega) (fr_t (fr_t fr_0 hf (by decide)) hf46 (by decide))
      · show gm_Wp X LX d _ _ 294 49 _ [gm_vi 0, gm_vi (rsum H (fcts N h l r y s p a dp) G kd k)] n K _ _ Q
        refine fw_iftd (cc := .eq) (pc := 49) (off := 20) (by decide +kernel) (by decide) ⟨by decide, by decide⟩ (by decide) ?_
        refine gm_sz (gm_p_const (pc := 69) (i := .iconst 0) (v := gm_vi 0) (by decide +kernel) (by decide +kernel)) ?_
        refine gm_sz (gm_p_bin (pc := 70) (i := .iadd) (f := fun x y => x + y) (by decide +kernel) rfl) ?_
        refine gm_sz (gm_p_stor (pc := 71) (i := .istore_n 2) (sr := 0) (j := 2) (by decide +kernel) rfl (show 3 ≤ _ from Nat.le_of_ble_eq_true rfl) rfl) ?_
        refine gm_sz (gm_p_iinc (pc := 72) (j := 3) (z := 1) (by decide +kernel) rfl) ?_
        refine gm_sz (gm_p_goto (pc := 75) (off := (-71)) (by decide +kernel) (by decide)) ?_
        have e9 : rsum H (fcts N h l r y s p a dp) G kd (k + 1) = (rsum H (fcts N h l r y s p a dp) G kd k) + 0 := by
          show rsum H (fcts N h l r y s p a dp) G kd k + _ = _
          rw [if_neg (fun hh => v46 hh.2)]
        rw [← e9]
        exact ih (k + 1) _ (by omega) (fr_t (fr_t fr_0 hf (by decide)) hf46 (by decide))
theorem re_c294 (hd : 3 ≤ d) (hE : E0 n K R) (hT : TR N h M) (hN : NR N) (hG : ∀ j, (395 ≤ j ∨ j = 8) → M 227 j = G j) (g17 : M 226 17 = l) (g18 : M 226 18 = r) (g19 : M 226 19 = y) (g20 : M 226 20 = s) (g21 : M 226 21 = p) (g22 : M 226 22 = a) (g23 : M 226 23 = dp) (hl : 0 ≤ l ∧ l < 6) (hy : 0 ≤ y ∧ y < 300) (hL : LG G m) (hH : HHL H G m) (hkd : 0 ≤ kd ∧ kd ≤ 2) (hq : ∀ M2, fr [((233 : Nat), none)] M M2 → Q (.inl (some (gm_vi (rsum H (fcts N h l r y s p a dp) G kd m.toNat)))) n K R M2) : gm_Wp X LX d bc bs 294 0 (gm_ent 294 [gm_vr 226, gm_vi kd]) [] n K R M Q := by
  obtain ⟨m0, m1⟩ := hL.1.2.2
  refine gm_sz (gm_p_const (pc := 0) (i := .iconst 0) (v := gm_vi 0) (by decide +kernel) (by decide +kernel)) ?_
  refine gm_sz (gm_p_stor (pc := 1) (i := .istore_n 2) (sr := 0) (j := 2) (by decide +kernel) rfl (show 3 ≤ _ from Nat.le_of_ble_eq_true rfl) rfl) ?_
  refine gm_sz (gm_p_const (pc := 2) (i := .iconst 0) (v := gm_vi 0) (by decide +kernel) (by decide +kernel)) ?_
  refine gm_sz (gm_p_stor (pc := 3) (i := .istore_n 3) (sr := 0) (j := 3) (by decide +kernel) rfl (show 4 ≤ _ from Nat.le_of_ble_eq_true rfl) rfl) ?_
  exact re_sl hd hE hT hN hG g17 g18 g19 g20 g21 g22 g23 hl hy hL hH hkd hq m.toNat 0 M (by omega) fr_0
theorem re_c294n (hE : E0 n K R) (h8 : M 227 8 = 0) (hq : Q (.inl (some (gm_vi 0))) n K R M) : gm_Wp X LX d bc bs 294 0 (gm_ent 294 [gm_vr 226, gm_vi kd]) [] n K R M Q := by
  refine gm_sz (gm_p_const (pc := 0) (i := .iconst 0) (v := gm_vi 0) (by decide +kernel) (by decide +kernel)) ?_
  refine gm_sz (gm_p_stor (pc := 1) (i := .istore_n 2) (sr := 0) (j := 2) (by decide +kernel) rfl (show 3 ≤ _ from Nat.le_of_ble_eq_true rfl) rfl) ?_
  refine gm_sz (gm_p_const (pc := 2) (i := .iconst 0) (v := gm_vi 0) (by decide +kernel) (by decide +kernel)) ?_
  refine gm_sz (gm_p_stor (pc := 3) (i := .istore_n 3) (sr := 0) (j := 3) (by decide +kernel) rfl (show 4 ≤ _ from Nat.le_of_ble_eq_true rfl) rfl) ?_
  refine gm_sz (gm_p_load (pc := 4) (i := .aload_n 0) (sr := 2) (j := 0) (by decide +kernel) rfl rfl rfl) ?_
  refine gm_sz (fw_gr (pc := 5) (ix := 13) (ci := 11) (j := 1) (r := 227) (by decide +kernel) (e0k hE (k := 226) (c := 11) (by decide +kernel)) (by decide +kernel) (by decide +kernel) (e0r hE (k := 226) (j := 1) (r := 227) (by decide +kernel))) ?_
  refine gm_sz (gm_p_const (pc := 8) (i := .bipush 8) (v := gm_vi 8) (by decide +kernel) (by decide +kernel)) ?_
  refine gm_sz (fw_ia (pc := 10) (k := 227) (len := 2093) (e0 := 8) (x := 0) (by decide +kernel) (e0a hE (k := 227) (q := ((0 : Nat), (2093 : Nat))) (by decide +kernel)).1 (e0a hE (k := 227) (q := ((0 : Nat), (2093 : Nat))) (by decide +kernel)).2 (by decide) ⟨by omega, by omega⟩ h8) ?_
  refine gm_sz (gm_p_const (pc := 11) (i := .iconst 1) (v := gm_vi 1) (by decide +kernel) (by decide +kernel)) ?_
  refine fw_ictd (cc := .ne) (pc := 12) (off := 66) (by decide +kernel) (by decide) ⟨by decide, by decide⟩ ⟨by decide, by decide⟩ (by decide) ?_
  refine gm_sz (gm_p_load (pc := 78) (i := .iload_n 2) (sr := 0) (j := 2) (by decide +kernel) rfl rfl rfl) ?_
  exact gm_r_int (pc := 79) (by decide +kernel) (Or.inl (by decide +kernel)) hq
/-- FLOW as the reference has it -/
noncomputable def rphi (N h : Int → Int) (H : (Int → Int) → Int → Prop) (G : Int → Int) (m : Int) (l r y : Int) : Int := max 0 (min 30 ((nsp N l r + rsum H (fcts N h l r y (nsp N l r) 0 0 0) G 0 m.toNat) - rsum H (fcts N h l r y (nsp N l r) 0 0 0) G 1 m.toNat))
noncomputable def rphi0 (N : Int → Int) (l r _y : Int) : Int := max 0 (min 30 ((nsp N l r + 0) - 0))
theorem re_flrx (hE : E0 n K R) (hN : NR N) (hS : NSb 6 N) (hL : LG G m) (hH : HHL H G m) : ∀ (d bc bs : Nat) (M : gm_M) (Q : gm_Q) (lane row year : Int), 12 ≤ d → 0 ≤ lane ∧ lane < 6 → 0 ≤ row ∧ row < 99 → 0 ≤ year ∧ year < 300 → TR N h M → (KFR N (rphi N h H G m) M ∧ ∀ j, (395 ≤ j ∨ j = 8) → M 227 j = G j) → (∀ M2, fr [((226 : Nat), some (26 : Int)), ((226 : Nat), some (17 : Int)), ((226 : Nat), some (18 : Int)), ((226 : Nat), some (19 : Int)), ((226 : Nat), some (20 : Int)), ((226 : Nat), some (21 : Int)), ((226 : Nat), some (22 : Int)), ((226 : Nat), some (23 : Int)), ((235 : Nat), none), ((233 : Nat), none)] M M2 → (KFR N (rphi N h H G m) M2 ∧ ∀ j, (395 ≤ j ∨ j = 8) → M2 227 j = G j) → Q (.inl (some (gm_vi (rphi N h H G m lane row year)))) n K R M2) → gm_Wp X LX d bc bs 292 0 (gm_ent 292 [gm_vr 226, gm_vi lane, gm_vi row, gm_vi year]) [] n K R M Q := by
  intro d bc bs M Q lane row year hd hl h2 h3 hT hI hq
  obtain ⟨hk, hG⟩ := hI
  obtain ⟨⟨⟨a0, b0⟩, ⟨a1, b1⟩, ⟨a10, b10⟩, ⟨a11, b11⟩, ⟨a12, b12⟩, a9, b9⟩, ⟨⟨a2, b2⟩, ⟨a5, b5⟩, ⟨a3, b3⟩, ⟨a4, b4⟩, ⟨a6, b6⟩, ⟨a14, b14⟩, ⟨a7, b7⟩, a13, b13⟩, rF, rP, rL⟩ := id hN
  obtain ⟨m0, m1⟩ := hL.1.2.2
  refine gm_sz (gm_p_load (pc := 0) (i := .aload_n 0) (sr := 2) (j := 0) (by decide +kernel) rfl rfl rfl) ?_
  refine gm_sz (gm_p_load (pc := 1) (i := .iload_n 1) (sr := 0) (j := 1) (by decide +kernel) rfl rfl rfl) ?_
  refine gm_c_virt (k := 226) (ci := 11) (mj := 293) (ix := 334) (pc := 2) (as := [gm_vi lane]) (st := []) (d' := d - 1) (bc' := 0) (bs' := 0) (by decide +kernel) (by decide +kernel) (by decide +kernel) (by decide +kernel) (e0k hE (k := 226) (c := 11) (by decide +kernel)).1 (e0k hE (k := 226) (c := 11) (by decide +kernel)).2 (by decide) (by decide +kernel) (show 1 = gm_na 293 by decide +kernel) (fw_c1 fw_si) (show 2 ≤ gm_ml 293 by decide +kernel) (Nat.le_of_ble_eq_true rfl) (by omega) (Nat.zero_le _) (Nat.zero_le _) ?_
  refine re_c293 (N := N) (φ := rphi N h H G m) hE (by omega) ⟨by omega, by omega⟩ hk (fun M2 hf2 h26 hk2 => ?_)
  show gm_Wp X LX d _ _ 292 5 _ [] n K _ _ Q
  obtain ⟨k3, k4⟩ := hk2.2.1 (row * 300 + year) (by omega) (by omega)
  have k5 := hk2.2.2 row year (by omega) (by omega) (by omega) (by omega) (by omega) (by omega)
  rw [h26] at k5
  refine gm_sz (gm_p_load (pc := 5) (i := .iload_n 2) (sr := 0) (j := 2) (by decide +kernel) rfl rfl rfl) ?_
  refine gm_sz (gm_p_const (pc := 6) (i := .sipush 300) (v := gm_vi 300) (by decide +kernel) (by decide +kernel)) ?_
  refine gm_sz (gm_p_bin (pc := 9) (i := .imul) (f := fun x y => x * y) (by decide +kernel) rfl) ?_
  refine gm_sz (gm_p_load (pc := 10) (i := .iload_n 3) (sr := 0) (j := 3) (by decide +kernel) rfl rfl rfl) ?_
  refine gm_sz (gm_p_bin (pc := 11) (i := .iadd) (f := fun x y => x + y) (by decide +kernel) rfl) ?_
  refine gm_sz (gm_p_stor (pc := 12) (i := .istore 4) (sr := 0) (j := 4) (by decide +kernel) rfl (show 5 ≤ _ from Nat.le_of_ble_eq_true rfl) rfl) ?_
  refine gm_sz (gm_p_load (pc := 14) (i := .aload_n 0) (sr := 2) (j := 0) (by decide +kernel) rfl rfl rfl) ?_
  refine gm_sz (fw_gr (pc := 15) (ix := 42) (ci := 11) (j := 25) (r := 235) (by decide +kernel) (e0k hE (k := 226) (c := 11) (by decide +kernel)) (by decide +kernel) (by decide +kernel) (e0r hE (k := 226) (j := 25) (r := 235) (by decide +kernel))) ?_
  refine gm_sz (gm_p_load (pc := 18) (i := .iload 4) (sr := 0) (j := 4) (by decide +kernel) rfl rfl rfl) ?_
  refine gm_sz (fw_ba (pc := 20) (k := 235) (len := 29700) (e0 := (row * 300) + year) (x := M2 235 ((row * 300) + year)) (by decide +kernel) (e0a hE (k := 235) (q := ((1 : Nat), (29700 : Nat))) (by decide +kernel)).1 (e0a hE (k := 235) (q := ((1 : Nat), (29700 : Nat))) (by decide +kernel)).2 (by decide) ⟨by omega, by omega⟩ rfl) ?_
  refine fw_if (cc := .le) (pc := 21) (off := 13) (by decide +kernel) (by decide) ⟨by omega, by omega⟩ (fun h21 => ?_) (fun h21 => ?_)
  · have h21 : (M2 235 ((row * 300) + year)) ≤ 0 := h21
    refine gm_sz (gm_p_load (pc := 34) (i := .aload_n 0) (sr := 2) (j := 0) (by decide +kernel) rfl rfl rfl) ?_
    refine gm_sz (gm_p_load (pc := 35) (i := .iload_n 1) (sr := 0) (j := 1) (by decide +kernel) rfl rfl rfl) ?_
    refine gm_sz (fw_pi (pc := 36) (ix := 303) (ci := 11) (j := 17) (M' := gm_uM M2 226 17 lane) (by decide +kernel) (e0k hE (k := 226) (c := 11) (by decide +kernel)) (by decide +kernel) (by decide +kernel) (by decide +kernel) rfl) ?_
    refine gm_sz (gm_p_load (pc := 39) (i := .aload_n 0) (sr := 2) (j := 0) (by decide +kernel) rfl rfl rfl) ?_
    refine gm_sz (gm_p_load (pc := 40) (i := .iload_n 2) (sr := 0) (j := 2) (by decide +kernel) rfl rfl rfl) ?_
    refine gm_sz (fw_pi (pc := 41) (ix := 306) (ci := 11) (j := 18) (M' := gm_uM (gm_uM M2 226 17 lane) 226 18 row) (by decide +kernel) (e0k hE (k := 226) (c := 11) (by decide +kernel)) (by decide +kernel) (by decide +kernel) (by decide +kernel) rfl) ?_
    refine gm_sz (gm_p_load (pc := 44) (i := .aload_n 0) (sr := 2) (j := 0) (by decide +kernel) rfl rfl rfl) ?_
    refine gm_sz (gm_p_load (pc := 45) (i := .iload_n 3) (sr := 0) (j := 3) (by decide +kernel) rfl rfl rfl) ?_
    refine gm_sz (fw_pi (pc := 46) (ix := 309) (ci := 11) (j := 19) (M' := gm_uM (gm_uM (gm_uM M2 226 17 lane) 226 18 row) 226 19 year) (by decide +kernel) (e0k hE (k := 226) (c := 11) (by decide +kernel)) (by decide +kernel) (by decide +kernel) (by decide +kernel) rfl) ?_
    refine gm_sz (gm_p_load (pc := 49) (i := .aload_n 0) (sr := 2) (j := 0) (by decide +kernel) rfl rfl rfl) ?_
    refine gm_sz (gm_p_load (pc := 50) (i := .aload_n 0) (sr := 2) (j := 0) (by decide +kernel) rfl rfl rfl) ?_
    refine gm_sz (gm_p_load (pc := 51) (i := .iload_n 1) (sr := 0) (j := 1) (by decide +kernel) rfl rfl rfl) ?_
    refine gm_sz (gm_p_load (pc := 52) (i := .iload_n 2) (sr := 0) (j := 2) (by decide +kernel) rfl rfl rfl) ?_
    refine gm_c_virt (k := 226) (ci := 11) (mj := 290) (ix := 338) (pc := 53) (as := [gm_vi lane, gm_vi row]) (st := [gm_vr 226]) (d' := d - 1) (bc' := 0) (bs' := 0) (by decide +kernel) (by decide +kernel) (by decide +kernel) (by decide +kernel) (e0k hE (k := 226) (c := 11) (by decide +kernel)).1 (e0k hE (k := 226) (c := 11) (by decide +kernel)).2 (by decide) (by decide +kernel) (show 2 = gm_na 290 by decide +kernel) (fw_c2 fw_si fw_si) (show 3 ≤ gm_ml 290 by decide +kernel) (Nat.le_of_ble_eq_true rfl) (by omega) (Nat.zero_le _) (Nat.zero_le _) ?_
    refine re_c290 hE (tr_fr (W := [((226 : Nat), some (26 : Int)), ((235 : Nat), none), ((226 : Nat), some (17 : Int)), ((226 : Nat), some (18 : Int)), ((226 : Nat), some (19 : Int))]) hT (fr_p (fr_p (fr_p (fr_t fr_0 hf2 (by decide)) (Or.inr (by decide))) (Or.inr (by decide))) (Or.inr (by decide))) (by decide)) hN hl ⟨by omega, by omega⟩ hS ?_
    show gm_Wp X LX d _ _ 292 56 _ [gm_vi (nsp N lane row), gm_vr 226] n K _ _ Q
    have hn9 := rsp_b (row := row) hS hl (N 2).toNat (by omega)
    have hn8 : nsp N lane row = rsp N lane row (N 2).toNat := rfl
    refine gm_sz (fw_pi (pc := 56) (ix := 312) (ci := 11) (j := 20) (M' := gm_uM (gm_uM (gm_uM (gm_uM M2 226 17 lane) 226 18 row) 226 19 year) 226 20 (nsp N lane row)) (by decide +kernel) (e0k hE (k := 226) (c := 11) (by decide +kernel)) (by decide +kernel) (by decide +kernel) (by decide +kernel) rfl) ?_
    refine gm_sz (gm_p_load (pc := 59) (i := .aload_n 0) (sr := 2) (j := 0) (by decide +kernel) rfl rfl rfl) ?_
    refine gm_sz (gm_p_const (pc := 60) (i := .iconst 0) (v := gm_vi 0) (by decide +kernel) (by decide +kernel)) ?_
    refine gm_sz (fw_pi (pc := 61) (ix := 315) (ci := 11) (j := 21) (M' := gm_uM (gm_uM (gm_uM (gm_uM (gm_uM M2 226 17 lane) 226 18 row) 226 19 year) 226 20 (nsp N lane row)) 226 21 0) (by decide +kernel) (e0k hE (k := 226) (c := 11) (by decide +kernel)) (by decide +kernel) (by decide +kernel) (by decide +kernel) rfl) ?_
    refine gm_sz (gm_p_load (pc := 64) (i := .aload_n 0) (sr := 2) (j := 0) (by decide +kernel) rfl rfl rfl) ?_
    refine gm_sz (gm_p_const (pc := 65) (i := .iconst 0) (v := gm_vi 0) (by decide +kernel) (by decide +kernel)) ?_
    refine gm_sz (fw_pi (pc := 66) (ix := 318) (ci := 11) (j := 22) (M' := gm_uM (gm_uM (gm_uM (gm_uM (gm_uM (gm_uM M2 226 17 lane) 226 18 row) 226 19 year) 226 20 (nsp N lane row)) 226 21 0) 226 22 0) (by decide +kernel) (e0k hE (k := 226) (c := 11) (by decide +kernel)) (by decide +kernel) (by decide +kernel) (by decide +kernel) rfl) ?_
    refine gm_sz (gm_p_load (pc := 69) (i := .aload_n 0) (sr := 2) (j := 0) (by decide +kernel) rfl rfl rfl) ?_
    refine gm_sz (gm_p_const (pc := 70) (i := .iconst 0) (v := gm_vi 0) (by decide +kernel) (by decide +kernel)) ?_
    refine gm_sz (fw_pi (pc := 71) (ix := 321) (ci := 11) (j := 23) (M' := gm_uM (gm_uM (gm_uM (gm_uM (gm_uM (gm_uM (gm_uM M2 226 17 lane) 226 18 row) 226 19 year) 226 20 (nsp N lane row)) 226 21 0) 226 22 0) 226 23 0) (by decide +kernel) (e0k hE (k := 226) (c := 11) (by decide +kernel)) (by decide +kernel) (by decide +kernel) (by decide +kernel) rfl) ?_
    refine gm_sz (gm_p_const (pc := 74) (i := .iconst 0) (v := gm_vi 0) (by decide +kernel) (by decide +kernel)) ?_
    refine gm_sz (gm_p_const (pc := 75) (i := .bipush 30) (v := gm_vi 30) (by decide +kernel) (by decide +kernel)) ?_
    refine gm_sz (gm_p_load (pc := 77) (i := .aload_n 0) (sr := 2) (j := 0) (by decide +kernel) rfl rfl rfl) ?_
    refine gm_sz (fw_gi (pc := 78) (ix := 312) (ci := 11) (j := 20) (x := nsp N lane row) (by decide +kernel) (e0k hE (k := 226) (c := 11) (by decide +kernel)) (by decide +kernel) (by decide +kernel) ((uM_ne (by omega)).trans ((uM_ne (by omega)).trans ((uM_ne (by omega)).trans uM_at)))) ?_
    refine gm_sz (gm_p_load (pc := 81) (i := .aload_n 0) (sr := 2) (j := 0) (by decide +kernel) rfl rfl rfl) ?_
    refine gm_sz (gm_p_const (pc := 82) (i := .iconst 0) (v := gm_vi 0) (by decide +kernel) (by decide +kernel)) ?_
    refine gm_c_virt (k := 226) (ci := 11) (mj := 294) (ix := 341) (pc := 83) (as := [gm_vi 0]) (st := [gm_vi (nsp N lane row), gm_vi 30, gm_vi 0]) (d' := d - 1) (bc' := 0) (bs' := 0) (by decide +kernel) (by decide +kernel) (by decide +kernel) (by decide +kernel) (e0k hE (k := 226) (c := 11) (by decide +kernel)).1 (e0k hE (k := 226) (c := 11) (by decide +kernel)).2 (by decide) (by decide +kernel) (show 1 = gm_na 294 by decide +kernel) (fw_c1 fw_si) (show 2 ≤ gm_ml 294 by decide +kernel) (Nat.le_of_ble_eq_true rfl) (by omega) (Nat.zero_le _) (Nat.zero_le _) ?_
    refine re_c294 (kd := 0) (m := m) (H := H) (by omega) hE (tr_fr (W := [((226 : Nat), some (26 : Int)), ((235 : Nat), none), ((226 : Nat), some (17 : Int)), ((226 : Nat), some (18 : Int)), ((226 : Nat), some (19 : Int)), ((226 : Nat), some (20 : Int)), ((226 : Nat), some (21 : Int)), ((226 : Nat), some (22 : Int)), ((226 : Nat), some (23 : Int))]) hT (fr_p (fr_p (fr_p (fr_p (fr_p (fr_p (fr_p (fr_t fr_0 hf2 (by decide)) (Or.inr (by decide))) (Or.inr (by decide))) (Or.inr (by decide))) (Or.inr (by decide))) (Or.inr (by decide))) (Or.inr (by decide))) (Or.inr (by decide))) (by decide)) hN (fun j hj => ((uM_ne (by omega)).trans ((uM_ne (by omega)).trans ((uM_ne (by omega)).trans ((uM_ne (by omega)).trans ((uM_ne (by omega)).trans ((uM_ne (by omega)).trans ((uM_ne (by omega)).trans ((fr_c hf2 (by decide)).trans (hG j hj)))))))))) ((uM_ne (by omega)).trans ((uM_ne (by omega)).trans ((uM_ne (by omega)).trans ((uM_ne (by omega)).trans ((uM_ne (by omega)).trans ((uM_ne (by omega)).trans uM_at)))))) ((uM_ne (by omega)).trans ((uM_ne (by omega)).trans ((uM_ne (by omega)).trans ((uM_ne (by omega)).trans ((uM_ne (by omega)).trans uM_at))))) ((uM_ne (by omega)).trans ((uM_ne (by omega)).trans ((uM_ne (by omega)).trans ((uM_ne (by omega)).trans uM_at)))) ((uM_ne (by omega)).trans ((uM_ne (by omega)).trans ((uM_ne (by omega)).trans uM_at))) ((uM_ne (by omega)).trans ((uM_ne (by omega)).trans uM_at)) ((uM_ne (by omega)).trans uM_at) uM_at hl ⟨by omega, by omega⟩ hL hH ⟨by decide, by decide⟩ (fun M83 hf83 => ?_)
    show gm_Wp X LX d _ _ 292 86 _ [gm_vi (rsum H (fcts N h lane row year (nsp N lane row) 0 0 0) G 0 m.toNat), gm_vi (nsp N lane row), gm_vi 30, gm_vi 0] n K _ _ Q
    have hb83 := rsum_b (H := H) (F := (fcts N h lane row year (nsp N lane row) 0 0 0)) (kd := 0) hL m.toNat (by omega)
    refine gm_sz (gm_p_bin (pc := 86) (i := .iadd) (f := fun x y => x + y) (by decide +kernel) rfl) ?_
    refine gm_sz (gm_p_load (pc := 87) (i := .aload_n 0) (sr := 2) (j := 0) (by decide +kernel) rfl rfl rfl) ?_
    refine gm_sz (gm_p_const (pc := 88) (i := .iconst 1) (v := gm_vi 1) (by decide +kernel) (by decide +kernel)) ?_
    refine gm_c_virt (k := 226) (ci := 11) (mj := 294) (ix := 341) (pc := 89) (as := [gm_vi 1]) (st := [gm_vi ((nsp N lane row) + (rsum H (fcts N h lane row year (nsp N lane row) 0 0 0) G 0 m.toNat)), gm_vi 30, gm_vi 0]) (d' := d - 1) (bc' := 0) (bs' := 0) (by decide +kernel) (by decide +kernel) (by decide +kernel) (by decide +kernel) (e0k hE (k := 226) (c := 11) (by decide +kernel)).1 (e0k hE (k := 226) (c := 11) (by decide +kernel)).2 (by decide) (by decide +kernel) (show 1 = gm_na 294 by decide +kernel) (fw_c1 fw_si) (show 2 ≤ gm_ml 294 by decide +kernel) (Nat.le_of_ble_eq_true rfl) (by omega) (Nat.zero_le _) (Nat.zero_le _) ?_
    refine re_c294 (kd := 1) (m := m) (H := H) (by omega) hE (tr_fr (W := [((226 : Nat), some (26 : Int)), ((235 : Nat), none), ((226 : Nat), some (17 : Int)), ((226 : Nat), some (18 : Int)), ((226 : Nat), some (19 : Int)), ((226 : Nat), some (20 : Int)), ((226 : Nat), some (21 : Int)), ((226 : Nat), some (22 : Int)), ((226 : Nat), some (23 : Int)), ((233 : Nat), none)]) hT (fr_t (fr_p (fr_p (fr_p (fr_p (fr_p (fr_p (fr_p (fr_t fr_0 hf2 (by decide)) (Or.inr (by decide))) (Or.inr (by decide))) (Or.inr (by decide))) (Or.inr (by decide))) (Or.inr (by decide))) (Or.inr (by decide))) (Or.inr (by decide))) hf83 (by decide)) (by decide)) hN (fun j hj => ((fr_c hf83 (by decide)).trans ((uM_ne (by omega)).trans ((uM_ne (by omega)).trans ((uM_ne (by omega)).trans ((uM_ne (by omega)).trans ((uM_ne (by omega)).trans ((uM_ne (by omega)).trans ((uM_ne (by omega)).trans ((fr_c hf2 (by decide)).trans (hG j hj))))))))))) ((fr_c hf83 (by decide)).trans ((uM_ne (by omega)).trans ((uM_ne (by omega)).trans ((uM_ne (by omega)).trans ((uM_ne (by omega)).trans ((uM_ne (by omega)).trans ((uM_ne (by omega)).trans uM_at))))))) ((fr_c hf83 (by decide)).trans ((uM_ne (by omega)).trans ((uM_ne (by omega)).trans ((uM_ne (by omega)).trans ((uM_ne (by omega)).trans ((uM_ne (by omega)).trans uM_at)))))) ((fr_c hf83 (by decide)).trans ((uM_ne (by omega)).trans ((uM_ne (by omega)).trans ((uM_ne (by omega)).trans ((uM_ne (by omega)).trans uM_at))))) ((fr_c hf83 (by decide)).trans ((uM_ne (by omega)).trans ((uM_ne (by omega)).trans ((uM_ne (by omega)).trans uM_at)))) ((fr_c hf83 (by decide)).trans ((uM_ne (by omega)).trans ((uM_ne (by omega)).trans uM_at))) ((fr_c hf83 (by decide)).trans ((uM_ne (by omega)).trans uM_at)) ((fr_c hf83 (by decide)).trans uM_at) hl ⟨by omega, by omega⟩ hL hH ⟨by decide, by decide⟩ (fun M89 hf89 => ?_)
    show gm_Wp X LX d _ _ 292 92 _ [gm_vi (rsum H (fcts N h lane row year (nsp N lane row) 0 0 0) G 1 m.toNat), gm_vi ((nsp N lane row) + (rsum H (fcts N h lane row year (nsp N lane row) 0 0 0) G 0 m.toNat)), gm_vi 30, gm_vi 0] n K _ _ Q
    have hb89 := rsum_b (H := H) (F := (fcts N h lane row year (nsp N lane row) 0 0 0)) (kd := 1) hL m.toNat (by omega)
    refine gm_sz (gm_p_bin (pc := 92) (i := .isub) (f := fun x y => x - y) (by decide +kernel) rfl) ?_
    refine gm_sz (gm_p_min (pc := 93) (ix := 345) (x := 30) (y := ((nsp N lane row) + (rsum H (fcts N h lane row year (nsp N lane row) 0 0 0) G 0 m.toNat)) - (rsum H (fcts N h lane row year (nsp N lane row) 0 0 0) G 1 m.toNat)) (by decide +kernel) (by decide +kernel) (gm_w_id (by omega) (by omega)) (gm_w_id (by omega) (by omega)) (Nat.le_of_ble_eq_true rfl) (by omega)) ?_
    refine gm_sz (gm_p_max (pc := 96) (ix := 350) (x := 0) (y := min 30 (((nsp N lane row) + (rsum H (fcts N h lane row year (nsp N lane row) 0 0 0) G 0 m.toNat)) - (rsum H (fcts N h lane row year (nsp N lane row) 0 0 0) G 1 m.toNat))) (by decide +kernel) (by decide +kernel) (gm_w_id (by omega) (by omega)) (gm_w_id (by omega) (by omega)) (Nat.le_of_ble_eq_true rfl) (by omega)) ?_
    refine gm_sz (gm_p_stor (pc := 99) (i := .istore 5) (sr := 0) (j := 5) (by decide +kernel) rfl (show 6 ≤ _ from Nat.le_of_ble_eq_true rfl) rfl) ?_
    refine gm_sz (gm_p_load (pc := 101) (i := .aload_n 0) (sr := 2) (j := 0) (by decide +kernel) rfl rfl rfl) ?_
    refine gm_sz (fw_gr (pc := 102) (ix := 42) (ci := 11) (j := 25) (r := 235) (by decide +kernel) (e0k hE (k := 226) (c := 11) (by decide +kernel)) (by decide +kernel) (by decide +kernel) (e0r hE (k := 226) (j := 25) (r := 235) (by decide +kernel))) ?_
    refine gm_sz (gm_p_load (pc := 105) (i := .iload 4) (sr := 0) (j := 4) (by decide +kernel) rfl rfl rfl) ?_
    refine gm_sz (gm_p_load (pc := 107) (i := .iload 5) (sr := 0) (j := 5) (by decide +kernel) rfl rfl rfl) ?_
    refine gm_sz (gm_p_const (pc := 109) (i := .iconst 1) (v := gm_vi 1) (by decide +kernel) (by decide +kernel)) ?_
    refine gm_sz (gm_p_bin (pc := 110) (i := .iadd) (f := fun x y => x + y) (by decide +kernel) rfl) ?_
    refine gm_sz (gm_p_un (pc := 111) (i := .i2b) (f := fun x => gm_wb x) (by decide +kernel) rfl) ?_
    refine gm_sz (fw_bs (pc := 112) (k := 235) (len := 29700) (e0 := (row * 300) + year) (x := gm_wb ((max 0 (min 30 (((nsp N lane row) + (rsum H (fcts N h lane row year (nsp N lane row) 0 0 0) G 0 m.toNat)) - (rsum H (fcts N h lane row year (nsp N lane row) 0 0 0) G 1 m.toNat)))) + 1)) (M' := gm_uM M89 235 ((row * 300) + year) (gm_wb (gm_wb ((max 0 (min 30 (((nsp N lane row) + (rsum H (fcts N h lane row year (nsp N lane row) 0 0 0) G 0 m.toNat)) - (rsum H (fcts N h lane row year (nsp N lane row) 0 0 0) G 1 m.toNat)))) + 1)))) (by decide +kernel) (e0a hE (k := 235) (q := ((1 : Nat), (29700 : Nat))) (by decide +kernel)).1 (e0a hE (k := 235) (q := ((1 : Nat), (29700 : Nat))) (by decide +kernel)).2 (by decide) ⟨by omega, by omega⟩ rfl) ?_
    refine gm_sz (gm_p_load (pc := 113) (i := .iload 5) (sr := 0) (j := 5) (by decide +kernel) rfl rfl rfl) ?_
    have e9 : max 0 (min 30 (((nsp N lane row) + (rsum H (fcts N h lane row year (nsp N lane row) 0 0 0) G 0 m.toNat)) - (rsum H (fcts N h lane row year (nsp N lane row) 0 0 0) G 1 m.toNat))) = rphi N h H G m lane row year := rfl
    have b9 : 0 ≤ rphi N h H G m lane row year ∧ rphi N h H G m lane row year ≤ 30 := by unfold rphi; exact ⟨by omega, by omega⟩
    have w9 : gm_wb (gm_wb ((max 0 (min 30 (((nsp N lane row) + (rsum H (fcts N h lane row year (nsp N lane row) 0 0 0) G 0 m.toNat)) - (rsum H (fcts N h lane row year (nsp N lane row) 0 0 0) G 1 m.toNat)))) + 1)) = rphi N h H G m lane row year + 1 := by rw [e9, wb_id (x := rphi N h H G m lane row year + 1) (by omega) (by omega), wb_id (x := rphi N h H G m lane row year + 1) (by omega) (by omega)]
    have kf : KFR N (rphi N h H G m) (gm_uM M89 235 ((row * 300) + year) (gm_wb (gm_wb ((max 0 (min 30 (((nsp N lane row) + (rsum H (fcts N h lane row year (nsp N lane row) 0 0 0) G 0 m.toNat)) - (rsum H (fcts N h lane row year (nsp N lane row) 0 0 0) G 1 m.toNat)))) + 1)))) := by
      have e26 : (gm_uM M89 235 ((row * 300) + year) (gm_wb (gm_wb ((max 0 (min 30 (((nsp N lane row) + (rsum H (fcts N h lane row year (nsp N lane row) 0 0 0) G 0 m.toNat)) - (rsum H (fcts N h lane row year (nsp N lane row) 0 0 0) G 1 m.toNat)))) + 1)))) 226 26 = lane := ((uM_ne (by omega)).trans ((fr_c hf89 (by decide)).trans ((fr_c hf83 (by decide)).trans ((uM_ne (by omega)).trans ((uM_ne (by omega)).trans ((uM_ne (by omega)).trans ((uM_ne (by omega)).trans ((uM_ne (by omega)).trans ((uM_ne (by omega)).trans ((uM_ne (by omega)).trans h26))))))))))
      have e5 : ∀ j, ¬ j = row * 300 + year → (gm_uM M89 235 ((row * 300) + year) (gm_wb (gm_wb ((max 0 (min 30 (((nsp N lane row) + (rsum H (fcts N h lane row year (nsp N lane row) 0 0 0) G 0 m.toNat)) - (rsum H (fcts N h lane row year (nsp N lane row) 0 0 0) G 1 m.toNat)))) + 1)))) 235 j = M2 235 j := fun j hj => ((uM_ne (fun hh => hj hh.2)).trans ((fr_c hf89 (by decide)).trans ((fr_c hf83 (by decide)).trans ((uM_ne (by omega)).trans ((uM_ne (by omega)).trans ((uM_ne (by omega)).trans ((uM_ne (by omega)).trans ((uM_ne (by omega)).trans ((uM_ne (by omega)).trans ((uM_ne (by omega)).trans rfl))))))))))
      have e6 : (gm_uM M89 235 ((row * 300) + year) (gm_wb (gm_wb ((max 0 (min 30 (((nsp N lane row) + (rsum H (fcts N h lane row year (nsp N lane row) 0 0 0) G 0 m.toNat)) - (rsum H (fcts N h lane row year (nsp N lane row) 0 0 0) G 1 m.toNat)))) + 1)))) 235 (row * 300 + year) = rphi N h H G m lane row year + 1 := uM_at.trans w9
      refine ⟨by rw [e26]; exact ⟨by omega, by omega⟩, fun j j0 j1 => ?_, fun r y a0 a1 r0 r1 y0 y1 => ?_⟩
      · by_cases e : j = row * 300 + year
        · subst e
          rw [e6]
          exact ⟨by omega, by omega⟩
        · rw [e5 j e]
          exact hk2.2.1 j j0 j1
      · rw [e26]
        by_cases e : r * 300 + y = row * 300 + year
        · obtain ⟨rfl, rfl⟩ : r = row ∧ y = year := ⟨by omega, by omega⟩
          exact Or.inr e6
        · rw [e5 _ e]
          have := hk2.2.2 r y (by rw [h26]; omega) (by rw [h26]; omega) r0 r1 y0 y1
          rwa [h26] at this
    exact gm_r_int (pc := 115) (by decide +kernel) (Or.inl (by decide +kernel)) (hq _ (fr_p (fr_t (fr_t (fr_p (fr_p (fr_p (fr_p (fr_p (fr_p (fr_p (fr_t fr_0 hf2 (by decide)) (Or.inr (by decide))) (Or.inr (by decide))) (Or.inr (by decide))) (Or.inr (by decide))) (Or.inr (by decide))) (Or.inr (by decide))) (Or.inr (by decide))) hf83 (by decide)) hf89 (by decide)) (Or.inl (by decide))) ⟨kf, (fun j hj => ((uM_ne (by omega)).trans ((fr_c hf89 (by decide)).trans ((fr_c hf83 (by decide)).trans ((uM_ne (by omega)).trans ((uM_ne (by omega)).trans ((uM_ne (by omega)).trans ((uM_ne (by omega)).trans ((uM_ne (by omega)).trans ((uM_ne (by omega)).trans ((uM_ne (by omega)).trans ((fr_c hf2 (by decide)).trans (hG j hj)))))))))))))⟩)
  · have h21 : ¬ (M2 235 ((row * 300) + year)) ≤ 0 := h21
    refine gm_sz (gm_p_load (pc := 24) (i := .aload_n 0) (sr := 2) (j := 0) (by decide +kernel) rfl rfl rfl) ?_
    refine gm_sz (fw_gr (pc := 25) (ix := 42) (ci := 11) (j := 25) (r := 235) (by decide +kernel) (e0k hE (k := 226) (c := 11) (by decide +kernel)) (by decide +kernel) (by decide +kernel) (e0r hE (k := 226) (j := 25) (r := 235) (by decide +kernel))) ?_
    refine gm_sz (gm_p_load (pc := 28) (i := .iload 4) (sr := 0) (j := 4) (by decide +kernel) rfl rfl rfl) ?_
    refine gm_sz (fw_ba (pc := 30) (k := 235) (len := 29700) (e0 := (row * 300) + year) (x := M2 235 ((row * 300) + year)) (by decide +kernel) (e0a hE (k := 235) (q := ((1 : Nat), (29700 : Nat))) (by decide +kernel)).1 (e0a hE (k := 235) (q := ((1 : Nat), (29700 : Nat))) (by decide +kernel)).2 (by decide) ⟨by omega, by omega⟩ rfl) ?_
    refine gm_sz (gm_p_const (pc := 31) (i := .iconst 1) (v := gm_vi 1) (by decide +kernel) (by decide +kernel)) ?_
    refine gm_sz (gm_p_bin (pc := 32) (i := .isub) (f := fun x y => x - y) (by decide +kernel) rfl) ?_
    have e9 : (M2 235 ((row * 300) + year)) - 1 = rphi N h H G m lane row year := by omega
    have q := hq M2 (fr_t fr_0 hf2 (by decide)) ⟨hk2, (fun j hj => ((fr_c hf2 (by decide)).trans (hG j hj)))⟩
    rw [← e9] at q
    exact gm_r_int (pc := 33) (by decide +kernel) (Or.inl (by decide +kernel)) q
theorem re_flr (hE : E0 n K R) (hN : NR N) (hS : NSb 6 N) (hL : LG G m) (hH : HHL H G m) : FLR X LX n K R N h (fun M => KFR N (rphi N h H G m) M ∧ ∀ j, (395 ≤ j ∨ j = 8) → M 227 j = G j) (rphi N h H G m) :=
  ⟨fun l r y => by unfold rphi; exact ⟨by omega, by omega⟩, fun W M M2 hw h9 hI => ⟨kfr_fr h9 hw hI.1, g_fr h9 hw hI.2⟩, fun d bc bs M Q lane row year hd hl h2 h3 hT hI hq => re_flrx hE hN hS hL hH d bc bs M Q lane row year hd ⟨hl.1, by have := hN.1.1; omega⟩ ⟨h2.1, by have := hN.1.2.1; omega⟩ h3 hT hI hq⟩
theorem re_flr0x (hE : E0 n K R) (hN : NR N) (hS : NSb 6 N) (h8 : G 8 = 0) : ∀ (d bc bs : Nat) (M : gm_M) (Q : gm_Q) (lane row year : Int), 12 ≤ d → 0 ≤ lane ∧ lane < 6 → 0 ≤ row ∧ row < 99 → 0 ≤ year ∧ year < 300 → TR N h M → (KFR N (rphi0 N) M ∧ ∀ j, (395 ≤ j ∨ j = 8) → M 227 j = G j) → (∀ M2, fr [((226 : Nat), some (26 : Int)), ((226 : Nat), some (17 : Int)), ((226 : Nat), some (18 : Int)), ((226 : Nat), some (19 : Int)), ((226 : Nat), some (20 : Int)), ((226 : Nat), some (21 : Int)), ((226 : Nat), some (22 : Int)), ((226 : Nat), some (23 : Int)), ((235 : Nat), none), ((233 : Nat), none)] M M2 → (KFR N (rphi0 N) M2 ∧ ∀ j, (395 ≤ j ∨ j = 8) → M2 227 j = G j) → Q (.inl (some (gm_vi (rphi0 N lane row year)))) n K R M2) → gm_Wp X LX d bc bs 292 0 (gm_ent 292 [gm_vr 226, gm_vi lane, gm_vi row, gm_vi year]) [] n K R M Q := by
  intro d bc bs M Q lane row year hd hl h2 h3 hT hI hq
  obtain ⟨hk, hG⟩ := hI
  obtain ⟨⟨⟨a0, b0⟩, ⟨a1, b1⟩, ⟨a10, b10⟩, ⟨a11, b11⟩, ⟨a12, b12⟩, a9, b9⟩, ⟨⟨a2, b2⟩, ⟨a5, b5⟩, ⟨a3, b3⟩, ⟨a4, b4⟩, ⟨a6, b6⟩, ⟨a14, b14⟩, ⟨a7, b7⟩, a13, b13⟩, rF, rP, rL⟩ := id hN
  refine gm_sz (gm_p_load (pc := 0) (i := .aload_n 0) (sr := 2) (j := 0) (by decide +kernel) rfl rfl rfl) ?_
  refine gm_sz (gm_p_load (pc := 1) (i := .iload_n 1) (sr := 0) (j := 1) (by decide +kernel) rfl rfl rfl) ?_
  refine gm_c_virt (k := 226) (ci := 11) (mj := 293) (ix := 334) (pc := 2) (as := [gm_vi lane]) (st := []) (d' := d - 1) (bc' := 0) (bs' := 0) (by decide +kernel) (by decide +kernel) (by decide +kernel) (by decide +kernel) (e0k hE (k := 226) (c := 11) (by decide +kernel)).1 (e0k hE (k := 226) (c := 11) (by decide +kernel)).2 (by decide) (by decide +kernel) (show 1 = gm_na 293 by decide +kernel) (fw_c1 fw_si) (show 2 ≤ gm_ml 293 by decide +kernel) (Nat.le_of_ble_eq_true rfl) (by omega) (Nat.zero_le _) (Nat.zero_le _) ?_
  refine re_c293 (N := N) (φ := rphi0 N) hE (by omega) ⟨by omega, by omega⟩ hk (fun M2 hf2 h26 hk2 => ?_)
  show gm_Wp X LX d _ _ 292 5 _ [] n K _ _ Q
  obtain ⟨k3, k4⟩ := hk2.2.1 (row * 300 + year) (by omega) (by omega)
  have k5 := hk2.2.2 row year (by omega) (by omega) (by omega) (by omega) (by omega) (by omega)
  rw [h26] at k5
  refine gm_sz (gm_p_load (pc := 5) (i := .iload_n 2) (sr := 0) (j := 2) (by decide +kernel) rfl rfl rfl) ?_
  refine gm_sz (gm_p_const (pc := 6) (i := .sipush 300) (v := gm_vi 300) (by decide +kernel) (by decide +kernel)) ?_
  refine gm_sz (gm_p_bin (pc := 9) (i := .imul) (f := fun x y => x * y) (by decide +kernel) rfl) ?_
  refine gm_sz (gm_p_load (pc := 10) (i := .iload_n 3) (sr := 0) (j := 3) (by decide +kernel) rfl rfl rfl) ?_
  refine gm_sz (gm_p_bin (pc := 11) (i := .iadd) (f := fun x y => x + y) (by decide +kernel) rfl) ?_
  refine gm_sz (gm_p_stor (pc := 12) (i := .istore 4) (sr := 0) (j := 4) (by decide +kernel) rfl (show 5 ≤ _ from Nat.le_of_ble_eq_true rfl) rfl) ?_
  refine gm_sz (gm_p_load (pc := 14) (i := .aload_n 0) (sr := 2) (j := 0) (by decide +kernel) rfl rfl rfl) ?_
  refine gm_sz (fw_gr (pc := 15) (ix := 42) (ci := 11) (j := 25) (r := 235) (by decide +kernel) (e0k hE (k := 226) (c := 11) (by decide +kernel)) (by decide +kernel) (by decide +kernel) (e0r hE (k := 226) (j := 25) (r := 235) (by decide +kernel))) ?_
  refine gm_sz (gm_p_load (pc := 18) (i := .iload 4) (sr := 0) (j := 4) (by decide +kernel) rfl rfl rfl) ?_
  refine gm_sz (fw_ba (pc := 20) (k := 235) (len := 29700) (e0 := (row * 300) + year) (x := M2 235 ((row * 300) + year)) (by decide +kernel) (e0a hE (k := 235) (q := ((1 : Nat), (29700 : Nat))) (by decide +kernel)).1 (e0a hE (k := 235) (q := ((1 : Nat), (29700 : Nat))) (by decide +kernel)).2 (by decide) ⟨by omega, by omega⟩ rfl) ?_
  refine fw_if (cc := .le) (pc := 21) (off := 13) (by decide +kernel) (by decide) ⟨by omega, by omega⟩ (fun h21 => ?_) (fun h21 => ?_)
  · have h21 : (M2 235 ((row * 300) + year)) ≤ 0 := h21
    refine gm_sz (gm_p_load (pc := 34) (i := .aload_n 0) (sr := 2) (j := 0) (by decide +kernel) rfl rfl rfl) ?_
    refine gm_sz (gm_p_load (pc := 35) (i := .iload_n 1) (sr := 0) (j := 1) (by decide +kernel) rfl rfl rfl) ?_
    refine gm_sz (fw_pi (pc := 36) (ix := 303) (ci := 11) (j := 17) (M' := gm_uM M2 226 17 lane) (by decide +kernel) (e0k hE (k := 226) (c := 11) (by decide +kernel)) (by decide +kernel) (by decide +kernel) (by decide +kernel) rfl) ?_
    refine gm_sz (gm_p_load (pc := 39) (i := .aload_n 0) (sr := 2) (j := 0) (by decide +kernel) rfl rfl rfl) ?_
    refine gm_sz (gm_p_load (pc := 40) (i := .iload_n 2) (sr := 0) (j := 2) (by decide +kernel) rfl rfl rfl) ?_
    refine gm_sz (fw_pi (pc := 41) (ix := 306) (ci := 11) (j := 18) (M' := gm_uM (gm_uM M2 226 17 lane) 226 18 row) (by decide +kernel) (e0k hE (k := 226) (c := 11) (by decide +kernel)) (by decide +kernel) (by decide +kernel) (by decide +kernel) rfl) ?_
    refine gm_sz (gm_p_load (pc := 44) (i := .aload_n 0) (sr := 2) (j := 0) (by decide +kernel) rfl rfl rfl) ?_
    refine gm_sz (gm_p_load (pc := 45) (i := .iload_n 3) (sr := 0) (j := 3) (by decide +kernel) rfl rfl rfl) ?_
    refine gm_sz (fw_pi (pc := 46) (ix := 309) (ci := 11) (j := 19) (M' := gm_uM (gm_uM (gm_uM M2 226 17 lane) 226 18 row) 226 19 year) (by decide +kernel) (e0k hE (k := 226) (c := 11) (by decide +kernel)) (by decide +kernel) (by decide +kernel) (by decide +kernel) rfl) ?_
    refine gm_sz (gm_p_load (pc := 49) (i := .aload_n 0) (sr := 2) (j := 0) (by decide +kernel) rfl rfl rfl) ?_
    refine gm_sz (gm_p_load (pc := 50) (i := .aload_n 0) (sr := 2) (j := 0) (by decide +kernel) rfl rfl rfl) ?_
    refine gm_sz (gm_p_load (pc := 51) (i := .iload_n 1) (sr := 0) (j := 1) (by decide +kernel) rfl rfl rfl) ?_
    refine gm_sz (gm_p_load (pc := 52) (i := .iload_n 2) (sr := 0) (j := 2) (by decide +kernel) rfl rfl rfl) ?_
    refine gm_c_virt (k := 226) (ci := 11) (mj := 290) (ix := 338) (pc := 53) (as := [gm_vi lane, gm_vi row]) (st := [gm_vr 226]) (d' := d - 1) (bc' := 0) (bs' := 0) (by decide +kernel) (by decide +kernel) (by decide +kernel) (by decide +kernel) (e0k hE (k := 226) (c := 11) (by decide +kernel)).1 (e0k hE (k := 226) (c := 11) (by decide +kernel)).2 (by decide) (by decide +kernel) (show 2 = gm_na 290 by decide +kernel) (fw_c2 fw_si fw_si) (show 3 ≤ gm_ml 290 by decide +kernel) (Nat.le_of_ble_eq_true rfl) (by omega) (Nat.zero_le _) (Nat.zero_le _) ?_
    refine re_c290 hE (tr_fr (W := [((226 : Nat), some (26 : Int)), ((235 : Nat), none), ((226 : Nat), some (17 : Int)), ((226 : Nat), some (18 : Int)), ((226 : Nat), some (19 : Int))]) hT (fr_p (fr_p (fr_p (fr_t fr_0 hf2 (by decide)) (Or.inr (by decide))) (Or.inr (by decide))) (Or.inr (by decide))) (by decide)) hN hl ⟨by omega, by omega⟩ hS ?_
    show gm_Wp X LX d _ _ 292 56 _ [gm_vi (nsp N lane row), gm_vr 226] n K _ _ Q
    have hn9 := rsp_b (row := row) hS hl (N 2).toNat (by omega)
    have hn8 : nsp N lane row = rsp N lane row (N 2).toNat := rfl
    refine gm_sz (fw_pi (pc := 56) (ix := 312) (ci := 11) (j := 20) (M' := gm_uM (gm_uM (gm_uM (gm_uM M2 226 17 lane) 226 18 row) 226 19 year) 226 20 (nsp N lane row)) (by decide +kernel) (e0k hE (k := 226) (c := 11) (by decide +kernel)) (by decide +kernel) (by decide +kernel) (by decide +kernel) rfl) ?_
    refine gm_sz (gm_p_load (pc := 59) (i := .aload_n 0) (sr := 2) (j := 0) (by decide +kernel) rfl rfl rfl) ?_
    refine gm_sz (gm_p_const (pc := 60) (i := .iconst 0) (v := gm_vi 0) (by decide +kernel) (by decide +kernel)) ?_
    refine gm_sz (fw_pi (pc := 61) (ix := 315) (ci := 11) (j := 21) (M' := gm_uM (gm_uM (gm_uM (gm_uM (gm_uM M2 226 17 lane) 226 18 row) 226 19 year) 226 20 (nsp N lane row)) 226 21 0) (by decide +kernel) (e0k hE (k := 226) (c := 11) (by decide +kernel)) (by decide +kernel) (by decide +kernel) (by decide +kernel) rfl) ?_
    refine gm_sz (gm_p_load (pc := 64) (i := .aload_n 0) (sr := 2) (j := 0) (by decide +kernel) rfl rfl rfl) ?_
    refine gm_sz (gm_p_const (pc := 65) (i := .iconst 0) (v := gm_vi 0) (by decide +kernel) (by decide +kernel)) ?_
    refine gm_sz (fw_pi (pc := 66) (ix := 318) (ci := 11) (j := 22) (M' := gm_uM (gm_uM (gm_uM (gm_uM (gm_uM (gm_uM M2 226 17 lane) 226 18 row) 226 19 year) 226 20 (nsp N lane row)) 226 21 0) 226 22 0) (by decide +kernel) (e0k hE (k := 226) (c := 11) (by decide +kernel)) (by decide +kernel) (by decide +kernel) (by decide +kernel) rfl) ?_
    refine gm_sz (gm_p_load (pc := 69) (i := .aload_n 0) (sr := 2) (j := 0) (by decide +kernel) rfl rfl rfl) ?_
    refine gm_sz (gm_p_const (pc := 70) (i := .iconst 0) (v := gm_vi 0) (by decide +kernel) (by decide +kernel)) ?_
    refine gm_sz (fw_pi (pc := 71) (ix := 321) (ci := 11) (j := 23) (M' := gm_uM (gm_uM (gm_uM (gm_uM (gm_uM (gm_uM (gm_uM M2 226 17 lane) 226 18 row) 226 19 year) 226 20 (nsp N lane row)) 226 21 0) 226 22 0) 226 23 0) (by decide +kernel) (e0k hE (k := 226) (c := 11) (by decide +kernel)) (by decide +kernel) (by decide +kernel) (by decide +kernel) rfl) ?_
    refine gm_sz (gm_p_const (pc := 74) (i := .iconst 0) (v := gm_vi 0) (by decide +kernel) (by decide +kernel)) ?_
    refine gm_sz (gm_p_const (pc := 75) (i := .bipush 30) (v := gm_vi 30) (by decide +kernel) (by decide +kernel)) ?_
    refine gm_sz (gm_p_load (pc := 77) (i := .aload_n 0) (sr := 2) (j := 0) (by decide +kernel) rfl rfl rfl) ?_
    refine gm_sz (fw_gi (pc := 78) (ix := 312) (ci := 11) (j := 20) (x := nsp N lane row) (by decide +kernel) (e0k hE (k := 226) (c := 11) (by decide +kernel)) (by decide +kernel) (by decide +kernel) ((uM_ne (by omega)).trans ((uM_ne (by omega)).trans ((uM_ne (by omega)).trans uM_at)))) ?_
    refine gm_sz (gm_p_load (pc := 81) (i := .aload_n 0) (sr := 2) (j := 0) (by decide +kernel) rfl rfl rfl) ?_
    refine gm_sz (gm_p_const (pc := 82) (i := .iconst 0) (v := gm_vi 0) (by decide +kernel) (by decide +kernel)) ?_
    refine gm_c_virt (k := 226) (ci := 11) (mj := 294) (ix := 341) (pc := 83) (as := [gm_vi 0]) (st := [gm_vi (nsp N lane row), gm_vi 30, gm_vi 0]) (d' := d - 1) (bc' := 0) (bs' := 0) (by decide +kernel) (by decide +kernel) (by decide +kernel) (by decide +kernel) (e0k hE (k := 226) (c := 11) (by decide +kernel)).1 (e0k hE (k := 226) (c := 11) (by decide +kernel)).2 (by decide) (by decide +kernel) (show 1 = gm_na 294 by decide +kernel) (fw_c1 fw_si) (show 2 ≤ gm_ml 294 by decide +kernel) (Nat.le_of_ble_eq_true rfl) (by omega) (Nat.zero_le _) (Nat.zero_le _) ?_
    refine re_c294n (kd := 0) hE ((uM_ne (by omega)).trans ((uM_ne (by omega)).trans ((uM_ne (by omega)).trans ((uM_ne (by omega)).trans ((uM_ne (by omega)).trans ((uM_ne (by omega)).trans ((uM_ne (by omega)).trans ((fr_c hf2 (by decide)).trans ((hG _ (by omega)).trans h8))))))))) ?_
    show gm_Wp X LX d _ _ 292 86 _ [gm_vi 0, gm_vi (nsp N lane row), gm_vi 30, gm_vi 0] n K _ _ Q
    refine gm_sz (gm_p_bin (pc := 86) (i := .iadd) (f := fun x y => x + y) (by decide +kernel) rfl) ?_
    refine gm_sz (gm_p_load (pc := 87) (i := .aload_n 0) (sr := 2) (j := 0) (by decide +kernel) rfl rfl rfl) ?_
    refine gm_sz (gm_p_const (pc := 88) (i := .iconst 1) (v := gm_vi 1) (by decide +kernel) (by decide +kernel)) ?_
    refine gm_c_virt (k := 226) (ci := 11) (mj := 294) (ix := 341) (pc := 89) (as := [gm_vi 1]) (st := [gm_vi ((nsp N lane row) + 0), gm_vi 30, gm_vi 0]) (d' := d - 1) (bc' := 0) (bs' := 0) (by decide +kernel) (by decide +kernel) (by decide +kernel) (by decide +kernel) (e0k hE (k := 226) (c := 11) (by decide +kernel)).1 (e0k hE (k := 226) (c := 11) (by decide +kernel)).2 (by decide) (by decide +kernel) (show 1 = gm_na 294 by decide +kernel) (fw_c1 fw_si) (show 2 ≤ gm_ml 294 by decide +kernel) (Nat.le_of_ble_eq_true rfl) (by omega) (Nat.zero_le _) (Nat.zero_le _) ?_
    refine re_c294n (kd := 1) hE ((uM_ne (by omega)).trans ((uM_ne (by omega)).trans ((uM_ne (by omega)).trans ((uM_ne (by omega)).trans ((uM_ne (by omega)).trans ((uM_ne (by omega)).trans ((uM_ne (by omega)).trans ((fr_c hf2 (by decide)).trans ((hG _ (by omega)).trans h8))))))))) ?_
    show gm_Wp X LX d _ _ 292 92 _ [gm_vi 0, gm_vi ((nsp N lane row) + 0), gm_vi 30, gm_vi 0] n K _ _ Q
    refine gm_sz (gm_p_bin (pc := 92) (i := .isub) (f := fun x y => x - y) (by decide +kernel) rfl) ?_
    refine gm_sz (gm_p_min (pc := 93) (ix := 345) (x := 30) (y := ((nsp N lane row) + 0) - 0) (by decide +kernel) (by decide +kernel) (gm_w_id (by omega) (by omega)) (gm_w_id (by omega) (by omega)) (Nat.le_of_ble_eq_true rfl) (by omega)) ?_
    refine gm_sz (gm_p_max (pc := 96) (ix := 350) (x := 0) (y := min 30 (((nsp N lane row) + 0) - 0)) (by decide +kernel) (by decide +kernel) (gm_w_id (by omega) (by omega)) (gm_w_id (by omega) (by omega)) (Nat.le_of_ble_eq_true rfl) (by omega)) ?_
    refine gm_sz (gm_p_stor (pc := 99) (i := .istore 5) (sr := 0) (j := 5) (by decide +kernel) rfl (show 6 ≤ _ from Nat.le_of_ble_eq_true rfl) rfl) ?_
    refine gm_sz (gm_p_load (pc := 101) (i := .aload_n 0) (sr := 2) (j := 0) (by decide +kernel) rfl rfl rfl) ?_
    refine gm_sz (fw_gr (pc := 102) (ix := 42) (ci := 11) (j := 25) (r := 235) (by decide +kernel) (e0k hE (k := 226) (c := 11) (by decide +kernel)) (by decide +kernel) (by decide +kernel) (e0r hE (k := 226) (j := 25) (r := 235) (by decide +kernel))) ?_
    refine gm_sz (gm_p_load (pc := 105) (i := .iload 4) (sr := 0) (j := 4) (by decide +kernel) rfl rfl rfl) ?_
    refine gm_sz (gm_p_load (pc := 107) (i := .iload 5) (sr := 0) (j := 5) (by decide +kernel) rfl rfl rfl) ?_
    refine gm_sz (gm_p_const (pc := 109) (i := .iconst 1) (v := gm_vi 1) (by decide +kernel) (by decide +kernel)) ?_
    refine gm_sz (gm_p_bin (pc := 110) (i := .iadd) (f := fun x y => x + y) (by decide +kernel) rfl) ?_
    refine gm_sz (gm_p_un (pc := 111) (i := .i2b) (f := fun x => gm_wb x) (by decide +kernel) rfl) ?_
    refine gm_sz (fw_bs (pc := 112) (k := 235) (len := 29700) (e0 := (row * 300) + year) (x := gm_wb ((max 0 (min 30 (((nsp N lane row) + 0) - 0))) + 1)) (M' := gm_uM (gm_uM (gm_uM (gm_uM (gm_uM (gm_uM (gm_uM (gm_uM M2 226 17 lane) 226 18 row) 226 19 year) 226 20 (nsp N lane row)) 226 21 0) 226 22 0) 226 23 0) 235 ((row * 300) + year) (gm_wb (gm_wb ((max 0 (min 30 (((nsp N lane row) + 0) - 0))) + 1)))) (by decide +kernel) (e0a hE (k := 235) (q := ((1 : Nat), (29700 : Nat))) (by decide +kernel)).1 (e0a hE (k := 235) (q := ((1 : Nat), (29700 : Nat))) (by decide +kernel)).2 (by decide) ⟨by omega, by omega⟩ rfl) ?_
    refine gm_sz (gm_p_load (pc := 113) (i := .iload 5) (sr := 0) (j := 5) (by decide +kernel) rfl rfl rfl) ?_
    have e9 : max 0 (min 30 (((nsp N lane row) + 0) - 0)) = rphi0 N lane row year := rfl
    have b9 : 0 ≤ rphi0 N lane row year ∧ rphi0 N lane row year ≤ 30 := by unfold rphi0; exact ⟨by omega, by omega⟩
    have w9 : gm_wb (gm_wb ((max 0 (min 30 (((nsp N lane row) + 0) - 0))) + 1)) = rphi0 N lane row year + 1 := by rw [e9, wb_id (x := rphi0 N lane row year + 1) (by omega) (by omega), wb_id (x := rphi0 N lane row year + 1) (by omega) (by omega)]
    have kf : KFR N (rphi0 N) (gm_uM (gm_uM (gm_uM (gm_uM (gm_uM (gm_uM (gm_uM (gm_uM M2 226 17 lane) 226 18 row) 226 19 year) 226 20 (nsp N lane row)) 226 21 0) 226 22 0) 226 23 0) 235 ((row * 300) + year) (gm_wb (gm_wb ((max 0 (min 30 (((nsp N lane row) + 0) - 0))) + 1)))) := by
      have e26 : (gm_uM (gm_uM (gm_uM (gm_uM (gm_uM (gm_uM (gm_uM (gm_uM M2 226 17 lane) 226 18 row) 226 19 year) 226 20 (nsp N lane row)) 226 21 0) 226 22 0) 226 23 0) 235 ((row * 300) + year) (gm_wb (gm_wb ((max 0 (min 30 (((nsp N lane row) + 0) - 0))) + 1)))) 226 26 = lane := ((uM_ne (by omega)).trans ((uM_ne (by omega)).trans ((uM_ne (by omega)).trans ((uM_ne (by omega)).trans ((uM_ne (by omega)).trans ((uM_ne (by omega)).trans ((uM_ne (by omega)).trans ((uM_ne (by omega)).trans h26))))))))
      have e5 : ∀ j, ¬ j = row * 300 + year → (gm_uM (gm_uM (gm_uM (gm_uM (gm_uM (gm_uM (gm_uM (gm_uM M2 226 17 lane) 226 18 row) 226 19 year) 226 20 (nsp N lane row)) 226 21 0) 226 22 0) 226 23 0) 235 ((row * 300) + year) (gm_wb (gm_wb ((max 0 (min 30 (((nsp N lane row) + 0) - 0))) + 1)))) 235 j = M2 235 j := fun j hj => ((uM_ne (fun hh => hj hh.2)).trans ((uM_ne (by omega)).trans ((uM_ne (by omega)).trans ((uM_ne (by omega)).trans ((uM_ne (by omega)).trans ((uM_ne (by omega)).trans ((uM_ne (by omega)).trans ((uM_ne (by omega)).trans rfl))))))))
      have e6 : (gm_uM (gm_uM (gm_uM (gm_uM (gm_uM (gm_uM (gm_uM (gm_uM M2 226 17 lane) 226 18 row) 226 19 year) 226 20 (nsp N lane row)) 226 21 0) 226 22 0) 226 23 0) 235 ((row * 300) + year) (gm_wb (gm_wb ((max 0 (min 30 (((nsp N lane row) + 0) - 0))) + 1)))) 235 (row * 300 + year) = rphi0 N lane row year + 1 := uM_at.trans w9
      refine ⟨by rw [e26]; exact ⟨by omega, by omega⟩, fun j j0 j1 => ?_, fun r y a0 a1 r0 r1 y0 y1 => ?_⟩
      · by_cases e : j = row * 300 + year
        · subst e
          rw [e6]
          exact ⟨by omega, by omega⟩
        · rw [e5 j e]
          exact hk2.2.1 j j0 j1
      · rw [e26]
        by_cases e : r * 300 + y = row * 300 + year
        · obtain ⟨rfl, rfl⟩ : r = row ∧ y = year := ⟨by omega, by omega⟩
          exact Or.inr e6
        · rw [e5 _ e]
          have := hk2.2.2 r y (by rw [h26]; omega) (by rw [h26]; omega) r0 r1 y0 y1
          rwa [h26] at this
    exact gm_r_int (pc := 115) (by decide +kernel) (Or.inl (by decide +kernel)) (hq _ (fr_p (fr_p (fr_p (fr_p (fr_p (fr_p (fr_p (fr_p (fr_t fr_0 hf2 (by decide)) (Or.inr (by decide))) (Or.inr (by decide))) (Or.inr (by decide))) (Or.inr (by decide))) (Or.inr (by decide))) (Or.inr (by decide))) (Or.inr (by decide))) (Or.inl (by decide))) ⟨kf, (fun j hj => ((uM_ne (by omega)).trans ((uM_ne (by omega)).trans ((uM_ne (by omega)).trans ((uM_ne (by omega)).trans ((uM_ne (by omega)).trans ((uM_ne (by omega)).trans ((uM_ne (by omega)).trans ((uM_ne (by omega)).trans ((fr_c hf2 (by decide)).trans (hG j hj)))))))))))⟩)
  · have h21 : ¬ (M2 235 ((row * 300) + year)) ≤ 0 := h21
    refine gm_sz (gm_p_load (pc := 24) (i := .aload_n 0) (sr := 2) (j := 0) (by decide +kernel) rfl rfl rfl) ?_
    refine gm_sz (fw_gr (pc := 25) (ix := 42) (ci := 11) (j := 25) (r := 235) (by decide +kernel) (e0k hE (k := 226) (c := 11) (by decide +kernel)) (by decide +kernel) (by decide +kernel) (e0r hE (k := 226) (j := 25) (r := 235) (by decide +kernel))) ?_
    refine gm_sz (gm_p_load (pc := 28) (i := .iload 4) (sr := 0) (j := 4) (by decide +kernel) rfl rfl rfl) ?_
    refine gm_sz (fw_ba (pc := 30) (k := 235) (len := 29700) (e0 := (row * 300) + year) (x := M2 235 ((row * 300) + year)) (by decide +kernel) (e0a hE (k := 235) (q := ((1 : Nat), (29700 : Nat))) (by decide +kernel)).1 (e0a hE (k := 235) (q := ((1 : Nat), (29700 : Nat))) (by decide +kernel)).2 (by decide) ⟨by omega, by omega⟩ rfl) ?_
    refine gm_sz (gm_p_const (pc := 31) (i := .iconst 1) (v := gm_vi 1) (by decide +kernel) (by decide +kernel)) ?_
    refine gm_sz (gm_p_bin (pc := 32) (i := .isub) (f := fun x y => x - y) (by decide +kernel) rfl) ?_
    have e9 : (M2 235 ((row * 300) + year)) - 1 = rphi0 N lane row year := by omega
    have q := hq M2 (fr_t fr_0 hf2 (by decide)) ⟨hk2, (fun j hj => ((fr_c hf2 (by decide)).trans (hG j hj)))⟩
    rw [← e9] at q
    exact gm_r_int (pc := 33) (by decide +kernel) (Or.inl (by decide +kernel)) q
theorem re_flr0 (hE : E0 n K R) (hN : NR N) (hS : NSb 6 N) (h8 : G 8 = 0) : FLR X LX n K R N h (fun M => KFR N (rphi0 N) M ∧ ∀ j, (395 ≤ j ∨ j = 8) → M 227 j = G j) (rphi0 N) :=
  ⟨fun l r y => by unfold rphi0; exact ⟨by omega, by omega⟩, fun W M M2 hw h9 hI => ⟨kfr_fr h9 hw hI.1, g_fr h9 hw hI.2⟩, fun d bc bs M Q lane row year hd hl h2 h3 hT hI hq => re_flr0x hE hN hS h8 d bc bs M Q lane row year hd ⟨hl.1, by have := hN.1.1; omega⟩ ⟨h2.1, by have := hN.1.2.1; omega⟩ h3 hT hI hq⟩
end RF2
