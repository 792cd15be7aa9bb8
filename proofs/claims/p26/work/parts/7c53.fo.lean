/-! LOOPS OVER LETTERS: how many, which. -/
/-- how many; which, as bits -/
noncomputable def cnt (p : Int → Prop) : Nat → Int
  | 0 => 0
  | k + 1 => cnt p k + @ite Int (p (k : Int)) (Classical.propDecidable _) 1 0
noncomputable def bts (p : Int → Prop) : Nat → Int
  | 0 => 0
  | k + 1 => @ite Int (p (k : Int)) (Classical.propDecidable _) (gm_or (bts p k) (gm_shl 1 (k : Int))) (bts p k)
theorem cnt_t {p : Int → Prop} {k : Nat} (h : p (k : Int)) : cnt p (k + 1) = cnt p k + 1 := by
  show cnt p k + @ite Int (p (k : Int)) (Classical.propDecidable _) 1 0 = _
  rw [if_pos h]
theorem cnt_f {p : Int → Prop} {k : Nat} (h : ¬ p (k : Int)) : cnt p (k + 1) = cnt p k := by
  show cnt p k + @ite Int (p (k : Int)) (Classical.propDecidable _) 1 0 = _
  rw [if_neg h]
  omega
theorem cnt_b {p : Int → Prop} : ∀ k : Nat, 0 ≤ cnt p k ∧ cnt p k ≤ (k : Int) := by
  intro k
  induction k with
  | zero => exact ⟨Int.le_refl 0, Int.le_refl 0⟩
  | succ k ih =>
    by_cases h : p (k : Int)
    · rw [cnt_t h]; exact ⟨by omega, by omega⟩
    · rw [cnt_f h]; exact ⟨by omega, by omega⟩
theorem bts_t {p : Int → Prop} {k : Nat} (h : p (k : Int)) : bts p (k + 1) = gm_or (bts p k) (gm_shl 1 (k : Int)) := if_pos h
theorem bts_f {p : Int → Prop} {k : Nat} (h : ¬ p (k : Int)) : bts p (k + 1) = bts p k := if_neg h
theorem or_ir9 {x y : Int} : gm_ir (gm_or x y) := by
  unfold gm_or gm_ir
  generalize (Int32.ofInt x ||| Int32.ofInt y) = z
  have h := gm_w_toInt z.toInt
  rw [Int32.ofInt_toInt] at h
  rw [h]
  exact ⟨gm_w_lo _, gm_w_hi _⟩
theorem bts_ir {p : Int → Prop} : ∀ k : Nat, gm_ir (bts p k) := by
  intro k
  induction k with
  | zero => exact show (-2147483648 : Int) ≤ 0 ∧ (0 : Int) < 2147483648 from ⟨by decide, by decide⟩
  | succ k ih =>
    by_cases h : p (k : Int)
    · rw [bts_t h]; exact or_ir9
    · rw [bts_f h]; exact ih
theorem or_z {x : Int} (h : gm_ir x) : gm_or x 0 = x := by
  unfold gm_or
  rw [show Int32.ofInt 0 = 0 from rfl, Int32.or_zero, gm_w_toInt]
  exact gm_ir_w h
theorem cnt_cg {p q : Int → Prop} : ∀ k : Nat, (∀ i : Nat, i < k → (p (i : Int) ↔ q (i : Int))) → cnt p k = cnt q k := by
  intro k
  induction k with
  | zero => intro _; rfl
  | succ k ih =>
    intro h
    have e := ih (fun i hi => h i (by omega))
    by_cases hp : p (k : Int)
    · rw [cnt_t hp, cnt_t ((h k (by omega)).mp hp), e]
    · rw [cnt_f hp, cnt_f (fun hq => hp ((h k (by omega)).mpr hq)), e]
theorem bts_cg {p q : Int → Prop} : ∀ k : Nat, (∀ i : Nat, i < k → (p (i : Int) ↔ q (i : Int))) → bts p k = bts q k := by
  intro k
  induction k with
  | zero => intro _; rfl
  | succ k ih =>
    intro h
    have e := ih (fun i hi => h i (by omega))
    by_cases hp : p (k : Int)
    · rw [bts_t hp, bts_t ((h k (by omega)).mp hp), e]
    · rw [bts_f hp, bts_f (fun hq => hp ((h k (by omega)).mpr hq)), e]
section FO53
variable {X : Int → Int} {LX d bc bs n : Nat} {K : gm_K} {R : gm_R} {M : gm_M} {Q : gm_Q} {N h : Int → Int} {sp : Int → Int → Int} {FI : gm_M → Prop} {φ : Int → Int → Int → Int} {o dd : Int → Int} {l lane row year y p w x k c v a b t : Int}
theorem lo_c (hd : 4 ≤ d) (hE : E0 n K R) (hT : TI N h sp M) (hN : NR N) (h3 : M 220 3 = N 4) (ho : ∀ l, 0 ≤ l → l < N 4 → M 221 (l * 2 + 0) = o l) (hob : ∀ l, 0 ≤ l → l < N 4 → -1 ≤ o l ∧ o l ≤ 299) (hq : Q (.inl (some (gm_vi (bts (fun l => o l = -1) (N 4).toNat)))) n K R M) : ∀ (u k : Nat), (k : Int) + (u : Int) = N 4 → gm_Wp X LX d bc bs 23 8 [some (gm_vr 1), some (gm_vi (bts (fun l => o l = -1) k)), some (gm_vi (k : Int))] [] n K R M Q := by
  obtain ⟨⟨⟨a0, b0⟩, ⟨a1, b1⟩, ⟨a10, b10⟩, ⟨a11, b11⟩, ⟨a12, b12⟩, a9, b9⟩, ⟨⟨a2, b2⟩, ⟨a5, b5⟩, ⟨a3, b3⟩, ⟨a4, b4⟩, ⟨a6, b6⟩, ⟨a14, b14⟩, ⟨a7, b7⟩, a13, b13⟩, rF, rP, rL⟩ := id hN
  intro u
  induction u with
  | zero =>
    intro k hk
    have ek : k = (N 4).toNat := by omega
    have hb9 := bts_ir (p := (fun l => o l = -1)) k
    refine gm_sz (gm_p_load (pc := 8) (i := .iload_n 2) (sr := 0) (j := 2) (by decide +kernel) rfl rfl rfl) ?_
    refine gm_sz (gm_p_load (pc := 9) (i := .aload_n 0) (sr := 2) (j := 0) (by decide +kernel) rfl rfl rfl) ?_
    refine gm_sz (fw_gr (pc := 10) (ix := 97) (ci := 0) (j := 14) (r := 220) (by decide +kernel) (e0k hE (k := 1) (c := 0) (by decide +kernel)) (by decide +kernel) (by decide +kernel) (e0r hE (k := 1) (j := 14) (r := 220) (by decide +kernel))) ?_
    refine gm_c_virt (k := 220) (ci := 2) (mj := 9) (ix := 277) (pc := 13) (as := []) (st := [gm_vi (k : Int)]) (d' := d - 1) (bc' := 0) (bs' := 0) (by decide +kernel) (by decide +kernel) (by decide +kernel) (by decide +kernel) (e0k hE (k := 220) (c := 2) (by decide +kernel)).1 (e0k hE (k := 220) (c := 2) (by decide +kernel)).2 (by decide) (by decide +kernel) (show 0 = gm_na 9 by decide +kernel) fw_c0 (show 1 ≤ gm_ml 9 by decide +kernel) (Nat.le_of_ble_eq_true rfl) (by omega) (Nat.zero_le _) (Nat.zero_le _) ?_
    refine rw_size (s := N 4) (e0k hE (k := 220) (c := 2) (by decide +kernel)) h3 ?_
    show gm_Wp X LX d _ _ 23 16 _ [gm_vi (N 4), gm_vi (k : Int)] n K _ _ Q
    refine fw_ict (cc := .ge) (pc := 16) (off := 28) (by decide +kernel) (by decide) ⟨by omega, by omega⟩ ⟨by omega, by omega⟩ (show (N 4) ≤ (k : Int) by omega) ?_
    refine gm_sz (gm_p_load (pc := 44) (i := .iload_n 1) (sr := 0) (j := 1) (by decide +kernel) rfl rfl rfl) ?_
    have h9 : Q (.inl (some (gm_vi (bts (fun l => o l = -1) k)))) n K R M := by rw [ek]; exact hq
    exact gm_r_int (pc := 45) (by decide +kernel) (Or.inl (by decide +kernel)) h9
  | succ u ih =>
    intro k hk
    have hb9 := bts_ir (p := (fun l => o l = -1)) k
    have ob9 := hob (k : Int) (by omega) (by omega)
    refine gm_sz (gm_p_load (pc := 8) (i := .iload_n 2) (sr := 0) (j := 2) (by decide +kernel) rfl rfl rfl) ?_
    refine gm_sz (gm_p_load (pc := 9) (i := .aload_n 0) (sr := 2) (j := 0) (by decide +kernel) rfl rfl rfl) ?_
    refine gm_sz (fw_gr (pc := 10) (ix := 97) (ci := 0) (j := 14) (r := 220) (by decide +kernel) (e0k hE (k := 1) (c := 0) (by decide +kernel)) (by decide +kernel) (by decide +kernel) (e0r hE (k := 1) (j := 14) (r := 220) (by decide +kernel))) ?_
    refine gm_c_virt (k := 220) (ci := 2) (mj := 9) (ix := 277) (pc := 13) (as := []) (st := [gm_vi (k : Int)]) (d' := d - 1) (bc' := 0) (bs' := 0) (by decide +kernel) (by decide +kernel) (by decide +kernel) (by decide +kernel) (e0k hE (k := 220) (c := 2) (by decide +kernel)).1 (e0k hE (k := 220) (c := 2) (by decide +kernel)).2 (by decide) (by decide +kernel) (show 0 = gm_na 9 by decide +kernel) fw_c0 (show 1 ≤ gm_ml 9 by decide +kernel) (Nat.le_of_ble_eq_true rfl) (by omega) (Nat.zero_le _) (Nat.zero_le _) ?_
    refine rw_size (s := N 4) (e0k hE (k := 220) (c := 2) (by decide +kernel)) h3 ?_
    show gm_Wp X LX d _ _ 23 16 _ [gm_vi (N 4), gm_vi (k : Int)] n K _ _ Q
    refine fw_icf (cc := .ge) (pc := 16) (off := 28) (by decide +kernel) (by decide) ⟨by omega, by omega⟩ ⟨by omega, by omega⟩ (show ¬ (N 4) ≤ (k : Int) by omega) ?_
    refine gm_sz (gm_p_load (pc := 19) (i := .aload_n 0) (sr := 2) (j := 0) (by decide +kernel) rfl rfl rfl) ?_
    refine gm_sz (fw_gr (pc := 20) (ix := 97) (ci := 0) (j := 14) (r := 220) (by decide +kernel) (e0k hE (k := 1) (c := 0) (by decide +kernel)) (by decide +kernel) (by decide +kernel) (e0r hE (k := 1) (j := 14) (r := 220) (by decide +kernel))) ?_
    refine gm_sz (gm_p_load (pc := 23) (i := .iload_n 2) (sr := 0) (j := 2) (by decide +kernel) rfl rfl rfl) ?_
    refine gm_sz (gm_p_const (pc := 24) (i := .iconst 0) (v := gm_vi 0) (by decide +kernel) (by decide +kernel)) ?_
    refine gm_c_virt (k := 220) (ci := 2) (mj := 10) (ix := 186) (pc := 25) (as := [gm_vi (k : Int), gm_vi 0]) (st := []) (d' := d - 1) (bc' := 0) (bs' := 0) (by decide +kernel) (by decide +kernel) (by decide +kernel) (by decide +kernel) (e0k hE (k := 220) (c := 2) (by decide +kernel)).1 (e0k hE (k := 220) (c := 2) (by decide +kernel)).2 (by decide) (by decide +kernel) (show 2 = gm_na 10 by decide +kernel) (fw_c2 fw_si fw_si) (show 3 ≤ gm_ml 10 by decide +kernel) (Nat.le_of_ble_eq_true rfl) (by omega) (Nat.zero_le _) (Nat.zero_le _) ?_
    refine rw_get (s := N 4) (w := 2) (x := o (k : Int)) (e0k hE (k := 220) (c := 2) (by decide +kernel)) (e0a hE (k := 221) (q := (0, 48)) (by decide +kernel)) (e0r hE (k := 220) (j := 2) (r := 221) (by decide +kernel)) (by decide) h3 (hT.1 (220, 1, 2) (by decide)) ⟨by omega, by omega⟩ ⟨by omega, by omega⟩ ⟨by omega, by omega⟩ ⟨by omega, by omega⟩ (ho (k : Int) (by omega) (by omega)) ?_
    show gm_Wp X LX d _ _ 23 28 _ [gm_vi (o (k : Int))] n K _ _ Q
    refine gm_sz (gm_p_const (pc := 28) (i := .iconst (-1)) (v := gm_vi (-1)) (by decide +kernel) (by decide +kernel)) ?_
    refine fw_ic (cc := .ne) (pc := 29) (off := 9) (by decide +kernel) (by decide) ⟨by omega, by omega⟩ ⟨by decide, by decide⟩ (fun h29 => ?_) (fun h29 => ?_)
    · have h29 : ¬ (o (k : Int)) = (-1) := h29
      refine gm_sz (gm_p_iinc (pc := 38) (j := 2) (z := 1) (by decide +kernel) rfl) ?_
      refine gm_sz (gm_p_goto (pc := 41) (off := (-33)) (by decide +kernel) (by decide)) ?_
      have e8 : ((k + 1 : Nat) : Int) = (k : Int) + 1 := by omega
      have e9 : bts (fun l => o l = -1) (k + 1) = bts (fun l => o l = -1) k := bts_f (p := (fun l => o l = -1)) (show ¬ (o (k : Int) = -1) from by omega)
      have h9 := ih (k + 1) (by omega)
      rw [e9, e8] at h9
      exact h9
    · have h29 : (o (k : Int)) = (-1) := Classical.not_not.mp h29
      refine gm_sz (gm_p_load (pc := 32) (i := .iload_n 1) (sr := 0) (j := 1) (by decide +kernel) rfl rfl rfl) ?_
      refine gm_sz (gm_p_const (pc := 33) (i := .iconst 1) (v := gm_vi 1) (by decide +kernel) (by decide +kernel)) ?_
      refine gm_sz (gm_p_load (pc := 34) (i := .iload_n 2) (sr := 0) (j := 2) (by decide +kernel) rfl rfl rfl) ?_
      refine gm_sz (gm_p_bin (pc := 35) (i := .ishl) (f := gm_shl) (by decide +kernel) rfl) ?_
      refine gm_sz (gm_p_bin (pc := 36) (i := .ior) (f := gm_or) (by decide +kernel) rfl) ?_
      refine gm_sz (gm_p_stor (pc := 37) (i := .istore_n 1) (sr := 0) (j := 1) (by decide +kernel) rfl (show 2 ≤ _ from Nat.le_of_ble_eq_true rfl) rfl) ?_
      refine gm_sz (gm_p_iinc (pc := 38) (j := 2) (z := 1) (by decide +kernel) rfl) ?_
      refine gm_sz (gm_p_goto (pc := 41) (off := (-33)) (by decide +kernel) (by decide)) ?_
      have e8 : ((k + 1 : Nat) : Int) = (k : Int) + 1 := by omega
      have e9 : bts (fun l => o l = -1) (k + 1) = gm_or (bts (fun l => o l = -1) k) (gm_shl 1 (k : Int)) := bts_t (p := (fun l => o l = -1)) (show o (k : Int) = -1 from by omega)
      have h9 := ih (k + 1) (by omega)
      rw [e9, e8] at h9
      exact h9
theorem oi_c (hd : 4 ≤ d) (hE : E0 n K R) (hT : TI N h sp M) (hN : NR N) (h3 : M 220 3 = N 4) (ho : ∀ l, 0 ≤ l → l < N 4 → M 221 (l * 2 + 0) = o l) (hob : ∀ l, 0 ≤ l → l < N 4 → -1 ≤ o l ∧ o l ≤ 299) (hi : gm_ir y) (hi2 : gm_ir c) (hq : Q (.inl (some (gm_vi (cnt (fun l => o l = y ∧ (¬ c = 0 ∨ ¬ (N (119 + (l * 7 + 0))) = -1)) (N 4).toNat)))) n K R M) : ∀ (u k : Nat), (k : Int) + (u : Int) = N 4 → gm_Wp X LX d bc bs 47 5 [some (gm_vr 1), some (gm_vi y), some (gm_vi c), some (gm_vi (cnt (fun l => o l = y ∧ (¬ c = 0 ∨ ¬ (N (119 + (l * 7 + 0))) = -1)) k)), some (gm_vi (k : Int))] [] n K R M Q := by
  obtain ⟨⟨⟨a0, b0⟩, ⟨a1, b1⟩, ⟨a10, b10⟩, ⟨a11, b11⟩, ⟨a12, b12⟩, a9, b9⟩, ⟨⟨a2, b2⟩, ⟨a5, b5⟩, ⟨a3, b3⟩, ⟨a4, b4⟩, ⟨a6, b6⟩, ⟨a14, b14⟩, ⟨a7, b7⟩, a13, b13⟩, rF, rP, rL⟩ := id hN
  intro u
  induction u with
  | zero =>
    intro k hk
    have ek : k = (N 4).toNat := by omega
    have hb9 := cnt_b (p := (fun l => o l = y ∧ (¬ c = 0 ∨ ¬ (N (119 + (l * 7 + 0))) = -1))) k
    refine gm_sz (gm_p_load (pc := 5) (i := .iload 4) (sr := 0) (j := 4) (by decide +kernel) rfl rfl rfl) ?_
    refine gm_sz (gm_p_load (pc := 7) (i := .aload_n 0) (sr := 2) (j := 0) (by decide +kernel) rfl rfl rfl) ?_
    refine gm_sz (fw_gr (pc := 8) (ix := 97) (ci := 0) (j := 14) (r := 220) (by decide +kernel) (e0k hE (k := 1) (c := 0) (by decide +kernel)) (by decide +kernel) (by decide +kernel) (e0r hE (k := 1) (j := 14) (r := 220) (by decide +kernel))) ?_
    refine gm_c_virt (k := 220) (ci := 2) (mj := 9) (ix := 277) (pc := 11) (as := []) (st := [gm_vi (k : Int)]) (d' := d - 1) (bc' := 0) (bs' := 0) (by decide +kernel) (by decide +kernel) (by decide +kernel) (by decide +kernel) (e0k hE (k := 220) (c := 2) (by decide +kernel)).1 (e0k hE (k := 220) (c := 2) (by decide +kernel)).2 (by decide) (by decide +kernel) (show 0 = gm_na 9 by decide +kernel) fw_c0 (show 1 ≤ gm_ml 9 by decide +kernel) (Nat.le_of_ble_eq_true rfl) (by omega) (Nat.zero_le _) (Nat.zero_le _) ?_
    refine rw_size (s := N 4) (e0k hE (k := 220) (c := 2) (by decide +kernel)) h3 ?_
    show gm_Wp X LX d _ _ 47 14 _ [gm_vi (N 4), gm_vi (k : Int)] n K _ _ Q
    refine fw_ict (cc := .ge) (pc := 14) (off := 42) (by decide +kernel) (by decide) ⟨by omega, by omega⟩ ⟨by omega, by omega⟩ (show (N 4) ≤ (k : Int) by omega) ?_
    refine gm_sz (gm_p_load (pc := 56) (i := .iload_n 3) (sr := 0) (j := 3) (by decide +kernel) rfl rfl rfl) ?_
    have h9 : Q (.inl (some (gm_vi (cnt (fun l => o l = y ∧ (¬ c = 0 ∨ ¬ (N (119 + (l * 7 + 0))) = -1)) k)))) n K R M := by rw [ek]; exact hq
    exact gm_r_int (pc := 57) (by decide +kernel) (Or.inl (by decide +kernel)) h9
  | succ u ih =>
    intro k hk
    have hb9 := cnt_b (p := (fun l => o l = y ∧ (¬ c = 0 ∨ ¬ (N (119 + (l * 7 + 0))) = -1))) k
    have ob9 := hob (k : Int) (by omega) (by omega)
    obtain ⟨r0, -⟩ := rL (k : Int) (by omega) (by omega)
    have r0 : -1 ≤ N (119 + ((k : Int) * 7 + 0)) ∧ N (119 + ((k : Int) * 7 + 0)) < N 3 := r0
    have rk9 : (if (N (119 + ((k : Int) * 7 + 0))) = -1 then (1 : Int) else 0) = 1 ∧ (N (119 + ((k : Int) * 7 + 0))) = -1 ∨ (if (N (119 + ((k : Int) * 7 + 0))) = -1 then (1 : Int) else 0) = 0 ∧ ¬ (N (119 + ((k : Int) * 7 + 0))) = -1 := by
      by_cases hh : (N (119 + ((k : Int) * 7 + 0))) = -1
      · exact Or.inl ⟨if_pos hh, hh⟩
      · exact Or.inr ⟨if_neg hh, hh⟩
    refine gm_sz (gm_p_load (pc := 5) (i := .iload 4) (sr := 0) (j := 4) (by decide +kernel) rfl rfl rfl) ?_
    refine gm_sz (gm_p_load (pc := 7) (i := .aload_n 0) (sr := 2) (j := 0) (by decide +kernel) rfl rfl rfl) ?_
    refine gm_sz (fw_gr (pc := 8) (ix := 97) (ci := 0) (j := 14) (r := 220) (by decide +kernel) (e0k hE (k := 1) (c := 0) (by decide +kernel)) (by decide +kernel) (by decide +kernel) (e0r hE (k := 1) (j := 14) (r := 220) (by decide +kernel))) ?_
    refine gm_c_virt (k := 220) (ci := 2) (mj := 9) (ix := 277) (pc := 11) (as := []) (st := [gm_vi (k : Int)]) (d' := d - 1) (bc' := 0) (bs' := 0) (by decide +kernel) (by decide +kernel) (by decide +kernel) (by decide +kernel) (e0k hE (k := 220) (c := 2) (by decide +kernel)).1 (e0k hE (k := 220) (c := 2) (by decide +kernel)).2 (by decide) (by decide +kernel) (show 0 = gm_na 9 by decide +kernel) fw_c0 (show 1 ≤ gm_ml 9 by decide +kernel) (Nat.le_of_ble_eq_true rfl) (by omega) (Nat.zero_le _) (Nat.zero_le _) ?_
    refine rw_size (s := N 4) (e0k hE (k := 220) (c := 2) (by decide +kernel)) h3 ?_
    show gm_Wp X LX d _ _ 47 14 _ [gm_vi (N 4), gm_vi (k : Int)] n K _ _ Q
    refine fw_icf (cc := .ge) (pc := 14) (off := 42) (by decide +kernel) (by decide) ⟨by omega, by omega⟩ ⟨by omega, by omega⟩ (show ¬ (N 4) ≤ (k : Int) by omega) ?_
    refine gm_sz (gm_p_load (pc := 17) (i := .aload_n 0) (sr := 2) (j := 0) (by decide +kernel) rfl rfl rfl) ?_
    refine gm_sz (fw_gr (pc := 18) (ix := 97) (ci := 0) (j := 14) (r := 220) (by decide +kernel) (e0k hE (k := 1) (c := 0) (by decide +kernel)) (by decide +kernel) (by decide +kernel) (e0r hE (k := 1) (j := 14) (r := 220) (by decide +kernel))) ?_
    refine gm_sz (gm_p_load (pc := 21) (i := .iload 4) (sr := 0) (j := 4) (by decide +kernel) rfl rfl rfl) ?_
    refine gm_sz (gm_p_const (pc := 23) (i := .iconst 0) (v := gm_vi 0) (by decide +kernel) (by decide +kernel)) ?_
    refine gm_c_virt (k := 220) (ci := 2) (mj := 10) (ix := 186) (pc := 24) (as := [gm_vi (k : Int), gm_vi 0]) (st := []) (d' := d - 1) (bc' := 0) (bs' := 0) (by decide +kernel) (by decide +kernel) (by decide +kernel) (by decide +kernel) (e0k hE (k := 220) (c := 2) (by decide +kernel)).1 (e0k hE (k := 220) (c := 2) (by decide +kernel)).2 (by decide) (by decide +kernel) (show 2 = gm_na 10 by decide +kernel) (fw_c2 fw_si fw_si) (show 3 ≤ gm_ml 10 by decide +kernel) (Nat.le_of_ble_eq_true rfl) (by omega) (Nat.zero_le _) (Nat.zero_le _) ?_
    refine rw_get (s := N 4) (w := 2) (x := o (k : Int)) (e0k hE (k := 220) (c := 2) (by decide +kernel)) (e0a hE (k := 221) (q := (0, 48)) (by decide +kernel)) (e0r hE (k := 220) (j := 2) (r := 221) (by decide +kernel)) (by decide) h3 (hT.1 (220, 1, 2) (by decide)) ⟨by omega, by omega⟩ ⟨by omega, by omega⟩ ⟨by omega, by omega⟩ ⟨by omega, by omega⟩ (ho (k : Int) (by omega) (by omega)) ?_
    show gm_Wp X LX d _ _ 47 27 _ [gm_vi (o (k : Int))] n K _ _ Q
    refine gm_sz (gm_p_load (pc := 27) (i := .iload_n 1) (sr := 0) (j := 1) (by decide +kernel) rfl rfl rfl) ?_
    refine fw_ic (cc := .ne) (pc := 28) (off := 22) (by decide +kernel) (by decide) ⟨by omega, by omega⟩ hi (fun h28 => ?_) (fun h28 => ?_)
    · have h28 : ¬ (o (k : Int)) = y := h28
      refine gm_sz (gm_p_iinc (pc := 50) (j := 4) (z := 1) (by decide +kernel) rfl) ?_
      refine gm_sz (gm_p_goto (pc := 53) (off := (-48)) (by decide +kernel) (by decide)) ?_
      have e8 : ((k + 1 : Nat) : Int) = (k : Int) + 1 := by omega
      have e9 : cnt (fun l => o l = y ∧ (¬ c = 0 ∨ ¬ (N (119 + (l * 7 + 0))) = -1)) (k + 1) = cnt (fun l => o l = y ∧ (¬ c = 0 ∨ ¬ (N (119 + (l * 7 + 0))) = -1)) k := cnt_f (p := (fun l => o l = y ∧ (¬ c = 0 ∨ ¬ (N (119 + (l * 7 + 0))) = -1))) (show ¬ (o (k : Int) = y ∧ (¬ c = 0 ∨ ¬ (N (119 + ((k : Int) * 7 + 0))) = -1)) from by omega)
      have h9 := ih (k + 1) (by omega)
      rw [e9, e8] at h9
      exact h9
    · have h28 : (o (k : Int)) = y := Classical.not_not.mp h28
      refine gm_sz (gm_p_load (pc := 31) (i := .iload_n 2) (sr := 0) (j := 2) (by decide +kernel) rfl rfl rfl) ?_
      refine fw_if (cc := .ne) (pc := 32) (off := 15) (by decide +kernel) (by decide) hi2 (fun h32 => ?_) (fun h32 => ?_)
      · have h32 : ¬ c = 0 := h32
        refine gm_sz (gm_p_iinc (pc := 47) (j := 3) (z := 1) (by decide +kernel) rfl) ?_
        refine gm_sz (gm_p_iinc (pc := 50) (j := 4) (z := 1) (by decide +kernel) rfl) ?_
        refine gm_sz (gm_p_goto (pc := 53) (off := (-48)) (by decide +kernel) (by decide)) ?_
        have e8 : ((k + 1 : Nat) : Int) = (k : Int) + 1 := by omega
        have e9 : cnt (fun l => o l = y ∧ (¬ c = 0 ∨ ¬ (N (119 + (l * 7 + 0))) = -1)) (k + 1) = cnt (fun l => o l = y ∧ (¬ c = 0 ∨ ¬ (N (119 + (l * 7 + 0))) = -1)) k + 1 := cnt_t (p := (fun l => o l = y ∧ (¬ c = 0 ∨ ¬ (N (119 + (l * 7 + 0))) = -1))) (show o (k : Int) = y ∧ (¬ c = 0 ∨ ¬ (N (119 + ((k : Int) * 7 + 0))) = -1) from by omega)
        have h9 := ih (k + 1) (by omega)
        rw [e9, e8] at h9
        exact h9
      · have h32 : c = 0 := Classical.not_not.mp h32
        refine gm_sz (gm_p_load (pc := 35) (i := .aload_n 0) (sr := 2) (j := 0) (by decide +kernel) rfl rfl rfl) ?_
        refine gm_sz (fw_gr (pc := 36) (ix := 23) (ci := 0) (j := 3) (r := 3) (by decide +kernel) (e0k hE (k := 1) (c := 0) (by decide +kernel)) (by decide +kernel) (by decide +kernel) (e0r hE (k := 1) (j := 3) (r := 3) (by decide +kernel))) ?_
        refine gm_sz (gm_p_load (pc := 39) (i := .iload 4) (sr := 0) (j := 4) (by decide +kernel) rfl rfl rfl) ?_
        refine gm_c_virt (k := 3) (ci := 1) (mj := 28) (ix := 450) (pc := 41) (as := [gm_vi (k : Int)]) (st := []) (d' := d - 1) (bc' := 0) (bs' := 0) (by decide +kernel) (by decide +kernel) (by decide +kernel) (by decide +kernel) (e0k hE (k := 3) (c := 1) (by decide +kernel)).1 (e0k hE (k := 3) (c := 1) (by decide +kernel)).2 (by decide) (by decide +kernel) (show 1 = gm_na 28 by decide +kernel) (fw_c1 fw_si) (show 2 ≤ gm_ml 28 by decide +kernel) (Nat.le_of_ble_eq_true rfl) (by omega) (Nat.zero_le _) (Nat.zero_le _) ?_
        refine cs_rock9 (by omega) hE hT hN ⟨by omega, by omega⟩ ?_
        show gm_Wp X LX d _ _ 47 44 _ [gm_vi (if (N (119 + ((k : Int) * 7 + 0))) = -1 then (1 : Int) else 0)] n K _ _ Q
        refine fw_if (cc := .ne) (pc := 44) (off := 6) (by decide +kernel) (by decide) ⟨by omega, by omega⟩ (fun h44 => ?_) (fun h44 => ?_)
        · have h44 : ¬ (if (N (119 + ((k : Int) * 7 + 0))) = -1 then (1 : Int) else 0) = 0 := h44
          refine gm_sz (gm_p_iinc (pc := 50) (j := 4) (z := 1) (by decide +kernel) rfl) ?_
          refine gm_sz (gm_p_goto (pc := 53) (off := (-48)) (by decide +kernel) (by decide)) ?_
          have e8 : ((k + 1 : Nat) : Int) = (k : Int) + 1 := by omega
          have e9 : cnt (fun l => o l = y ∧ (¬ c = 0 ∨ ¬ (N (119 + (l * 7 + 0))) = -1)) (k + 1) = cnt (fun l => o l = y ∧ (¬ c = 0 ∨ ¬ (N (119 + (l * 7 + 0))) = -1)) k := cnt_f (p := (fun l => o l = y ∧ (¬ c = 0 ∨ ¬ (N (119 + (l * 7 + 0))) = -1))) (show ¬ (o (k : Int) = y ∧ (¬ c = 0 ∨ ¬ (N (119 + ((k : Int) * 7 + 0))) = -1)) from by omega)
          have h9 := ih (k + 1) (by omega)
          rw [e9, e8] at h9
          exact h9
        · have h44 : (if (N (119 + ((k : Int) * 7 + 0))) = -1 then (1 : Int) else 0) = 0 := Classical.not_not.mp h44
          refine gm_sz (gm_p_iinc (pc := 47) (j := 3) (z := 1) (by decide +kernel) rfl) ?_
          refine gm_sz (gm_p_iinc (pc := 50) (j := 4) (z := 1) (by decide +kernel) rfl) ?_
          refine gm_sz (gm_p_goto (pc := 53) (off := (-48)) (by decide +kernel) (by decide)) ?_
          have e8 : ((k + 1 : Nat) : Int) = (k : Int) + 1 := by omega
          have e9 : cnt (fun l => o l = y ∧ (¬ c = 0 ∨ ¬ (N (119 + (l * 7 + 0))) = -1)) (k + 1) = cnt (fun l => o l = y ∧ (¬ c = 0 ∨ ¬ (N (119 + (l * 7 + 0))) = -1)) k + 1 := cnt_t (p := (fun l => o l = y ∧ (¬ c = 0 ∨ ¬ (N (119 + (l * 7 + 0))) = -1))) (show o (k : Int) = y ∧ (¬ c = 0 ∨ ¬ (N (119 + ((k : Int) * 7 + 0))) = -1) from by omega)
          have h9 := ih (k + 1) (by omega)
          rw [e9, e8] at h9
          exact h9
theorem lo_r (hd : 20 ≤ d) (hE : E0 n K R) (hT : TR N h M) (hN : NR N) (hfw : FLR X LX n K R N h FI φ) (hI : FI M) (hoo : ∀ l, 0 ≤ l → l < N 4 → OUTR N h φ l (o l) (dd l)) (h0 : M 226 0 = 0) (hq : ∀ M2, M2 226 0 = 0 → Q (.inl (some (gm_vi (bts (fun l => o l = -1) (N 4).toNat)))) n K R M2) : ∀ (u k : Nat) (M1 : gm_M), (k : Int) + (u : Int) = N 4 → fr [(226, some 29), (226, some 30), (226, some 26), (226, some 17), (226, some 18), (226, some 19), (226, some 20), (226, some 21), (226, some 22), (226, some 23), (235, none), (233, none), (236, none), (237, none)] M M1 → FI M1 → gm_Wp X LX d bc bs 330 9 [some (gm_vr 226), some (gm_vi (bts (fun l => o l = -1) k)), some (gm_vi (k : Int))] [] n K R M1 Q := by
  obtain ⟨⟨⟨a0, b0⟩, ⟨a1, b1⟩, ⟨a10, b10⟩, ⟨a11, b11⟩, ⟨a12, b12⟩, a9, b9⟩, ⟨⟨a2, b2⟩, ⟨a5, b5⟩, ⟨a3, b3⟩, ⟨a4, b4⟩, ⟨a6, b6⟩, ⟨a14, b14⟩, ⟨a7, b7⟩, a13, b13⟩, rF, rP, rL⟩ := id hN
  intro u
  induction u with
  | zero =>
    intro k M1 hk hf hI1
    have ek : k = (N 4).toNat := by omega
    have hb9 := bts_ir (p := (fun l => o l = -1)) k
    refine gm_sz (gm_p_load (pc := 9) (i := .iload_n 2) (sr := 0) (j := 2) (by decide +kernel) rfl rfl rfl) ?_
    refine gm_sz (gm_p_load (pc := 10) (i := .aload_n 0) (sr := 2) (j := 0) (by decide +kernel) rfl rfl rfl) ?_
    refine gm_c_virt (k := 226) (ci := 11) (mj := 254) (ix := 100) (pc := 11) (as := []) (st := [gm_vi (k : Int)]) (d' := d - 1) (bc' := 0) (bs' := 0) (by decide +kernel) (by decide +kernel) (by decide +kernel) (by decide +kernel) (e0k hE (k := 226) (c := 11) (by decide +kernel)).1 (e0k hE (k := 226) (c := 11) (by decide +kernel)).2 (by decide) (by decide +kernel) (show 0 = gm_na 254 by decide +kernel) fw_c0 (show 1 ≤ gm_ml 254 by decide +kernel) (Nat.le_of_ble_eq_true rfl) (by omega) (Nat.zero_le _) (Nat.zero_le _) ?_
    refine re_let hE (tr_fr (W := [(226, some 29), (226, some 30), (226, some 26), (226, some 17), (226, some 18), (226, some 19), (226, some 20), (226, some 21), (226, some 22), (226, some 23), (235, none), (233, none), (236, none), (237, none)]) hT (fr_t fr_0 hf (by decide)) (by decide)) hN ?_
    show gm_Wp X LX d _ _ 330 14 _ [gm_vi (N 4), gm_vi (k : Int)] n K _ _ Q
    refine fw_ict (cc := .ge) (pc := 14) (off := 27) (by decide +kernel) (by decide) ⟨by omega, by omega⟩ ⟨by omega, by omega⟩ (show (N 4) ≤ (k : Int) by omega) ?_
    refine gm_sz (gm_p_load (pc := 41) (i := .iload_n 1) (sr := 0) (j := 1) (by decide +kernel) rfl rfl rfl) ?_
    have h9 : Q (.inl (some (gm_vi (bts (fun l => o l = -1) k)))) n K R M1 := by rw [ek]; exact hq _ ((fr_j hf (by decide)).trans h0)
    exact gm_r_int (pc := 42) (by decide +kernel) (Or.inl (by decide +kernel)) h9
  | succ u ih =>
    intro k M1 hk hf hI1
    have hb9 := bts_ir (p := (fun l => o l = -1)) k
    refine gm_sz (gm_p_load (pc := 9) (i := .iload_n 2) (sr := 0) (j := 2) (by decide +kernel) rfl rfl rfl) ?_
    refine gm_sz (gm_p_load (pc := 10) (i := .aload_n 0) (sr := 2) (j := 0) (by decide +kernel) rfl rfl rfl) ?_
    refine gm_c_virt (k := 226) (ci := 11) (mj := 254) (ix := 100) (pc := 11) (as := []) (st := [gm_vi (k : Int)]) (d' := d - 1) (bc' := 0) (bs' := 0) (by decide +kernel) (by decide +kernel) (by decide +kernel) (by decide +kernel) (e0k hE (k := 226) (c := 11) (by decide +kernel)).1 (e0k hE (k := 226) (c := 11) (by decide +kernel)).2 (by decide) (by decide +kernel) (show 0 = gm_na 254 by decide +kernel) fw_c0 (show 1 ≤ gm_ml 254 by decide +kernel) (Nat.le_of_ble_eq_true rfl) (by omega) (Nat.zero_le _) (Nat.zero_le _) ?_
    refine re_let hE (tr_fr (W := [(226, some 29), (226, some 30), (226, some 26), (226, some 17), (226, some 18), (226, some 19), (226, some 20), (226, some 21), (226, some 22), (226, some 23), (235, none), (233, none), (236, none), (237, none)]) hT (fr_t fr_0 hf (by decide)) (by decide)) hN ?_
    show gm_Wp X LX d _ _ 330 14 _ [gm_vi (N 4), gm_vi (k : Int)] n K _ _ Q
    refine fw_icf (cc := .ge) (pc := 14) (off := 27) (by decide +kernel) (by decide) ⟨by omega, by omega⟩ ⟨by omega, by omega⟩ (show ¬ (N 4) ≤ (k : Int) by omega) ?_
    refine gm_sz (gm_p_load (pc := 17) (i := .iload_n 1) (sr := 0) (j := 1) (by decide +kernel) rfl rfl rfl) ?_
    refine gm_sz (gm_p_load (pc := 18) (i := .aload_n 0) (sr := 2) (j := 0) (by decide +kernel) rfl rfl rfl) ?_
    refine gm_sz (gm_p_load (pc := 19) (i := .iload_n 2) (sr := 0) (j := 2) (by decide +kernel) rfl rfl rfl) ?_
    refine gm_c_virt (k := 226) (ci := 11) (mj := 304) (ix := 387) (pc := 20) (as := [gm_vi (k : Int)]) (st := [gm_vi (bts (fun l => o l = -1) k)]) (d' := d - 1) (bc' := 0) (bs' := 0) (by decide +kernel) (by decide +kernel) (by decide +kernel) (by decide +kernel) (e0k hE (k := 226) (c := 11) (by decide +kernel)).1 (e0k hE (k := 226) (c := 11) (by decide +kernel)).2 (by decide) (by decide +kernel) (show 1 = gm_na 304 by decide +kernel) (fw_c1 fw_si) (show 2 ≤ gm_ml 304 by decide +kernel) (Nat.le_of_ble_eq_true rfl) (by omega) (Nat.zero_le _) (Nat.zero_le _) ?_
    refine re_c304 (l := (k : Int)) (by omega) hE (tr_fr (W := [(226, some 29), (226, some 30), (226, some 26), (226, some 17), (226, some 18), (226, some 19), (226, some 20), (226, some 21), (226, some 22), (226, some 23), (235, none), (233, none), (236, none), (237, none)]) hT (fr_t fr_0 hf (by decide)) (by decide)) hN hfw hI1 ⟨by omega, by omega⟩ (fun M21 hf21 hI21 hr21 => ?_)
    show gm_Wp X LX d _ _ 330 23 _ [gm_vi (M21 226 29), gm_vi (bts (fun l => o l = -1) k)] n K _ _ Q
    obtain ⟨-, -, -, r3, -⟩ := rL (k : Int) (by omega) (by omega)
    have ho9 := hoo (k : Int) (by omega) (by omega)
    obtain ⟨e29, e37⟩ := rrun_o hr21 r3.1 ho9
    have ob := OUTR_b ho9 r3.1
    refine fw_if (cc := .ge) (pc := 23) (off := 9) (by decide +kernel) (by decide) ⟨by omega, by omega⟩ (fun h23 => ?_) (fun h23 => ?_)
    · have h23 : 0 ≤ (M21 226 29) := h23
      refine gm_sz (gm_p_const (pc := 32) (i := .iconst 0) (v := gm_vi 0) (by decide +kernel) (by decide +kernel)) ?_
      refine gm_sz (gm_p_bin (pc := 33) (i := .ior) (f := gm_or) (by decide +kernel) rfl) ?_
      refine gm_sz (gm_p_stor (pc := 34) (i := .istore_n 1) (sr := 0) (j := 1) (by decide +kernel) rfl (show 2 ≤ _ from Nat.le_of_ble_eq_true rfl) rfl) ?_
      refine gm_sz (gm_p_iinc (pc := 35) (j := 2) (z := 1) (by decide +kernel) rfl) ?_
      refine gm_sz (gm_p_goto (pc := 38) (off := (-29)) (by decide +kernel) (by decide)) ?_
      rw [or_z hb9]
      have e8 : ((k + 1 : Nat) : Int) = (k : Int) + 1 := by omega
      have e9 : bts (fun l => o l = -1) (k + 1) = bts (fun l => o l = -1) k := bts_f (p := (fun l => o l = -1)) (show ¬ (o (k : Int) = -1) from by omega)
      have h9 := ih (k + 1) _ (by omega) (fr_t (fr_t fr_0 hf (by decide)) hf21 (by decide)) hI21
      rw [e9, e8] at h9
      exact h9
    · have h23 : ¬ 0 ≤ (M21 226 29) := h23
      refine gm_sz (gm_p_const (pc := 26) (i := .iconst 1) (v := gm_vi 1) (by decide +kernel) (by decide +kernel)) ?_
      refine gm_sz (gm_p_load (pc := 27) (i := .iload_n 2) (sr := 0) (j := 2) (by decide +kernel) rfl rfl rfl) ?_
      refine gm_sz (gm_p_bin (pc := 28) (i := .ishl) (f := gm_shl) (by decide +kernel) rfl) ?_
      refine gm_sz (gm_p_goto (pc := 29) (off := 4) (by decide +kernel) (by decide)) ?_
      refine gm_sz (gm_p_bin (pc := 33) (i := .ior) (f := gm_or) (by decide +kernel) rfl) ?_
      refine gm_sz (gm_p_stor (pc := 34) (i := .istore_n 1) (sr := 0) (j := 1) (by decide +kernel) rfl (show 2 ≤ _ from Nat.le_of_ble_eq_true rfl) rfl) ?_
      refine gm_sz (gm_p_iinc (pc := 35) (j := 2) (z := 1) (by decide +kernel) rfl) ?_
      refine gm_sz (gm_p_goto (pc := 38) (off := (-29)) (by decide +kernel) (by decide)) ?_
      have e8 : ((k + 1 : Nat) : Int) = (k : Int) + 1 := by omega
      have e9 : bts (fun l => o l = -1) (k + 1) = gm_or (bts (fun l => o l = -1) k) (gm_shl 1 (k : Int)) := bts_t (p := (fun l => o l = -1)) (show o (k : Int) = -1 from by omega)
      have h9 := ih (k + 1) _ (by omega) (fr_t (fr_t fr_0 hf (by decide)) hf21 (by decide)) hI21
      rw [e9, e8] at h9
      exact h9
theorem oa_l (hd : 20 ≤ d) (hE : E0 n K R) (hT : TR N h M) (hN : NR N) (hfw : FLR X LX n K R N h FI φ) (hI : FI M) (hoo : ∀ l, 0 ≤ l → l < N 4 → OUTR N h φ l (o l) (dd l)) (h0 : M 226 0 = 0) (hq : ∀ M2, fr [(226, some 29), (226, some 30), (226, some 26), (226, some 17), (226, some 18), (226, some 19), (226, some 20), (226, some 21), (226, some 22), (226, some 23), (235, none), (233, none), (236, none), (237, none), (238, none)] M M2 → FI M2 → M2 226 0 = 0 → (∀ l, 0 ≤ l → l < N 4 → M2 238 l = o l) → Q (.inl none) n K R M2) : ∀ (u k : Nat) (M1 : gm_M), (k : Int) + (u : Int) = N 4 → fr [(226, some 29), (226, some 30), (226, some 26), (226, some 17), (226, some 18), (226, some 19), (226, some 20), (226, some 21), (226, some 22), (226, some 23), (235, none), (233, none), (236, none), (237, none), (238, none)] M M1 → FI M1 → (∀ l, 0 ≤ l → l < (k : Int) → M1 238 l = o l) → gm_Wp X LX d bc bs 332 2 [some (gm_vr 226), some (gm_vi (k : Int))] [] n K R M1 Q := by
  obtain ⟨⟨⟨a0, b0⟩, ⟨a1, b1⟩, ⟨a10, b10⟩, ⟨a11, b11⟩, ⟨a12, b12⟩, a9, b9⟩, ⟨⟨a2, b2⟩, ⟨a5, b5⟩, ⟨a3, b3⟩, ⟨a4, b4⟩, ⟨a6, b6⟩, ⟨a14, b14⟩, ⟨a7, b7⟩, a13, b13⟩, rF, rP, rL⟩ := id hN
  intro u
  induction u with
  | zero =>
    intro k M1 hk hf hI1 hv
    refine gm_sz (gm_p_load (pc := 2) (i := .iload_n 1) (sr := 0) (j := 1) (by decide +kernel) rfl rfl rfl) ?_
    refine gm_sz (gm_p_load (pc := 3) (i := .aload_n 0) (sr := 2) (j := 0) (by decide +kernel) rfl rfl rfl) ?_
    refine gm_c_virt (k := 226) (ci := 11) (mj := 254) (ix := 100) (pc := 4) (as := []) (st := [gm_vi (k : Int)]) (d' := d - 1) (bc' := 0) (bs' := 0) (by decide +kernel) (by decide +kernel) (by decide +kernel) (by decide +kernel) (e0k hE (k := 226) (c := 11) (by decide +kernel)).1 (e0k hE (k := 226) (c := 11) (by decide +kernel)).2 (by decide) (by decide +kernel) (show 0 = gm_na 254 by decide +kernel) fw_c0 (show 1 ≤ gm_ml 254 by decide +kernel) (Nat.le_of_ble_eq_true rfl) (by omega) (Nat.zero_le _) (Nat.zero_le _) ?_
    refine re_let hE (tr_fr (W := [(226, some 29), (226, some 30), (226, some 26), (226, some 17), (226, some 18), (226, some 19), (226, some 20), (226, some 21), (226, some 22), (226, some 23), (235, none), (233, none), (236, none), (237, none), (238, none)]) hT (fr_t fr_0 hf (by decide)) (by decide)) hN ?_
    show gm_Wp X LX d _ _ 332 7 _ [gm_vi (N 4), gm_vi (k : Int)] n K _ _ Q
    refine fw_ict (cc := .ge) (pc := 7) (off := 20) (by decide +kernel) (by decide) ⟨by omega, by omega⟩ ⟨by omega, by omega⟩ (show (N 4) ≤ (k : Int) by omega) ?_
    exact gm_r_void (pc := 27) (by decide +kernel) (by decide +kernel) (hq M1 hf hI1 ((fr_j hf (by decide)).trans h0) (fun l l0 l1 => hv l l0 (by omega)))
  | succ u ih =>
    intro k M1 hk hf hI1 hv
    refine gm_sz (gm_p_load (pc := 2) (i := .iload_n 1) (sr := 0) (j := 1) (by decide +kernel) rfl rfl rfl) ?_
    refine gm_sz (gm_p_load (pc := 3) (i := .aload_n 0) (sr := 2) (j := 0) (by decide +kernel) rfl rfl rfl) ?_
    refine gm_c_virt (k := 226) (ci := 11) (mj := 254) (ix := 100) (pc := 4) (as := []) (st := [gm_vi (k : Int)]) (d' := d - 1) (bc' := 0) (bs' := 0) (by decide +kernel) (by decide +kernel) (by decide +kernel) (by decide +kernel) (e0k hE (k := 226) (c := 11) (by decide +kernel)).1 (e0k hE (k := 226) (c := 11) (by decide +kernel)).2 (by decide) (by decide +kernel) (show 0 = gm_na 254 by decide +kernel) fw_c0 (show 1 ≤ gm_ml 254 by decide +kernel) (Nat.le_of_ble_eq_true rfl) (by omega) (Nat.zero_le _) (Nat.zero_le _) ?_
    refine re_let hE (tr_fr (W := [(226, some 29), (226, some 30), (226, some 26), (226, some 17), (226, some 18), (226, some 19), (226, some 20), (226, some 21), (226, some 22), (226, some 23), (235, none), (233, none), (236, none), (237, none), (238, none)]) hT (fr_t fr_0 hf (by decide)) (by decide)) hN ?_
    show gm_Wp X LX d _ _ 332 7 _ [gm_vi (N 4), gm_vi (k : Int)] n K _ _ Q
    refine fw_icf (cc := .ge) (pc := 7) (off := 20) (by decide +kernel) (by decide) ⟨by omega, by omega⟩ ⟨by omega, by omega⟩ (show ¬ (N 4) ≤ (k : Int) by omega) ?_
    refine gm_sz (gm_p_load (pc := 10) (i := .aload_n 0) (sr := 2) (j := 0) (by decide +kernel) rfl rfl rfl) ?_
    refine gm_sz (fw_gr (pc := 11) (ix := 51) (ci := 11) (j := 31) (r := 238) (by decide +kernel) (e0k hE (k := 226) (c := 11) (by decide +kernel)) (by decide +kernel) (by decide +kernel) (e0r hE (k := 226) (j := 31) (r := 238) (by decide +kernel))) ?_
    refine gm_sz (gm_p_load (pc := 14) (i := .iload_n 1) (sr := 0) (j := 1) (by decide +kernel) rfl rfl rfl) ?_
    refine gm_sz (gm_p_load (pc := 15) (i := .aload_n 0) (sr := 2) (j := 0) (by decide +kernel) rfl rfl rfl) ?_
    refine gm_sz (gm_p_load (pc := 16) (i := .iload_n 1) (sr := 0) (j := 1) (by decide +kernel) rfl rfl rfl) ?_
    refine gm_c_virt (k := 226) (ci := 11) (mj := 304) (ix := 387) (pc := 17) (as := [gm_vi (k : Int)]) (st := [gm_vi (k : Int), gm_vr 238]) (d' := d - 1) (bc' := 0) (bs' := 0) (by decide +kernel) (by decide +kernel) (by decide +kernel) (by decide +kernel) (e0k hE (k := 226) (c := 11) (by decide +kernel)).1 (e0k hE (k := 226) (c := 11) (by decide +kernel)).2 (by decide) (by decide +kernel) (show 1 = gm_na 304 by decide +kernel) (fw_c1 fw_si) (show 2 ≤ gm_ml 304 by decide +kernel) (Nat.le_of_ble_eq_true rfl) (by omega) (Nat.zero_le _) (Nat.zero_le _) ?_
    refine re_c304 (l := (k : Int)) (by omega) hE (tr_fr (W := [(226, some 29), (226, some 30), (226, some 26), (226, some 17), (226, some 18), (226, some 19), (226, some 20), (226, some 21), (226, some 22), (226, some 23), (235, none), (233, none), (236, none), (237, none), (238, none)]) hT (fr_t fr_0 hf (by decide)) (by decide)) hN hfw hI1 ⟨by omega, by omega⟩ (fun M21 hf21 hI21 hr21 => ?_)
    show gm_Wp X LX d _ _ 332 20 _ [gm_vi (M21 226 29), gm_vi (k : Int), gm_vr 238] n K _ _ Q
    obtain ⟨-, -, -, r3, -⟩ := rL (k : Int) (by omega) (by omega)
    have ho9 := hoo (k : Int) (by omega) (by omega)
    obtain ⟨e29, e37⟩ := rrun_o hr21 r3.1 ho9
    have ob := OUTR_b ho9 r3.1
    refine gm_sz (fw_is (pc := 20) (k := 238) (len := 24) (e0 := (k : Int)) (x := M21 226 29) (M' := gm_uM M21 238 (k : Int) (M21 226 29)) (by decide +kernel) (e0a hE (k := 238) (q := (0, 24)) (by decide +kernel)).1 (e0a hE (k := 238) (q := (0, 24)) (by decide +kernel)).2 (by decide) ⟨by omega, by omega⟩ rfl) ?_
    refine gm_sz (gm_p_iinc (pc := 21) (j := 1) (z := 1) (by decide +kernel) rfl) ?_
    refine gm_sz (gm_p_goto (pc := 24) (off := (-22)) (by decide +kernel) (by decide)) ?_
    have hv9 : ∀ l, 0 ≤ l → l < ((k + 1 : Nat) : Int) → (gm_uM M21 238 (k : Int) (M21 226 29)) 238 l = o l := fun l l0 l1 => by
      by_cases e : l = (k : Int)
      · subst e
        exact uM_at.trans e29
      · exact (uM_ne (fun h => e h.2)).trans ((fr_c hf21 (by decide)).trans (hv l l0 (by omega)))
    have h9 := ih (k + 1) (gm_uM M21 238 (k : Int) (M21 226 29)) (by omega) (fr_p (fr_t (fr_t fr_0 hf (by decide)) hf21 (by decide)) (Or.inl (by decide))) (hfw.2.1 [(238, none)] _ _ (by decide) (fr_p fr_0 (Or.inl (by decide))) hI21) hv9
    rw [show ((k + 1 : Nat) : Int) = (k : Int) + 1 by omega] at h9
    exact h9
theorem oa_332 (hd : 20 ≤ d) (hE : E0 n K R) (hT : TR N h M) (hN : NR N) (hfw : FLR X LX n K R N h FI φ) (hI : FI M) (hoo : ∀ l, 0 ≤ l → l < N 4 → OUTR N h φ l (o l) (dd l)) (h0 : M 226 0 = 0) (hq : ∀ M2, fr [(226, some 29), (226, some 30), (226, some 26), (226, some 17), (226, some 18), (226, some 19), (226, some 20), (226, some 21), (226, some 22), (226, some 23), (235, none), (233, none), (236, none), (237, none), (238, none)] M M2 → FI M2 → M2 226 0 = 0 → (∀ l, 0 ≤ l → l < N 4 → M2 238 l = o l) → Q (.inl none) n K R M2) : gm_Wp X LX d bc bs 332 0 (gm_ent 332 [gm_vr 226]) [] n K R M Q := by
  obtain ⟨⟨⟨a0, b0⟩, ⟨a1, b1⟩, ⟨a10, b10⟩, ⟨a11, b11⟩, ⟨a12, b12⟩, a9, b9⟩, ⟨⟨a2, b2⟩, ⟨a5, b5⟩, ⟨a3, b3⟩, ⟨a4, b4⟩, ⟨a6, b6⟩, ⟨a14, b14⟩, ⟨a7, b7⟩, a13, b13⟩, rF, rP, rL⟩ := id hN
  refine gm_sz (gm_p_const (pc := 0) (i := .iconst 0) (v := gm_vi 0) (by decide +kernel) (by decide +kernel)) ?_
  refine gm_sz (gm_p_stor (pc := 1) (i := .istore_n 1) (sr := 0) (j := 1) (by decide +kernel) rfl (show 2 ≤ _ from Nat.le_of_ble_eq_true rfl) rfl) ?_
  exact oa_l hd hE hT hN hfw hI hoo h0 hq (N 4).toNat 0 M (by omega) fr_0 hI (fun l l0 l1 => by omega)
theorem on_r (hd : 4 ≤ d) (hE : E0 n K R) (hT : TR N h M) (hN : NR N) (ho : ∀ l, 0 ≤ l → l < N 4 → M 238 l = o l) (hob : ∀ l, 0 ≤ l → l < N 4 → -1 ≤ o l ∧ o l ≤ 299) (hi : gm_ir y) (hi2 : gm_ir x) (hi3 : gm_ir c) (hq : Q (.inl (some (gm_vi (cnt (fun l => o l = y ∧ (x < 0 ∨ (N (119 + (l * 7 + 2))) = x) ∧ (¬ c = 0 ∨ ¬ (N (119 + (l * 7 + 0))) = -1)) (N 4).toNat)))) n K R M) : ∀ (u k : Nat), (k : Int) + (u : Int) = N 4 → gm_Wp X LX d bc bs 333 6 [some (gm_vr 226), some (gm_vi y), some (gm_vi x), some (gm_vi c), some (gm_vi (cnt (fun l => o l = y ∧ (x < 0 ∨ (N (119 + (l * 7 + 2))) = x) ∧ (¬ c = 0 ∨ ¬ (N (119 + (l * 7 + 0))) = -1)) k)), some (gm_vi (k : Int))] [] n K R M Q := by
  obtain ⟨⟨⟨a0, b0⟩, ⟨a1, b1⟩, ⟨a10, b10⟩, ⟨a11, b11⟩, ⟨a12, b12⟩, a9, b9⟩, ⟨⟨a2, b2⟩, ⟨a5, b5⟩, ⟨a3, b3⟩, ⟨a4, b4⟩, ⟨a6, b6⟩, ⟨a14, b14⟩, ⟨a7, b7⟩, a13, b13⟩, rF, rP, rL⟩ := id hN
  intro u
  induction u with
  | zero =>
    intro k hk
    have ek : k = (N 4).toNat := by omega
    have hb9 := cnt_b (p := (fun l => o l = y ∧ (x < 0 ∨ (N (119 + (l * 7 + 2))) = x) ∧ (¬ c = 0 ∨ ¬ (N (119 + (l * 7 + 0))) = -1))) k
    refine gm_sz (gm_p_load (pc := 6) (i := .iload 5) (sr := 0) (j := 5) (by decide +kernel) rfl rfl rfl) ?_
    refine gm_sz (gm_p_load (pc := 8) (i := .aload_n 0) (sr := 2) (j := 0) (by decide +kernel) rfl rfl rfl) ?_
    refine gm_c_virt (k := 226) (ci := 11) (mj := 254) (ix := 100) (pc := 9) (as := []) (st := [gm_vi (k : Int)]) (d' := d - 1) (bc' := 0) (bs' := 0) (by decide +kernel) (by decide +kernel) (by decide +kernel) (by decide +kernel) (e0k hE (k := 226) (c := 11) (by decide +kernel)).1 (e0k hE (k := 226) (c := 11) (by decide +kernel)).2 (by decide) (by decide +kernel) (show 0 = gm_na 254 by decide +kernel) fw_c0 (show 1 ≤ gm_ml 254 by decide +kernel) (Nat.le_of_ble_eq_true rfl) (by omega) (Nat.zero_le _) (Nat.zero_le _) ?_
    refine re_let hE hT hN ?_
    show gm_Wp X LX d _ _ 333 12 _ [gm_vi (N 4), gm_vi (k : Int)] n K _ _ Q
    refine fw_ict (cc := .ge) (pc := 12) (off := 58) (by decide +kernel) (by decide) ⟨by omega, by omega⟩ ⟨by omega, by omega⟩ (show (N 4) ≤ (k : Int) by omega) ?_
    refine gm_sz (gm_p_load (pc := 70) (i := .iload 4) (sr := 0) (j := 4) (by decide +kernel) rfl rfl rfl) ?_
    have h9 : Q (.inl (some (gm_vi (cnt (fun l => o l = y ∧ (x < 0 ∨ (N (119 + (l * 7 + 2))) = x) ∧ (¬ c = 0 ∨ ¬ (N (119 + (l * 7 + 0))) = -1)) k)))) n K R M := by rw [ek]; exact hq
    exact gm_r_int (pc := 72) (by decide +kernel) (Or.inl (by decide +kernel)) h9
  | succ u ih =>
    intro k hk
    have hb9 := cnt_b (p := (fun l => o l = y ∧ (x < 0 ∨ (N (119 + (l * 7 + 2))) = x) ∧ (¬ c = 0 ∨ ¬ (N (119 + (l * 7 + 0))) = -1))) k
    have ob9 := hob (k : Int) (by omega) (by omega)
    obtain ⟨r0, -, r2, -⟩ := rL (k : Int) (by omega) (by omega)
    have r0 : -1 ≤ N (119 + ((k : Int) * 7 + 0)) ∧ N (119 + ((k : Int) * 7 + 0)) < N 3 := r0
    have r2 : 0 ≤ N (119 + ((k : Int) * 7 + 2)) ∧ N (119 + ((k : Int) * 7 + 2)) < N 0 := r2
    have rk9 : (if (N (119 + ((k : Int) * 7 + 0))) = -1 then (1 : Int) else 0) = 1 ∧ (N (119 + ((k : Int) * 7 + 0))) = -1 ∨ (if (N (119 + ((k : Int) * 7 + 0))) = -1 then (1 : Int) else 0) = 0 ∧ ¬ (N (119 + ((k : Int) * 7 + 0))) = -1 := by
      by_cases hh : (N (119 + ((k : Int) * 7 + 0))) = -1
      · exact Or.inl ⟨if_pos hh, hh⟩
      · exact Or.inr ⟨if_neg hh, hh⟩
    refine gm_sz (gm_p_load (pc := 6) (i := .iload 5) (sr := 0) (j := 5) (by decide +kernel) rfl rfl rfl) ?_
    refine gm_sz (gm_p_load (pc := 8) (i := .aload_n 0) (sr := 2) (j := 0) (by decide +kernel) rfl rfl rfl) ?_
    refine gm_c_virt (k := 226) (ci := 11) (mj := 254) (ix := 100) (pc := 9) (as := []) (st := [gm_vi (k : Int)]) (d' := d - 1) (bc' := 0) (bs' := 0) (by decide +kernel) (by decide +kernel) (by decide +kernel) (by decide +kernel) (e0k hE (k := 226) (c := 11) (by decide +kernel)).1 (e0k hE (k := 226) (c := 11) (by decide +kernel)).2 (by decide) (by decide +kernel) (show 0 = gm_na 254 by decide +kernel) fw_c0 (show 1 ≤ gm_ml 254 by decide +kernel) (Nat.le_of_ble_eq_true rfl) (by omega) (Nat.zero_le _) (Nat.zero_le _) ?_
    refine re_let hE hT hN ?_
    show gm_Wp X LX d _ _ 333 12 _ [gm_vi (N 4), gm_vi (k : Int)] n K _ _ Q
    refine fw_icf (cc := .ge) (pc := 12) (off := 58) (by decide +kernel) (by decide) ⟨by omega, by omega⟩ ⟨by omega, by omega⟩ (show ¬ (N 4) ≤ (k : Int) by omega) ?_
    refine gm_sz (gm_p_load (pc := 15) (i := .iload 4) (sr := 0) (j := 4) (by decide +kernel) rfl rfl rfl) ?_
    refine gm_sz (gm_p_load (pc := 17) (i := .aload_n 0) (sr := 2) (j := 0) (by decide +kernel) rfl rfl rfl) ?_
    refine gm_sz (fw_gr (pc := 18) (ix := 51) (ci := 11) (j := 31) (r := 238) (by decide +kernel) (e0k hE (k := 226) (c := 11) (by decide +kernel)) (by decide +kernel) (by decide +kernel) (e0r hE (k := 226) (j := 31) (r := 238) (by decide +kernel))) ?_
    refine gm_sz (gm_p_load (pc := 21) (i := .iload 5) (sr := 0) (j := 5) (by decide +kernel) rfl rfl rfl) ?_
    refine gm_sz (fw_ia (pc := 23) (k := 238) (len := 24) (e0 := (k : Int)) (x := o (k : Int)) (by decide +kernel) (e0a hE (k := 238) (q := (0, 24)) (by decide +kernel)).1 (e0a hE (k := 238) (q := (0, 24)) (by decide +kernel)).2 (by decide) ⟨by omega, by omega⟩ (ho (k : Int) (by omega) (by omega))) ?_
    refine gm_sz (gm_p_load (pc := 24) (i := .iload_n 1) (sr := 0) (j := 1) (by decide +kernel) rfl rfl rfl) ?_
    refine fw_ic (cc := .ne) (pc := 25) (off := 35) (by decide +kernel) (by decide) ⟨by omega, by omega⟩ hi (fun h25 => ?_) (fun h25 => ?_)
    · have h25 : ¬ (o (k : Int)) = y := h25
      refine gm_sz (gm_p_const (pc := 60) (i := .iconst 0) (v := gm_vi 0) (by decide +kernel) (by decide +kernel)) ?_
      refine gm_sz (gm_p_bin (pc := 61) (i := .iadd) (f := fun x y => x + y) (by decide +kernel) rfl) ?_
      refine gm_sz (gm_p_stor (pc := 62) (i := .istore 4) (sr := 0) (j := 4) (by decide +kernel) rfl (show 5 ≤ _ from Nat.le_of_ble_eq_true rfl) rfl) ?_
      refine gm_sz (gm_p_iinc (pc := 64) (j := 5) (z := 1) (by decide +kernel) rfl) ?_
      refine gm_sz (gm_p_goto (pc := 67) (off := (-61)) (by decide +kernel) (by decide)) ?_
      rw [Int.add_zero]
      have e8 : ((k + 1 : Nat) : Int) = (k : Int) + 1 := by omega
      have e9 : cnt (fun l => o l = y ∧ (x < 0 ∨ (N (119 + (l * 7 + 2))) = x) ∧ (¬ c = 0 ∨ ¬ (N (119 + (l * 7 + 0))) = -1)) (k + 1) = cnt (fun l => o l = y ∧ (x < 0 ∨ (N (119 + (l * 7 + 2))) = x) ∧ (¬ c = 0 ∨ ¬ (N (119 + (l * 7 + 0))) = -1)) k := cnt_f (p := (fun l => o l = y ∧ (x < 0 ∨ (N (119 + (l * 7 + 2))) = x) ∧ (¬ c = 0 ∨ ¬ (N (119 + (l * 7 + 0))) = -1))) (show ¬ (o (k : Int) = y ∧ (x < 0 ∨ (N (119 + ((k : Int) * 7 + 2))) = x) ∧ (¬ c = 0 ∨ ¬ (N (119 + ((k : Int) * 7 + 0))) = -1)) from by omega)
      have h9 := ih (k + 1) (by omega)
      rw [e9, e8] at h9
      exact h9
    · have h25 : (o (k : Int)) = y := Classical.not_not.mp h25
      refine gm_sz (gm_p_load (pc := 28) (i := .iload_n 2) (sr := 0) (j := 2) (by decide +kernel) rfl rfl rfl) ?_
      refine fw_if (cc := .lt) (pc := 29) (off := 14) (by decide +kernel) (by decide) hi2 (fun h29 => ?_) (fun h29 => ?_)
      · have h29 : x < 0 := h29
        refine gm_sz (gm_p_load (pc := 43) (i := .iload_n 3) (sr := 0) (j := 3) (by decide +kernel) rfl rfl rfl) ?_
        refine fw_if (cc := .ne) (pc := 44) (off := 12) (by decide +kernel) (by decide) hi3 (fun h44 => ?_) (fun h44 => ?_)
        · have h44 : ¬ c = 0 := h44
          refine gm_sz (gm_p_const (pc := 56) (i := .iconst 1) (v := gm_vi 1) (by decide +kernel) (by decide +kernel)) ?_
          refine gm_sz (gm_p_goto (pc := 57) (off := 4) (by decide +kernel) (by decide)) ?_
          refine gm_sz (gm_p_bin (pc := 61) (i := .iadd) (f := fun x y => x + y) (by decide +kernel) rfl) ?_
          refine gm_sz (gm_p_stor (pc := 62) (i := .istore 4) (sr := 0) (j := 4) (by decide +kernel) rfl (show 5 ≤ _ from Nat.le_of_ble_eq_true rfl) rfl) ?_
          refine gm_sz (gm_p_iinc (pc := 64) (j := 5) (z := 1) (by decide +kernel) rfl) ?_
          refine gm_sz (gm_p_goto (pc := 67) (off := (-61)) (by decide +kernel) (by decide)) ?_
          have e8 : ((k + 1 : Nat) : Int) = (k : Int) + 1 := by omega
          have e9 : cnt (fun l => o l = y ∧ (x < 0 ∨ (N (119 + (l * 7 + 2))) = x) ∧ (¬ c = 0 ∨ ¬ (N (119 + (l * 7 + 0))) = -1)) (k + 1) = (cnt (fun l => o l = y ∧ (x < 0 ∨ (N (119 + (l * 7 + 2))) = x) ∧ (¬ c = 0 ∨ ¬ (N (119 + (l * 7 + 0))) = -1)) k) + 1 := cnt_t (p := (fun l => o l = y ∧ (x < 0 ∨ (N (119 + (l * 7 + 2))) = x) ∧ (¬ c = 0 ∨ ¬ (N (119 + (l * 7 + 0))) = -1))) (show o (k : Int) = y ∧ (x < 0 ∨ (N (119 + ((k : Int) * 7 + 2))) = x) ∧ (¬ c = 0 ∨ ¬ (N (119 + ((k : Int) * 7 + 0))) = -1) from by omega)
          have h9 := ih (k + 1) (by omega)
          rw [e9, e8] at h9
          exact h9
        · have h44 : c = 0 := Classical.not_not.mp h44
          refine gm_sz (gm_p_load (pc := 47) (i := .aload_n 0) (sr := 2) (j := 0) (by decide +kernel) rfl rfl rfl) ?_
          refine gm_sz (gm_p_load (pc := 48) (i := .iload 5) (sr := 0) (j := 5) (by decide +kernel) rfl rfl rfl) ?_
          refine gm_c_virt (k := 226) (ci := 11) (mj := 303) (ix := 374) (pc := 50) (as := [gm_vi (k : Int)]) (st := [gm_vi (cnt (fun l => o l = y ∧ (x < 0 ∨ (N (119 + (l * 7 + 2))) = x) ∧ (¬ c = 0 ∨ ¬ (N (119 + (l * 7 + 0))) = -1)) k)]) (d' := d - 1) (bc' := 0) (bs' := 0) (by decide +kernel) (by decide +kernel) (by decide +kernel) (by decide +kernel) (e0k hE (k := 226) (c := 11) (by decide +kernel)).1 (e0k hE (k := 226) (c := 11) (by decide +kernel)).2 (by decide) (by decide +kernel) (show 1 = gm_na 303 by decide +kernel) (fw_c1 fw_si) (show 2 ≤ gm_ml 303 by decide +kernel) (Nat.le_of_ble_eq_true rfl) (by omega) (Nat.zero_le _) (Nat.zero_le _) ?_
          refine re_rk (by omega) hE hT hN ⟨by omega, by omega⟩ ?_
          show gm_Wp X LX d _ _ 333 53 _ [gm_vi (if (N (119 + ((k : Int) * 7 + 0))) = -1 then (1 : Int) else 0), gm_vi (cnt (fun l => o l = y ∧ (x < 0 ∨ (N (119 + (l * 7 + 2))) = x) ∧ (¬ c = 0 ∨ ¬ (N (119 + (l * 7 + 0))) = -1)) k)] n K _ _ Q
          refine fw_if (cc := .ne) (pc := 53) (off := 7) (by decide +kernel) (by decide) ⟨by omega, by omega⟩ (fun h53 => ?_) (fun h53 => ?_)
          · have h53 : ¬ (if (N (119 + ((k : Int) * 7 + 0))) = -1 then (1 : Int) else 0) = 0 := h53
            refine gm_sz (gm_p_const (pc := 60) (i := .iconst 0) (v := gm_vi 0) (by decide +kernel) (by decide +kernel)) ?_
            refine gm_sz (gm_p_bin (pc := 61) (i := .iadd) (f := fun x y => x + y) (by decide +kernel) rfl) ?_
            refine gm_sz (gm_p_stor (pc := 62) (i := .istore 4) (sr := 0) (j := 4) (by decide +kernel) rfl (show 5 ≤ _ from Nat.le_of_ble_eq_true rfl) rfl) ?_
            refine gm_sz (gm_p_iinc (pc := 64) (j := 5) (z := 1) (by decide +kernel) rfl) ?_
            refine gm_sz (gm_p_goto (pc := 67) (off := (-61)) (by decide +kernel) (by decide)) ?_
            rw [Int.add_zero]
            have e8 : ((k + 1 : Nat) : Int) = (k : Int) + 1 := by omega
            have e9 : cnt (fun l => o l = y ∧ (x < 0 ∨ (N (119 + (l * 7 + 2))) = x) ∧ (¬ c = 0 ∨ ¬ (N (119 + (l * 7 + 0))) = -1)) (k + 1) = cnt (fun l => o l = y ∧ (x < 0 ∨ (N (119 + (l * 7 + 2))) = x) ∧ (¬ c = 0 ∨ ¬ (N (119 + (l * 7 + 0))) = -1)) k := cnt_f (p := (fun l => o l = y ∧ (x < 0 ∨ (N (119 + (l * 7 + 2))) = x) ∧ (¬ c = 0 ∨ ¬ (N (119 + (l * 7 + 0))) = -1))) (show ¬ (o (k : Int) = y ∧ (x < 0 ∨ (N (119 + ((k : Int) * 7 + 2))) = x) ∧ (¬ c = 0 ∨ ¬ (N (119 + ((k : Int) * 7 + 0))) = -1)) from by omega)
            have h9 := ih (k + 1) (by omega)
            rw [e9, e8] at h9
            exact h9
          · have h53 : (if (N (119 + ((k : Int) * 7 + 0))) = -1 then (1 : Int) else 0) = 0 := Classical.not_not.mp h53
            refine gm_sz (gm_p_const (pc := 56) (i := .iconst 1) (v := gm_vi 1) (by decide +kernel) (by decide +kernel)) ?_
            refine gm_sz (gm_p_goto (pc := 57) (off := 4) (by decide +kernel) (by decide)) ?_
            refine gm_sz (gm_p_bin (pc := 61) (i := .iadd) (f := fun x y => x + y) (by decide +kernel) rfl) ?_
            refine gm_sz (gm_p_stor (pc := 62) (i := .istore 4) (sr := 0) (j := 4) (by decide +kernel) rfl (show 5 ≤ _ from Nat.le_of_ble_eq_true rfl) rfl) ?_
            refine gm_sz (gm_p_iinc (pc := 64) (j := 5) (z := 1) (by decide +kernel) rfl) ?_
            refine gm_sz (gm_p_goto (pc := 67) (off := (-61)) (by decide +kernel) (by decide)) ?_
            have e8 : ((k + 1 : Nat) : Int) = (k : Int) + 1 := by omega
            have e9 : cnt (fun l => o l = y ∧ (x < 0 ∨ (N (119 + (l * 7 + 2))) = x) ∧ (¬ c = 0 ∨ ¬ (N (119 + (l * 7 + 0))) = -1)) (k + 1) = (cnt (fun l => o l = y ∧ (x < 0 ∨ (N (119 + (l * 7 + 2))) = x) ∧ (¬ c = 0 ∨ ¬ (N (119 + (l * 7 + 0))) = -1)) k) + 1 := cnt_t (p := (fun l => o l = y ∧ (x < 0 ∨ (N (119 + (l * 7 + 2))) = x) ∧ (¬ c = 0 ∨ ¬ (N (119 + (l * 7 + 0))) = -1))) (show o (k : Int) = y ∧ (x < 0 ∨ (N (119 + ((k : Int) * 7 + 2))) = x) ∧ (¬ c = 0 ∨ ¬ (N (119 + ((k : Int) * 7 + 0))) = -1) from by omega)
            have h9 := ih (k + 1) (by omega)
            rw [e9, e8] at h9
            exact h9
      · have h29 : ¬ x < 0 := h29
        refine gm_sz (gm_p_load (pc := 32) (i := .aload_n 0) (sr := 2) (j := 0) (by decide +kernel) rfl rfl rfl) ?_
        refine gm_sz (gm_p_load (pc := 33) (i := .iload 5) (sr := 0) (j := 5) (by decide +kernel) rfl rfl rfl) ?_
        refine gm_sz (gm_p_const (pc := 35) (i := .iconst 2) (v := gm_vi 2) (by decide +kernel) (by decide +kernel)) ?_
        refine gm_c_virt (k := 226) (ci := 11) (mj := 301) (ix := 82) (pc := 36) (as := [gm_vi (k : Int), gm_vi 2]) (st := [gm_vi (cnt (fun l => o l = y ∧ (x < 0 ∨ (N (119 + (l * 7 + 2))) = x) ∧ (¬ c = 0 ∨ ¬ (N (119 + (l * 7 + 0))) = -1)) k)]) (d' := d - 1) (bc' := 0) (bs' := 0) (by decide +kernel) (by decide +kernel) (by decide +kernel) (by decide +kernel) (e0k hE (k := 226) (c := 11) (by decide +kernel)).1 (e0k hE (k := 226) (c := 11) (by decide +kernel)).2 (by decide) (by decide +kernel) (show 2 = gm_na 301 by decide +kernel) (fw_c2 fw_si fw_si) (show 3 ≤ gm_ml 301 by decide +kernel) (Nat.le_of_ble_eq_true rfl) (by omega) (Nat.zero_le _) (Nat.zero_le _) ?_
        refine re_ol hE hT hN ⟨by omega, by omega⟩ ⟨by omega, by omega⟩ ?_
        show gm_Wp X LX d _ _ 333 39 _ [gm_vi (N (119 + ((k : Int) * 7 + 2))), gm_vi (cnt (fun l => o l = y ∧ (x < 0 ∨ (N (119 + (l * 7 + 2))) = x) ∧ (¬ c = 0 ∨ ¬ (N (119 + (l * 7 + 0))) = -1)) k)] n K _ _ Q
        refine gm_sz (gm_p_load (pc := 39) (i := .iload_n 2) (sr := 0) (j := 2) (by decide +kernel) rfl rfl rfl) ?_
        refine fw_ic (cc := .ne) (pc := 40) (off := 20) (by decide +kernel) (by decide) ⟨by omega, by omega⟩ hi2 (fun h40 => ?_) (fun h40 => ?_)
        · have h40 : ¬ (N (119 + ((k : Int) * 7 + 2))) = x := h40
          refine gm_sz (gm_p_const (pc := 60) (i := .iconst 0) (v := gm_vi 0) (by decide +kernel) (by decide +kernel)) ?_
          refine gm_sz (gm_p_bin (pc := 61) (i := .iadd) (f := fun x y => x + y) (by decide +kernel) rfl) ?_
          refine gm_sz (gm_p_stor (pc := 62) (i := .istore 4) (sr := 0) (j := 4) (by decide +kernel) rfl (show 5 ≤ _ from Nat.le_of_ble_eq_true rfl) rfl) ?_
          refine gm_sz (gm_p_iinc (pc := 64) (j := 5) (z := 1) (by decide +kernel) rfl) ?_
          refine gm_sz (gm_p_goto (pc := 67) (off := (-61)) (by decide +kernel) (by decide)) ?_
          rw [Int.add_zero]
          have e8 : ((k + 1 : Nat) : Int) = (k : Int) + 1 := by omega
          have e9 : cnt (fun l => o l = y ∧ (x < 0 ∨ (N (119 + (l * 7 + 2))) = x) ∧ (¬ c = 0 ∨ ¬ (N (119 + (l * 7 + 0))) = -1)) (k + 1) = cnt (fun l => o l = y ∧ (x < 0 ∨ (N (119 + (l * 7 + 2))) = x) ∧ (¬ c = 0 ∨ ¬ (N (119 + (l * 7 + 0))) = -1)) k := cnt_f (p := (fun l => o l = y ∧ (x < 0 ∨ (N (119 + (l * 7 + 2))) = x) ∧ (¬ c = 0 ∨ ¬ (N (119 + (l * 7 + 0))) = -1))) (show ¬ (o (k : Int) = y ∧ (x < 0 ∨ (N (119 + ((k : Int) * 7 + 2))) = x) ∧ (¬ c = 0 ∨ ¬ (N (119 + ((k : Int) * 7 + 0))) = -1)) from by omega)
          have h9 := ih (k + 1) (by omega)
          rw [e9, e8] at h9
          exact h9
        · have h40 : (N (119 + ((k : Int) * 7 + 2))) = x := Classical.not_not.mp h40
          refine gm_sz (gm_p_load (pc := 43) (i := .iload_n 3) (sr := 0) (j := 3) (by decide +kernel) rfl rfl rfl) ?_
          refine fw_if (cc := .ne) (pc := 44) (off := 12) (by decide +kernel) (by decide) hi3 (fun h44 => ?_) (fun h44 => ?_)
          · have h44 : ¬ c = 0 := h44
            refine gm_sz (gm_p_const (pc := 56) (i := .iconst 1) (v := gm_vi 1) (by decide +kernel) (by decide +kernel)) ?_
            refine gm_sz (gm_p_goto (pc := 57) (off := 4) (by decide +kernel) (by decide)) ?_
            refine gm_sz (gm_p_bin (pc := 61) (i := .iadd) (f := fun x y => x + y) (by decide +kernel) rfl) ?_
            refine gm_sz (gm_p_stor (pc := 62) (i := .istore 4) (sr := 0) (j := 4) (by decide +kernel) rfl (show 5 ≤ _ from Nat.le_of_ble_eq_true rfl) rfl) ?_
            refine gm_sz (gm_p_iinc (pc := 64) (j := 5) (z := 1) (by decide +kernel) rfl) ?_
            refine gm_sz (gm_p_goto (pc := 67) (off := (-61)) (by decide +kernel) (by decide)) ?_
            have e8 : ((k + 1 : Nat) : Int) = (k : Int) + 1 := by omega
            have e9 : cnt (fun l => o l = y ∧ (x < 0 ∨ (N (119 + (l * 7 + 2))) = x) ∧ (¬ c = 0 ∨ ¬ (N (119 + (l * 7 + 0))) = -1)) (k + 1) = (cnt (fun l => o l = y ∧ (x < 0 ∨ (N (119 + (l * 7 + 2))) = x) ∧ (¬ c = 0 ∨ ¬ (N (119 + (l * 7 + 0))) = -1)) k) + 1 := cnt_t (p := (fun l => o l = y ∧ (x < 0 ∨ (N (119 + (l * 7 + 2))) = x) ∧ (¬ c = 0 ∨ ¬ (N (119 + (l * 7 + 0))) = -1))) (show o (k : Int) = y ∧ (x < 0 ∨ (N (119 + ((k : Int) * 7 + 2))) = x) ∧ (¬ c = 0 ∨ ¬ (N (119 + ((k : Int) * 7 + 0))) = -1) from by omega)
            have h9 := ih (k + 1) (by omega)
            rw [e9, e8] at h9
            exact h9
          · have h44 : c = 0 := Classical.not_not.mp h44
            refine gm_sz (gm_p_load (pc := 47) (i := .aload_n 0) (sr := 2) (j := 0) (by decide +kernel) rfl rfl rfl) ?_
            refine gm_sz (gm_p_load (pc := 48) (i := .iload 5) (sr := 0) (j := 5) (by decide +kernel) rfl rfl rfl) ?_
            refine gm_c_virt (k := 226) (ci := 11) (mj := 303) (ix := 374) (pc := 50) (as := [gm_vi (k : Int)]) (st := [gm_vi (cnt (fun l => o l = y ∧ (x < 0 ∨ (N (119 + (l * 7 + 2))) = x) ∧ (¬ c = 0 ∨ ¬ (N (119 + (l * 7 + 0))) = -1)) k)]) (d' := d - 1) (bc' := 0) (bs' := 0) (by decide +kernel) (by decide +kernel) (by decide +kernel) (by decide +kernel) (e0k hE (k := 226) (c := 11) (by decide +kernel)).1 (e0k hE (k := 226) (c := 11) (by decide +kernel)).2 (by decide) (by decide +kernel) (show 1 = gm_na 303 by decide +kernel) (fw_c1 fw_si) (show 2 ≤ gm_ml 303 by decide +kernel) (Nat.le_of_ble_eq_true rfl) (by omega) (Nat.zero_le _) (Nat.zero_le _) ?_
            refine re_rk (by omega) hE hT hN ⟨by omega, by omega⟩ ?_
            show gm_Wp X LX d _ _ 333 53 _ [gm_vi (if (N (119 + ((k : Int) * 7 + 0))) = -1 then (1 : Int) else 0), gm_vi (cnt (fun l => o l = y ∧ (x < 0 ∨ (N (119 + (l * 7 + 2))) = x) ∧ (¬ c = 0 ∨ ¬ (N (119 + (l * 7 + 0))) = -1)) k)] n K _ _ Q
            refine fw_if (cc := .ne) (pc := 53) (off := 7) (by decide +kernel) (by decide) ⟨by omega, by omega⟩ (fun h53 => ?_) (fun h53 => ?_)
            · have h53 : ¬ (if (N (119 + ((k : Int) * 7 + 0))) = -1 then (1 : Int) else 0) = 0 := h53
              refine gm_sz (gm_p_const (pc := 60) (i := .iconst 0) (v := gm_vi 0) (by decide +kernel) (by decide +kernel)) ?_
              refine gm_sz (gm_p_bin (pc := 61) (i := .iadd) (f := fun x y => x + y) (by decide +kernel) rfl) ?_
              refine gm_sz (gm_p_stor (pc := 62) (i := .istore 4) (sr := 0) (j := 4) (by decide +kernel) rfl (show 5 ≤ _ from Nat.le_of_ble_eq_true rfl) rfl) ?_
              refine gm_sz (gm_p_iinc (pc := 64) (j := 5) (z := 1) (by decide +kernel) rfl) ?_
              refine gm_sz (gm_p_goto (pc := 67) (off := (-61)) (by decide +kernel) (by decide)) ?_
              rw [Int.add_zero]
              have e8 : ((k + 1 : Nat) : Int) = (k : Int) + 1 := by omega
              have e9 : cnt (fun l => o l = y ∧ (x < 0 ∨ (N (119 + (l * 7 + 2))) = x) ∧ (¬ c = 0 ∨ ¬ (N (119 + (l * 7 + 0))) = -1)) (k + 1) = cnt (fun l => o l = y ∧ (x < 0 ∨ (N (119 + (l * 7 + 2))) = x) ∧ (¬ c = 0 ∨ ¬ (N (119 + (l * 7 + 0))) = -1)) k := cnt_f (p := (fun l => o l = y ∧ (x < 0 ∨ (N (119 + (l * 7 + 2))) = x) ∧ (¬ c = 0 ∨ ¬ (N (119 + (l * 7 + 0))) = -1))) (show ¬ (o (k : Int) = y ∧ (x < 0 ∨ (N (119 + ((k : Int) * 7 + 2))) = x) ∧ (¬ c = 0 ∨ ¬ (N (119 + ((k : Int) * 7 + 0))) = -1)) from by omega)
              have h9 := ih (k + 1) (by omega)
              rw [e9, e8] at h9
              exact h9
            · have h53 : (if (N (119 + ((k : Int) * 7 + 0))) = -1 then (1 : Int) else 0) = 0 := Classical.not_not.mp h53
              refine gm_sz (gm_p_const (pc := 56) (i := .iconst 1) (v := gm_vi 1) (by decide +kernel) (by decide +kernel)) ?_
              refine gm_sz (gm_p_goto (pc := 57) (off := 4) (by decide +kernel) (by decide)) ?_
              refine gm_sz (gm_p_bin (pc := 61) (i := .iadd) (f := fun x y => x + y) (by decide +kernel) rfl) ?_
              refine gm_sz (gm_p_stor (pc := 62) (i := .istore 4) (sr := 0) (j := 4) (by decide +kernel) rfl (show 5 ≤ _ from Nat.le_of_ble_eq_true rfl) rfl) ?_
              refine gm_sz (gm_p_iinc (pc := 64) (j := 5) (z := 1) (by decide +kernel) rfl) ?_
              refine gm_sz (gm_p_goto (pc := 67) (off := (-61)) (by decide +kernel) (by decide)) ?_
              have e8 : ((k + 1 : Nat) : Int) = (k : Int) + 1 := by omega
              have e9 : cnt (fun l => o l = y ∧ (x < 0 ∨ (N (119 + (l * 7 + 2))) = x) ∧ (¬ c = 0 ∨ ¬ (N (119 + (l * 7 + 0))) = -1)) (k + 1) = (cnt (fun l => o l = y ∧ (x < 0 ∨ (N (119 + (l * 7 + 2))) = x) ∧ (¬ c = 0 ∨ ¬ (N (119 + (l * 7 + 0))) = -1)) k) + 1 := cnt_t (p := (fun l => o l = y ∧ (x < 0 ∨ (N (119 + (l * 7 + 2))) = x) ∧ (¬ c = 0 ∨ ¬ (N (119 + (l * 7 + 0))) = -1))) (show o (k : Int) = y ∧ (x < 0 ∨ (N (119 + ((k : Int) * 7 + 2))) = x) ∧ (¬ c = 0 ∨ ¬ (N (119 + ((k : Int) * 7 + 0))) = -1) from by omega)
              have h9 := ih (k + 1) (by omega)
              rw [e9, e8] at h9
              exact h9
theorem wa_c (hd : 6 ≤ d) (hE : E0 n K R) (hT : TI N h sp M) (hN : NR N) (h3 : M 220 3 = N 4) (ho : ∀ l, 0 ≤ l → l < N 4 → M 221 (l * 2 + 0) = o l) (hob : ∀ l, 0 ≤ l → l < N 4 → -1 ≤ o l ∧ o l ≤ 299) (hi : gm_ir c) (hq : Q (.inl (some (gm_vi (cnt (fun l => (c = -1 ∨ (N (119 + (l * 7 + 1))) = c) ∧ (¬ (N (119 + (l * 7 + 0))) = -1 ∧ (N (119 + (l * 7 + 5))) = -1 ∧ ¬ o l = -1 ∧ o l ≤ N 9)) (N 4).toNat)))) n K R M) : ∀ (u k : Nat) (z4 : Option gm_V), (k : Int) + (u : Int) = N 4 → gm_Wp X LX d bc bs 65 8 [some (gm_vr 1), some (gm_vi c), some (gm_vi (cnt (fun l => (c = -1 ∨ (N (119 + (l * 7 + 1))) = c) ∧ (¬ (N (119 + (l * 7 + 0))) = -1 ∧ (N (119 + (l * 7 + 5))) = -1 ∧ ¬ o l = -1 ∧ o l ≤ N 9)) k)), some (gm_vi (k : Int)), z4] [] n K R M Q := by
  obtain ⟨⟨⟨a0, b0⟩, ⟨a1, b1⟩, ⟨a10, b10⟩, ⟨a11, b11⟩, ⟨a12, b12⟩, a9, b9⟩, ⟨⟨a2, b2⟩, ⟨a5, b5⟩, ⟨a3, b3⟩, ⟨a4, b4⟩, ⟨a6, b6⟩, ⟨a14, b14⟩, ⟨a7, b7⟩, a13, b13⟩, rF, rP, rL⟩ := id hN
  intro u
  induction u with
  | zero =>
    intro k z4 hk
    have ek : k = (N 4).toNat := by omega
    have hb9 := cnt_b (p := (fun l => (c = -1 ∨ (N (119 + (l * 7 + 1))) = c) ∧ (¬ (N (119 + (l * 7 + 0))) = -1 ∧ (N (119 + (l * 7 + 5))) = -1 ∧ ¬ o l = -1 ∧ o l ≤ N 9))) k
    refine gm_sz (gm_p_load (pc := 8) (i := .iload_n 3) (sr := 0) (j := 3) (by decide +kernel) rfl rfl rfl) ?_
    refine gm_sz (gm_p_load (pc := 9) (i := .aload_n 0) (sr := 2) (j := 0) (by decide +kernel) rfl rfl rfl) ?_
    refine gm_sz (fw_gr (pc := 10) (ix := 23) (ci := 0) (j := 3) (r := 3) (by decide +kernel) (e0k hE (k := 1) (c := 0) (by decide +kernel)) (by decide +kernel) (by decide +kernel) (e0r hE (k := 1) (j := 3) (r := 3) (by decide +kernel))) ?_
    refine gm_sz (fw_gr (pc := 13) (ix := 203) (ci := 1) (j := 12) (r := 10) (by decide +kernel) (e0k hE (k := 3) (c := 1) (by decide +kernel)) (by decide +kernel) (by decide +kernel) (e0r hE (k := 3) (j := 12) (r := 10) (by decide +kernel))) ?_
    refine gm_c_virt (k := 10) (ci := 2) (mj := 9) (ix := 277) (pc := 16) (as := []) (st := [gm_vi (k : Int)]) (d' := d - 1) (bc' := 0) (bs' := 0) (by decide +kernel) (by decide +kernel) (by decide +kernel) (by decide +kernel) (e0k hE (k := 10) (c := 2) (by decide +kernel)).1 (e0k hE (k := 10) (c := 2) (by decide +kernel)).2 (by decide) (by decide +kernel) (show 0 = gm_na 9 by decide +kernel) fw_c0 (show 1 ≤ gm_ml 9 by decide +kernel) (Nat.le_of_ble_eq_true rfl) (by omega) (Nat.zero_le _) (Nat.zero_le _) ?_
    refine rw_size (s := N 4) (e0k hE (k := 10) (c := 2) (by decide +kernel)) (ti_let hT) ?_
    show gm_Wp X LX d _ _ 65 19 _ [gm_vi (N 4), gm_vi (k : Int)] n K _ _ Q
    refine fw_ict (cc := .ge) (pc := 19) (off := 53) (by decide +kernel) (by decide) ⟨by omega, by omega⟩ ⟨by omega, by omega⟩ (show (N 4) ≤ (k : Int) by omega) ?_
    refine gm_sz (gm_p_load (pc := 72) (i := .iload_n 2) (sr := 0) (j := 2) (by decide +kernel) rfl rfl rfl) ?_
    have h9 : Q (.inl (some (gm_vi (cnt (fun l => (c = -1 ∨ (N (119 + (l * 7 + 1))) = c) ∧ (¬ (N (119 + (l * 7 + 0))) = -1 ∧ (N (119 + (l * 7 + 5))) = -1 ∧ ¬ o l = -1 ∧ o l ≤ N 9)) k)))) n K R M := by rw [ek]; exact hq
    exact gm_r_int (pc := 73) (by decide +kernel) (Or.inl (by decide +kernel)) h9
  | succ u ih =>
    intro k z4 hk
    have hb9 := cnt_b (p := (fun l => (c = -1 ∨ (N (119 + (l * 7 + 1))) = c) ∧ (¬ (N (119 + (l * 7 + 0))) = -1 ∧ (N (119 + (l * 7 + 5))) = -1 ∧ ¬ o l = -1 ∧ o l ≤ N 9))) k
    have ob9 := hob (k : Int) (by omega) (by omega)
    obtain ⟨r0, r1, r2, -, -, r5, -⟩ := rL (k : Int) (by omega) (by omega)
    have r0 : -1 ≤ N (119 + ((k : Int) * 7 + 0)) ∧ N (119 + ((k : Int) * 7 + 0)) < N 3 := r0
    have r1 : -1 ≤ N (119 + ((k : Int) * 7 + 1)) ∧ N (119 + ((k : Int) * 7 + 1)) < N 3 := r1
    have r2 : 0 ≤ N (119 + ((k : Int) * 7 + 2)) ∧ N (119 + ((k : Int) * 7 + 2)) < N 0 := r2
    have r5 : -1 ≤ N (119 + ((k : Int) * 7 + 5)) ∧ N (119 + ((k : Int) * 7 + 5)) < N 3 := r5
    refine gm_sz (gm_p_load (pc := 8) (i := .iload_n 3) (sr := 0) (j := 3) (by decide +kernel) rfl rfl rfl) ?_
    refine gm_sz (gm_p_load (pc := 9) (i := .aload_n 0) (sr := 2) (j := 0) (by decide +kernel) rfl rfl rfl) ?_
    refine gm_sz (fw_gr (pc := 10) (ix := 23) (ci := 0) (j := 3) (r := 3) (by decide +kernel) (e0k hE (k := 1) (c := 0) (by decide +kernel)) (by decide +kernel) (by decide +kernel) (e0r hE (k := 1) (j := 3) (r := 3) (by decide +kernel))) ?_
    refine gm_sz (fw_gr (pc := 13) (ix := 203) (ci := 1) (j := 12) (r := 10) (by decide +kernel) (e0k hE (k := 3) (c := 1) (by decide +kernel)) (by decide +kernel) (by decide +kernel) (e0r hE (k := 3) (j := 12) (r := 10) (by decide +kernel))) ?_
    refine gm_c_virt (k := 10) (ci := 2) (mj := 9) (ix := 277) (pc := 16) (as := []) (st := [gm_vi (k : Int)]) (d' := d - 1) (bc' := 0) (bs' := 0) (by decide +kernel) (by decide +kernel) (by decide +kernel) (by decide +kernel) (e0k hE (k := 10) (c := 2) (by decide +kernel)).1 (e0k hE (k := 10) (c := 2) (by decide +kernel)).2 (by decide) (by decide +kernel) (show 0 = gm_na 9 by decide +kernel) fw_c0 (show 1 ≤ gm_ml 9 by decide +kernel) (Nat.le_of_ble_eq_true rfl) (by omega) (Nat.zero_le _) (Nat.zero_le _) ?_
    refine rw_size (s := N 4) (e0k hE (k := 10) (c := 2) (by decide +kernel)) (ti_let hT) ?_
    show gm_Wp X LX d _ _ 65 19 _ [gm_vi (N 4), gm_vi (k : Int)] n K _ _ Q
    refine fw_icf (cc := .ge) (pc := 19) (off := 53) (by decide +kernel) (by decide) ⟨by omega, by omega⟩ ⟨by omega, by omega⟩ (show ¬ (N 4) ≤ (k : Int) by omega) ?_
    refine gm_sz (gm_p_load (pc := 22) (i := .iload_n 1) (sr := 0) (j := 1) (by decide +kernel) rfl rfl rfl) ?_
    refine gm_sz (gm_p_const (pc := 23) (i := .iconst (-1)) (v := gm_vi (-1)) (by decide +kernel) (by decide +kernel)) ?_
    refine fw_ic (cc := .eq) (pc := 24) (off := 19) (by decide +kernel) (by decide) hi ⟨by decide, by decide⟩ (fun h24 => ?_) (fun h24 => ?_)
    · have h24 : c = (-1) := h24
      refine gm_sz (gm_p_const (pc := 43) (i := .iconst 1) (v := gm_vi 1) (by decide +kernel) (by decide +kernel)) ?_
      refine gm_sz (gm_p_goto (pc := 44) (off := 4) (by decide +kernel) (by decide)) ?_
      refine gm_sz (gm_p_stor (pc := 48) (i := .istore 4) (sr := 0) (j := 4) (by decide +kernel) rfl (show 5 ≤ _ from Nat.le_of_ble_eq_true rfl) rfl) ?_
      refine gm_sz (gm_p_load (pc := 50) (i := .iload 4) (sr := 0) (j := 4) (by decide +kernel) rfl rfl rfl) ?_
      refine fw_iffd (cc := .eq) (pc := 52) (off := 14) (by decide +kernel) (by decide) ⟨by decide, by decide⟩ (by decide) ?_
      refine gm_sz (gm_p_load (pc := 55) (i := .aload_n 0) (sr := 2) (j := 0) (by decide +kernel) rfl rfl rfl) ?_
      refine gm_sz (gm_p_load (pc := 56) (i := .iload_n 3) (sr := 0) (j := 3) (by decide +kernel) rfl rfl rfl) ?_
      refine gm_c_virt (k := 1) (ci := 0) (mj := 66) (ix := 257) (pc := 57) (as := [gm_vi (k : Int)]) (st := []) (d' := d - 1) (bc' := 0) (bs' := 0) (by decide +kernel) (by decide +kernel) (by decide +kernel) (by decide +kernel) (e0k hE (k := 1) (c := 0) (by decide +kernel)).1 (e0k hE (k := 1) (c := 0) (by decide +kernel)).2 (by decide) (by decide +kernel) (show 1 = gm_na 66 by decide +kernel) (fw_c1 fw_si) (show 2 ≤ gm_ml 66 by decide +kernel) (Nat.le_of_ble_eq_true rfl) (by omega) (Nat.zero_le _) (Nat.zero_le _) ?_
      refine wt_c66 (o := o (k : Int)) (by omega) hE hT hN ⟨by omega, by omega⟩ h3 (ho (k : Int) (by omega) (by omega)) (hob (k : Int) (by omega) (by omega)) (fun v57 => ?_) (fun v57 => ?_)
      · show gm_Wp X LX d _ _ 65 60 _ [gm_vi 1] n K _ _ Q
        have v57 : ¬ (N (119 + ((k : Int) * 7 + 0))) = -1 ∧ (N (119 + ((k : Int) * 7 + 5))) = -1 ∧ ¬ o (k : Int) = -1 ∧ o (k : Int) ≤ N 9 := v57
        refine fw_iffd (cc := .eq) (pc := 60) (off := 6) (by decide +kernel) (by decide) ⟨by decide, by decide⟩ (by decide) ?_
        refine gm_sz (gm_p_iinc (pc := 63) (j := 2) (z := 1) (by decide +kernel) rfl) ?_
        refine gm_sz (gm_p_iinc (pc := 66) (j := 3) (z := 1) (by decide +kernel) rfl) ?_
        refine gm_sz (gm_p_goto (pc := 69) (off := (-61)) (by decide +kernel) (by decide)) ?_
        have e8 : ((k + 1 : Nat) : Int) = (k : Int) + 1 := by omega
        have e9 : cnt (fun l => (c = -1 ∨ (N (119 + (l * 7 + 1))) = c) ∧ (¬ (N (119 + (l * 7 + 0))) = -1 ∧ (N (119 + (l * 7 + 5))) = -1 ∧ ¬ o l = -1 ∧ o l ≤ N 9)) (k + 1) = cnt (fun l => (c = -1 ∨ (N (119 + (l * 7 + 1))) = c) ∧ (¬ (N (119 + (l * 7 + 0))) = -1 ∧ (N (119 + (l * 7 + 5))) = -1 ∧ ¬ o l = -1 ∧ o l ≤ N 9)) k + 1 := cnt_t (p := (fun l => (c = -1 ∨ (N (119 + (l * 7 + 1))) = c) ∧ (¬ (N (119 + (l * 7 + 0))) = -1 ∧ (N (119 + (l * 7 + 5))) = -1 ∧ ¬ o l = -1 ∧ o l ≤ N 9))) (show (c = -1 ∨ (N (119 + ((k : Int) * 7 + 1))) = c) ∧ (¬ (N (119 + ((k : Int) * 7 + 0))) = -1 ∧ (N (119 + ((k : Int) * 7 + 5))) = -1 ∧ ¬ o (k : Int) = -1 ∧ o (k : Int) ≤ N 9) from by omega)
        have h9 := ih (k + 1) (some (gm_vi 1)) (by omega)
        rw [e9, e8] at h9
        exact h9
      · show gm_Wp X LX d _ _ 65 60 _ [gm_vi 0] n K _ _ Q
        have v57 : ¬ (¬ (N (119 + ((k : Int) * 7 + 0))) = -1 ∧ (N (119 + ((k : Int) * 7 + 5))) = -1 ∧ ¬ o (k : Int) = -1 ∧ o (k : Int) ≤ N 9) := v57
        refine fw_iftd (cc := .eq) (pc := 60) (off := 6) (by decide +kernel) (by decide) ⟨by decide, by decide⟩ (by decide) ?_
        refine gm_sz (gm_p_iinc (pc := 66) (j := 3) (z := 1) (by decide +kernel) rfl) ?_
        refine gm_sz (gm_p_goto (pc := 69) (off := (-61)) (by decide +kernel) (by decide)) ?_
        have e8 : ((k + 1 : Nat) : Int) = (k : Int) + 1 := by omega
        have e9 : cnt (fun l => (c = -1 ∨ (N (119 + (l * 7 + 1))) = c) ∧ (¬ (N (119 + (l * 7 + 0))) = -1 ∧ (N (119 + (l * 7 + 5))) = -1 ∧ ¬ o l = -1 ∧ o l ≤ N 9)) (k + 1) = cnt (fun l => (c = -1 ∨ (N (119 + (l * 7 + 1))) = c) ∧ (¬ (N (119 + (l * 7 + 0))) = -1 ∧ (N (119 + (l * 7 + 5))) = -1 ∧ ¬ o l = -1 ∧ o l ≤ N 9)) k := cnt_f (p := (fun l => (c = -1 ∨ (N (119 + (l * 7 + 1))) = c) ∧ (¬ (N (119 + (l * 7 + 0))) = -1 ∧ (N (119 + (l * 7 + 5))) = -1 ∧ ¬ o l = -1 ∧ o l ≤ N 9))) (show ¬ ((c = -1 ∨ (N (119 + ((k : Int) * 7 + 1))) = c) ∧ (¬ (N (119 + ((k : Int) * 7 + 0))) = -1 ∧ (N (119 + ((k : Int) * 7 + 5))) = -1 ∧ ¬ o (k : Int) = -1 ∧ o (k : Int) ≤ N 9)) from by omega)
        have h9 := ih (k + 1) (some (gm_vi 1)) (by omega)
        rw [e9, e8] at h9
        exact h9
    · have h24 : ¬ c = (-1) := h24
      refine gm_sz (gm_p_load (pc := 27) (i := .aload_n 0) (sr := 2) (j := 0) (by decide +kernel) rfl rfl rfl) ?_
      refine gm_sz (fw_gr (pc := 28) (ix := 23) (ci := 0) (j := 3) (r := 3) (by decide +kernel) (e0k hE (k := 1) (c := 0) (by decide +kernel)) (by decide +kernel) (by decide +kernel) (e0r hE (k := 1) (j := 3) (r := 3) (by decide +kernel))) ?_
      refine gm_sz (fw_gr (pc := 31) (ix := 203) (ci := 1) (j := 12) (r := 10) (by decide +kernel) (e0k hE (k := 3) (c := 1) (by decide +kernel)) (by decide +kernel) (by decide +kernel) (e0r hE (k := 3) (j := 12) (r := 10) (by decide +kernel))) ?_
      refine gm_sz (gm_p_load (pc := 34) (i := .iload_n 3) (sr := 0) (j := 3) (by decide +kernel) rfl rfl rfl) ?_
      refine gm_sz (gm_p_const (pc := 35) (i := .iconst 1) (v := gm_vi 1) (by decide +kernel) (by decide +kernel)) ?_
      refine gm_c_virt (k := 10) (ci := 2) (mj := 10) (ix := 186) (pc := 36) (as := [gm_vi (k : Int), gm_vi 1]) (st := []) (d' := d - 1) (bc' := 0) (bs' := 0) (by decide +kernel) (by decide +kernel) (by decide +kernel) (by decide +kernel) (e0k hE (k := 10) (c := 2) (by decide +kernel)).1 (e0k hE (k := 10) (c := 2) (by decide +kernel)).2 (by decide) (by decide +kernel) (show 2 = gm_na 10 by decide +kernel) (fw_c2 fw_si fw_si) (show 3 ≤ gm_ml 10 by decide +kernel) (Nat.le_of_ble_eq_true rfl) (by omega) (Nat.zero_le _) (Nat.zero_le _) ?_
      refine rw_get (s := N 4) (w := 7) (x := N (119 + ((k : Int) * 7 + 1))) (e0k hE (k := 10) (c := 2) (by decide +kernel)) (e0a hE (k := 11) (q := (0, 168)) (by decide +kernel)) (e0r hE (k := 10) (j := 2) (r := 11) (by decide +kernel)) (by decide) (ti_let hT) (hT.1 (10, 1, 7) (by decide)) ⟨by omega, by omega⟩ ⟨by omega, by omega⟩ ⟨by omega, by omega⟩ ⟨by omega, by omega⟩ (ti_aL hT (by omega) (by omega)) ?_
      show gm_Wp X LX d _ _ 65 39 _ [gm_vi (N (119 + ((k : Int) * 7 + 1)))] n K _ _ Q
      refine gm_sz (gm_p_load (pc := 39) (i := .iload_n 1) (sr := 0) (j := 1) (by decide +kernel) rfl rfl rfl) ?_
      refine fw_ic (cc := .ne) (pc := 40) (off := 7) (by decide +kernel) (by decide) ⟨by omega, by omega⟩ hi (fun h40 => ?_) (fun h40 => ?_)
      · have h40 : ¬ (N (119 + ((k : Int) * 7 + 1))) = c := h40
        refine gm_sz (gm_p_const (pc := 47) (i := .iconst 0) (v := gm_vi 0) (by decide +kernel) (by decide +kernel)) ?_
        refine gm_sz (gm_p_stor (pc := 48) (i := .istore 4) (sr := 0) (j := 4) (by decide +kernel) rfl (show 5 ≤ _ from Nat.le_of_ble_eq_true rfl) rfl) ?_
        refine gm_sz (gm_p_load (pc := 50) (i := .iload 4) (sr := 0) (j := 4) (by decide +kernel) rfl rfl rfl) ?_
        refine fw_iftd (cc := .eq) (pc := 52) (off := 14) (by decide +kernel) (by decide) ⟨by decide, by decide⟩ (by decide) ?_
        refine gm_sz (gm_p_iinc (pc := 66) (j := 3) (z := 1) (by decide +kernel) rfl) ?_
        refine gm_sz (gm_p_goto (pc := 69) (off := (-61)) (by decide +kernel) (by decide)) ?_
        have e8 : ((k + 1 : Nat) : Int) = (k : Int) + 1 := by omega
        have e9 : cnt (fun l => (c = -1 ∨ (N (119 + (l * 7 + 1))) = c) ∧ (¬ (N (119 + (l * 7 + 0))) = -1 ∧ (N (119 + (l * 7 + 5))) = -1 ∧ ¬ o l = -1 ∧ o l ≤ N 9)) (k + 1) = cnt (fun l => (c = -1 ∨ (N (119 + (l * 7 + 1))) = c) ∧ (¬ (N (119 + (l * 7 + 0))) = -1 ∧ (N (119 + (l * 7 + 5))) = -1 ∧ ¬ o l = -1 ∧ o l ≤ N 9)) k := cnt_f (p := (fun l => (c = -1 ∨ (N (119 + (l * 7 + 1))) = c) ∧ (¬ (N (119 + (l * 7 + 0))) = -1 ∧ (N (119 + (l * 7 + 5))) = -1 ∧ ¬ o l = -1 ∧ o l ≤ N 9))) (show ¬ ((c = -1 ∨ (N (119 + ((k : Int) * 7 + 1))) = c) ∧ (¬ (N (119 + ((k : Int) * 7 + 0))) = -1 ∧ (N (119 + ((k : Int) * 7 + 5))) = -1 ∧ ¬ o (k : Int) = -1 ∧ o (k : Int) ≤ N 9)) from by omega)
        have h9 := ih (k + 1) (some (gm_vi 0)) (by omega)
        rw [e9, e8] at h9
        exact h9
      · have h40 : (N (119 + ((k : Int) * 7 + 1))) = c := Classical.not_not.mp h40
        refine gm_sz (gm_p_const (pc := 43) (i := .iconst 1) (v := gm_vi 1) (by decide +kernel) (by decide +kernel)) ?_
        refine gm_sz (gm_p_goto (pc := 44) (off := 4) (by decide +kernel) (by decide)) ?_
        refine gm_sz (gm_p_stor (pc := 48) (i := .istore 4) (sr := 0) (j := 4) (by decide +kernel) rfl (show 5 ≤ _ from Nat.le_of_ble_eq_true rfl) rfl) ?_
        refine gm_sz (gm_p_load (pc := 50) (i := .iload 4) (sr := 0) (j := 4) (by decide +kernel) rfl rfl rfl) ?_
        refine fw_iffd (cc := .eq) (pc := 52) (off := 14) (by decide +kernel) (by decide) ⟨by decide, by decide⟩ (by decide) ?_
        refine gm_sz (gm_p_load (pc := 55) (i := .aload_n 0) (sr := 2) (j := 0) (by decide +kernel) rfl rfl rfl) ?_
        refine gm_sz (gm_p_load (pc := 56) (i := .iload_n 3) (sr := 0) (j := 3) (by decide +kernel) rfl rfl rfl) ?_
        refine gm_c_virt (k := 1) (ci := 0) (mj := 66) (ix := 257) (pc := 57) (as := [gm_vi (k : Int)]) (st := []) (d' := d - 1) (bc' := 0) (bs' := 0) (by decide +kernel) (by decide +kernel) (by decide +kernel) (by decide +kernel) (e0k hE (k := 1) (c := 0) (by decide +kernel)).1 (e0k hE (k := 1) (c := 0) (by decide +kernel)).2 (by decide) (by decide +kernel) (show 1 = gm_na 66 by decide +kernel) (fw_c1 fw_si) (show 2 ≤ gm_ml 66 by decide +kernel) (Nat.le_of_ble_eq_true rfl) (by omega) (Nat.zero_le _) (Nat.zero_le _) ?_
        refine wt_c66 (o := o (k : Int)) (by omega) hE hT hN ⟨by omega, by omega⟩ h3 (ho (k : Int) (by omega) (by omega)) (hob (k : Int) (by omega) (by omega)) (fun v57 => ?_) (fun v57 => ?_)
        · show gm_Wp X LX d _ _ 65 60 _ [gm_vi 1] n K _ _ Q
          have v57 : ¬ (N (119 + ((k : Int) * 7 + 0))) = -1 ∧ (N (119 + ((k : Int) * 7 + 5))) = -1 ∧ ¬ o (k : Int) = -1 ∧ o (k : Int) ≤ N 9 := v57
          refine fw_iffd (cc := .eq) (pc := 60) (off := 6) (by decide +kernel) (by decide) ⟨by decide, by decide⟩ (by decide) ?_
          refine gm_sz (gm_p_iinc (pc := 63) (j := 2) (z := 1) (by decide +kernel) rfl) ?_
          refine gm_sz (gm_p_iinc (pc := 66) (j := 3) (z := 1) (by decide +kernel) rfl) ?_
          refine gm_sz (gm_p_goto (pc := 69) (off := (-61)) (by decide +kernel) (by decide)) ?_
          have e8 : ((k + 1 : Nat) : Int) = (k : Int) + 1 := by omega
          have e9 : cnt (fun l => (c = -1 ∨ (N (119 + (l * 7 + 1))) = c) ∧ (¬ (N (119 + (l * 7 + 0))) = -1 ∧ (N (119 + (l * 7 + 5))) = -1 ∧ ¬ o l = -1 ∧ o l ≤ N 9)) (k + 1) = cnt (fun l => (c = -1 ∨ (N (119 + (l * 7 + 1))) = c) ∧ (¬ (N (119 + (l * 7 + 0))) = -1 ∧ (N (119 + (l * 7 + 5))) = -1 ∧ ¬ o l = -1 ∧ o l ≤ N 9)) k + 1 := cnt_t (p := (fun l => (c = -1 ∨ (N (119 + (l * 7 + 1))) = c) ∧ (¬ (N (119 + (l * 7 + 0))) = -1 ∧ (N (119 + (l * 7 + 5))) = -1 ∧ ¬ o l = -1 ∧ o l ≤ N 9))) (show (c = -1 ∨ (N (119 + ((k : Int) * 7 + 1))) = c) ∧ (¬ (N (119 + ((k : Int) * 7 + 0))) = -1 ∧ (N (119 + ((k : Int) * 7 + 5))) = -1 ∧ ¬ o (k : Int) = -1 ∧ o (k : Int) ≤ N 9) from by omega)
          have h9 := ih (k + 1) (some (gm_vi 1)) (by omega)
          rw [e9, e8] at h9
          exact h9
        · show gm_Wp X LX d _ _ 65 60 _ [gm_vi 0] n K _ _ Q
          have v57 : ¬ (¬ (N (119 + ((k : Int) * 7 + 0))) = -1 ∧ (N (119 + ((k : Int) * 7 + 5))) = -1 ∧ ¬ o (k : Int) = -1 ∧ o (k : Int) ≤ N 9) := v57
          refine fw_iftd (cc := .eq) (pc := 60) (off := 6) (by decide +kernel) (by decide) ⟨by decide, by decide⟩ (by decide) ?_
          refine gm_sz (gm_p_iinc (pc := 66) (j := 3) (z := 1) (by decide +kernel) rfl) ?_
          refine gm_sz (gm_p_goto (pc := 69) (off := (-61)) (by decide +kernel) (by decide)) ?_
          have e8 : ((k + 1 : Nat) : Int) = (k : Int) + 1 := by omega
          have e9 : cnt (fun l => (c = -1 ∨ (N (119 + (l * 7 + 1))) = c) ∧ (¬ (N (119 + (l * 7 + 0))) = -1 ∧ (N (119 + (l * 7 + 5))) = -1 ∧ ¬ o l = -1 ∧ o l ≤ N 9)) (k + 1) = cnt (fun l => (c = -1 ∨ (N (119 + (l * 7 + 1))) = c) ∧ (¬ (N (119 + (l * 7 + 0))) = -1 ∧ (N (119 + (l * 7 + 5))) = -1 ∧ ¬ o l = -1 ∧ o l ≤ N 9)) k := cnt_f (p := (fun l => (c = -1 ∨ (N (119 + (l * 7 + 1))) = c) ∧ (¬ (N (119 + (l * 7 + 0))) = -1 ∧ (N (119 + (l * 7 + 5))) = -1 ∧ ¬ o l = -1 ∧ o l ≤ N 9))) (show ¬ ((c = -1 ∨ (N (119 + ((k : Int) * 7 + 1))) = c) ∧ (¬ (N (119 + ((k : Int) * 7 + 0))) = -1 ∧ (N (119 + ((k : Int) * 7 + 5))) = -1 ∧ ¬ o (k : Int) = -1 ∧ o (k : Int) ≤ N 9)) from by omega)
          have h9 := ih (k + 1) (some (gm_vi 1)) (by omega)
          rw [e9, e8] at h9
          exact h9
theorem ii_c (hd : 4 ≤ d) (hE : E0 n K R) (hT : TI N h sp M) (hN : NR N) (h3 : M 220 3 = N 4) (ho : ∀ l, 0 ≤ l → l < N 4 → M 221 (l * 2 + 0) = o l) (hob : ∀ l, 0 ≤ l → l < N 4 → -1 ≤ o l ∧ o l ≤ 299) (hq : Q (.inl (some (gm_vi (cnt (fun l => ¬ (¬ o l = -1 ∧ o l ≤ N 9)) (N 4).toNat)))) n K R M) : ∀ (u k : Nat), (k : Int) + (u : Int) = N 4 → gm_Wp X LX d bc bs 68 8 [some (gm_vr 1), some (gm_vi (cnt (fun l => ¬ (¬ o l = -1 ∧ o l ≤ N 9)) k)), some (gm_vi (k : Int))] [] n K R M Q := by
  obtain ⟨⟨⟨a0, b0⟩, ⟨a1, b1⟩, ⟨a10, b10⟩, ⟨a11, b11⟩, ⟨a12, b12⟩, a9, b9⟩, ⟨⟨a2, b2⟩, ⟨a5, b5⟩, ⟨a3, b3⟩, ⟨a4, b4⟩, ⟨a6, b6⟩, ⟨a14, b14⟩, ⟨a7, b7⟩, a13, b13⟩, rF, rP, rL⟩ := id hN
  intro u
  induction u with
  | zero =>
    intro k hk
    have ek : k = (N 4).toNat := by omega
    have hb9 := cnt_b (p := (fun l => ¬ (¬ o l = -1 ∧ o l ≤ N 9))) k
    refine gm_sz (gm_p_load (pc := 8) (i := .iload_n 2) (sr := 0) (j := 2) (by decide +kernel) rfl rfl rfl) ?_
    refine gm_sz (gm_p_load (pc := 9) (i := .aload_n 0) (sr := 2) (j := 0) (by decide +kernel) rfl rfl rfl) ?_
    refine gm_sz (fw_gr (pc := 10) (ix := 23) (ci := 0) (j := 3) (r := 3) (by decide +kernel) (e0k hE (k := 1) (c := 0) (by decide +kernel)) (by decide +kernel) (by decide +kernel) (e0r hE (k := 1) (j := 3) (r := 3) (by decide +kernel))) ?_
    refine gm_sz (fw_gr (pc := 13) (ix := 203) (ci := 1) (j := 12) (r := 10) (by decide +kernel) (e0k hE (k := 3) (c := 1) (by decide +kernel)) (by decide +kernel) (by decide +kernel) (e0r hE (k := 3) (j := 12) (r := 10) (by decide +kernel))) ?_
    refine gm_c_virt (k := 10) (ci := 2) (mj := 9) (ix := 277) (pc := 16) (as := []) (st := [gm_vi (k : Int)]) (d' := d - 1) (bc' := 0) (bs' := 0) (by decide +kernel) (by decide +kernel) (by decide +kernel) (by decide +kernel) (e0k hE (k := 10) (c := 2) (by decide +kernel)).1 (e0k hE (k := 10) (c := 2) (by decide +kernel)).2 (by decide) (by decide +kernel) (show 0 = gm_na 9 by decide +kernel) fw_c0 (show 1 ≤ gm_ml 9 by decide +kernel) (Nat.le_of_ble_eq_true rfl) (by omega) (Nat.zero_le _) (Nat.zero_le _) ?_
    refine rw_size (s := N 4) (e0k hE (k := 10) (c := 2) (by decide +kernel)) (ti_let hT) ?_
    show gm_Wp X LX d _ _ 68 19 _ [gm_vi (N 4), gm_vi (k : Int)] n K _ _ Q
    refine fw_ict (cc := .ge) (pc := 19) (off := 35) (by decide +kernel) (by decide) ⟨by omega, by omega⟩ ⟨by omega, by omega⟩ (show (N 4) ≤ (k : Int) by omega) ?_
    refine gm_sz (gm_p_load (pc := 54) (i := .iload_n 1) (sr := 0) (j := 1) (by decide +kernel) rfl rfl rfl) ?_
    have h9 : Q (.inl (some (gm_vi (cnt (fun l => ¬ (¬ o l = -1 ∧ o l ≤ N 9)) k)))) n K R M := by rw [ek]; exact hq
    exact gm_r_int (pc := 55) (by decide +kernel) (Or.inl (by decide +kernel)) h9
  | succ u ih =>
    intro k hk
    have hb9 := cnt_b (p := (fun l => ¬ (¬ o l = -1 ∧ o l ≤ N 9))) k
    have ob9 := hob (k : Int) (by omega) (by omega)
    obtain ⟨r0, r1, r2, -, -, r5, -⟩ := rL (k : Int) (by omega) (by omega)
    have r0 : -1 ≤ N (119 + ((k : Int) * 7 + 0)) ∧ N (119 + ((k : Int) * 7 + 0)) < N 3 := r0
    have r1 : -1 ≤ N (119 + ((k : Int) * 7 + 1)) ∧ N (119 + ((k : Int) * 7 + 1)) < N 3 := r1
    have r2 : 0 ≤ N (119 + ((k : Int) * 7 + 2)) ∧ N (119 + ((k : Int) * 7 + 2)) < N 0 := r2
    have r5 : -1 ≤ N (119 + ((k : Int) * 7 + 5)) ∧ N (119 + ((k : Int) * 7 + 5)) < N 3 := r5
    refine gm_sz (gm_p_load (pc := 8) (i := .iload_n 2) (sr := 0) (j := 2) (by decide +kernel) rfl rfl rfl) ?_
    refine gm_sz (gm_p_load (pc := 9) (i := .aload_n 0) (sr := 2) (j := 0) (by decide +kernel) rfl rfl rfl) ?_
    refine gm_sz (fw_gr (pc := 10) (ix := 23) (ci := 0) (j := 3) (r := 3) (by decide +kernel) (e0k hE (k := 1) (c := 0) (by decide +kernel)) (by decide +kernel) (by decide +kernel) (e0r hE (k := 1) (j := 3) (r := 3) (by decide +kernel))) ?_
    refine gm_sz (fw_gr (pc := 13) (ix := 203) (ci := 1) (j := 12) (r := 10) (by decide +kernel) (e0k hE (k := 3) (c := 1) (by decide +kernel)) (by decide +kernel) (by decide +kernel) (e0r hE (k := 3) (j := 12) (r := 10) (by decide +kernel))) ?_
    refine gm_c_virt (k := 10) (ci := 2) (mj := 9) (ix := 277) (pc := 16) (as := []) (st := [gm_vi (k : Int)]) (d' := d - 1) (bc' := 0) (bs' := 0) (by decide +kernel) (by decide +kernel) (by decide +kernel) (by decide +kernel) (e0k hE (k := 10) (c := 2) (by decide +kernel)).1 (e0k hE (k := 10) (c := 2) (by decide +kernel)).2 (by decide) (by decide +kernel) (show 0 = gm_na 9 by decide +kernel) fw_c0 (show 1 ≤ gm_ml 9 by decide +kernel) (Nat.le_of_ble_eq_true rfl) (by omega) (Nat.zero_le _) (Nat.zero_le _) ?_
    refine rw_size (s := N 4) (e0k hE (k := 10) (c := 2) (by decide +kernel)) (ti_let hT) ?_
    show gm_Wp X LX d _ _ 68 19 _ [gm_vi (N 4), gm_vi (k : Int)] n K _ _ Q
    refine fw_icf (cc := .ge) (pc := 19) (off := 35) (by decide +kernel) (by decide) ⟨by omega, by omega⟩ ⟨by omega, by omega⟩ (show ¬ (N 4) ≤ (k : Int) by omega) ?_
    refine gm_sz (gm_p_load (pc := 22) (i := .aload_n 0) (sr := 2) (j := 0) (by decide +kernel) rfl rfl rfl) ?_
    refine gm_sz (gm_p_load (pc := 23) (i := .aload_n 0) (sr := 2) (j := 0) (by decide +kernel) rfl rfl rfl) ?_
    refine gm_sz (fw_gr (pc := 24) (ix := 97) (ci := 0) (j := 14) (r := 220) (by decide +kernel) (e0k hE (k := 1) (c := 0) (by decide +kernel)) (by decide +kernel) (by decide +kernel) (e0r hE (k := 1) (j := 14) (r := 220) (by decide +kernel))) ?_
    refine gm_sz (gm_p_load (pc := 27) (i := .iload_n 2) (sr := 0) (j := 2) (by decide +kernel) rfl rfl rfl) ?_
    refine gm_sz (gm_p_const (pc := 28) (i := .iconst 0) (v := gm_vi 0) (by decide +kernel) (by decide +kernel)) ?_
    refine gm_c_virt (k := 220) (ci := 2) (mj := 10) (ix := 186) (pc := 29) (as := [gm_vi (k : Int), gm_vi 0]) (st := [gm_vr 1]) (d' := d - 1) (bc' := 0) (bs' := 0) (by decide +kernel) (by decide +kernel) (by decide +kernel) (by decide +kernel) (e0k hE (k := 220) (c := 2) (by decide +kernel)).1 (e0k hE (k := 220) (c := 2) (by decide +kernel)).2 (by decide) (by decide +kernel) (show 2 = gm_na 10 by decide +kernel) (fw_c2 fw_si fw_si) (show 3 ≤ gm_ml 10 by decide +kernel) (Nat.le_of_ble_eq_true rfl) (by omega) (Nat.zero_le _) (Nat.zero_le _) ?_
    refine rw_get (s := N 4) (w := 2) (x := o (k : Int)) (e0k hE (k := 220) (c := 2) (by decide +kernel)) (e0a hE (k := 221) (q := (0, 48)) (by decide +kernel)) (e0r hE (k := 220) (j := 2) (r := 221) (by decide +kernel)) (by decide) h3 (hT.1 (220, 1, 2) (by decide)) ⟨by omega, by omega⟩ ⟨by omega, by omega⟩ ⟨by omega, by omega⟩ ⟨by omega, by omega⟩ (ho (k : Int) (by omega) (by omega)) ?_
    show gm_Wp X LX d _ _ 68 32 _ [gm_vi (o (k : Int)), gm_vr 1] n K _ _ Q
    refine gm_sz (gm_p_load (pc := 32) (i := .aload_n 0) (sr := 2) (j := 0) (by decide +kernel) rfl rfl rfl) ?_
    refine gm_sz (fw_gr (pc := 33) (ix := 23) (ci := 0) (j := 3) (r := 3) (by decide +kernel) (e0k hE (k := 1) (c := 0) (by decide +kernel)) (by decide +kernel) (by decide +kernel) (e0r hE (k := 1) (j := 3) (r := 3) (by decide +kernel))) ?_
    refine gm_sz (fw_gi (pc := 36) (ix := 269) (ci := 1) (j := 6) (x := N 9) (by decide +kernel) (e0k hE (k := 3) (c := 1) (by decide +kernel)) (by decide +kernel) (by decide +kernel) (ti_now hT)) ?_
    refine gm_c_virt (k := 1) (ci := 0) (mj := 67) (ix := 408) (pc := 39) (as := [gm_vi (o (k : Int)), gm_vi (N 9)]) (st := []) (d' := d - 1) (bc' := 0) (bs' := 0) (by decide +kernel) (by decide +kernel) (by decide +kernel) (by decide +kernel) (e0k hE (k := 1) (c := 0) (by decide +kernel)).1 (e0k hE (k := 1) (c := 0) (by decide +kernel)).2 (by decide) (by decide +kernel) (show 2 = gm_na 67 by decide +kernel) (fw_c2 fw_si fw_si) (show 3 ≤ gm_ml 67 by decide +kernel) (Nat.le_of_ble_eq_true rfl) (by omega) (Nat.zero_le _) (Nat.zero_le _) ?_
    refine wt_67 ⟨by omega, by omega⟩ ⟨by omega, by omega⟩ (fun u39 => ?_) (fun u39 v39 => ?_) (fun u39 v39 => ?_)
    · show gm_Wp X LX d _ _ 68 42 _ [gm_vi 0] n K _ _ Q
      refine fw_iffd (cc := .ne) (pc := 42) (off := 6) (by decide +kernel) (by decide) ⟨by decide, by decide⟩ (by decide) ?_
      refine gm_sz (gm_p_iinc (pc := 45) (j := 1) (z := 1) (by decide +kernel) rfl) ?_
      refine gm_sz (gm_p_iinc (pc := 48) (j := 2) (z := 1) (by decide +kernel) rfl) ?_
      refine gm_sz (gm_p_goto (pc := 51) (off := (-43)) (by decide +kernel) (by decide)) ?_
      have e8 : ((k + 1 : Nat) : Int) = (k : Int) + 1 := by omega
      have e9 : cnt (fun l => ¬ (¬ o l = -1 ∧ o l ≤ N 9)) (k + 1) = cnt (fun l => ¬ (¬ o l = -1 ∧ o l ≤ N 9)) k + 1 := cnt_t (p := (fun l => ¬ (¬ o l = -1 ∧ o l ≤ N 9))) (show ¬ (¬ o (k : Int) = -1 ∧ o (k : Int) ≤ N 9) from by omega)
      have h9 := ih (k + 1) (by omega)
      rw [e9, e8] at h9
      exact h9
    · show gm_Wp X LX d _ _ 68 42 _ [gm_vi 0] n K _ _ Q
      refine fw_iffd (cc := .ne) (pc := 42) (off := 6) (by decide +kernel) (by decide) ⟨by decide, by decide⟩ (by decide) ?_
      refine gm_sz (gm_p_iinc (pc := 45) (j := 1) (z := 1) (by decide +kernel) rfl) ?_
      refine gm_sz (gm_p_iinc (pc := 48) (j := 2) (z := 1) (by decide +kernel) rfl) ?_
      refine gm_sz (gm_p_goto (pc := 51) (off := (-43)) (by decide +kernel) (by decide)) ?_
      have e8 : ((k + 1 : Nat) : Int) = (k : Int) + 1 := by omega
      have e9 : cnt (fun l => ¬ (¬ o l = -1 ∧ o l ≤ N 9)) (k + 1) = cnt (fun l => ¬ (¬ o l = -1 ∧ o l ≤ N 9)) k + 1 := cnt_t (p := (fun l => ¬ (¬ o l = -1 ∧ o l ≤ N 9))) (show ¬ (¬ o (k : Int) = -1 ∧ o (k : Int) ≤ N 9) from by omega)
      have h9 := ih (k + 1) (by omega)
      rw [e9, e8] at h9
      exact h9
    · show gm_Wp X LX d _ _ 68 42 _ [gm_vi 1] n K _ _ Q
      refine fw_iftd (cc := .ne) (pc := 42) (off := 6) (by decide +kernel) (by decide) ⟨by decide, by decide⟩ (by decide) ?_
      refine gm_sz (gm_p_iinc (pc := 48) (j := 2) (z := 1) (by decide +kernel) rfl) ?_
      refine gm_sz (gm_p_goto (pc := 51) (off := (-43)) (by decide +kernel) (by decide)) ?_
      have e8 : ((k + 1 : Nat) : Int) = (k : Int) + 1 := by omega
      have e9 : cnt (fun l => ¬ (¬ o l = -1 ∧ o l ≤ N 9)) (k + 1) = cnt (fun l => ¬ (¬ o l = -1 ∧ o l ≤ N 9)) k := cnt_f (p := (fun l => ¬ (¬ o l = -1 ∧ o l ≤ N 9))) (show ¬ (¬ (¬ o (k : Int) = -1 ∧ o (k : Int) ≤ N 9)) from by omega)
      have h9 := ih (k + 1) (by omega)
      rw [e9, e8] at h9
      exact h9
theorem lw_c (hd : 4 ≤ d) (hE : E0 n K R) (hT : TI N h sp M) (hN : NR N) (h7 : 0 ≤ c ∧ c < 7) (hl9 : ∀ l, 0 ≤ l → l < N 4 → gm_ir ((N (119 + (l * 7 + c))))) (hi : gm_ir y) (hq : Q (.inl (some (gm_vi (cnt (fun l => (N (119 + (l * 7 + c))) = y) (N 4).toNat)))) n K R M) : ∀ (u k : Nat), (k : Int) + (u : Int) = N 4 → gm_Wp X LX d bc bs 140 5 [some (gm_vr 1), some (gm_vi c), some (gm_vi y), some (gm_vi (cnt (fun l => (N (119 + (l * 7 + c))) = y) k)), some (gm_vi (k : Int))] [] n K R M Q := by
  obtain ⟨⟨⟨a0, b0⟩, ⟨a1, b1⟩, ⟨a10, b10⟩, ⟨a11, b11⟩, ⟨a12, b12⟩, a9, b9⟩, ⟨⟨a2, b2⟩, ⟨a5, b5⟩, ⟨a3, b3⟩, ⟨a4, b4⟩, ⟨a6, b6⟩, ⟨a14, b14⟩, ⟨a7, b7⟩, a13, b13⟩, rF, rP, rL⟩ := id hN
  intro u
  induction u with
  | zero =>
    intro k hk
    have ek : k = (N 4).toNat := by omega
    have hb9 := cnt_b (p := (fun l => (N (119 + (l * 7 + c))) = y)) k
    refine gm_sz (gm_p_load (pc := 5) (i := .iload 4) (sr := 0) (j := 4) (by decide +kernel) rfl rfl rfl) ?_
    refine gm_sz (gm_p_load (pc := 7) (i := .aload_n 0) (sr := 2) (j := 0) (by decide +kernel) rfl rfl rfl) ?_
    refine gm_sz (fw_gr (pc := 8) (ix := 23) (ci := 0) (j := 3) (r := 3) (by decide +kernel) (e0k hE (k := 1) (c := 0) (by decide +kernel)) (by decide +kernel) (by decide +kernel) (e0r hE (k := 1) (j := 3) (r := 3) (by decide +kernel))) ?_
    refine gm_sz (fw_gr (pc := 11) (ix := 203) (ci := 1) (j := 12) (r := 10) (by decide +kernel) (e0k hE (k := 3) (c := 1) (by decide +kernel)) (by decide +kernel) (by decide +kernel) (e0r hE (k := 3) (j := 12) (r := 10) (by decide +kernel))) ?_
    refine gm_c_virt (k := 10) (ci := 2) (mj := 9) (ix := 277) (pc := 14) (as := []) (st := [gm_vi (k : Int)]) (d' := d - 1) (bc' := 0) (bs' := 0) (by decide +kernel) (by decide +kernel) (by decide +kernel) (by decide +kernel) (e0k hE (k := 10) (c := 2) (by decide +kernel)).1 (e0k hE (k := 10) (c := 2) (by decide +kernel)).2 (by decide) (by decide +kernel) (show 0 = gm_na 9 by decide +kernel) fw_c0 (show 1 ≤ gm_ml 9 by decide +kernel) (Nat.le_of_ble_eq_true rfl) (by omega) (Nat.zero_le _) (Nat.zero_le _) ?_
    refine rw_size (s := N 4) (e0k hE (k := 10) (c := 2) (by decide +kernel)) (ti_let hT) ?_
    show gm_Wp X LX d _ _ 140 17 _ [gm_vi (N 4), gm_vi (k : Int)] n K _ _ Q
    refine fw_ict (cc := .ge) (pc := 17) (off := 29) (by decide +kernel) (by decide) ⟨by omega, by omega⟩ ⟨by omega, by omega⟩ (show (N 4) ≤ (k : Int) by omega) ?_
    refine gm_sz (gm_p_load (pc := 46) (i := .iload_n 3) (sr := 0) (j := 3) (by decide +kernel) rfl rfl rfl) ?_
    have h9 : Q (.inl (some (gm_vi (cnt (fun l => (N (119 + (l * 7 + c))) = y) k)))) n K R M := by rw [ek]; exact hq
    exact gm_r_int (pc := 47) (by decide +kernel) (Or.inl (by decide +kernel)) h9
  | succ u ih =>
    intro k hk
    have hb9 := cnt_b (p := (fun l => (N (119 + (l * 7 + c))) = y)) k
    have l9 := hl9 (k : Int) (by omega) (by omega)
    refine gm_sz (gm_p_load (pc := 5) (i := .iload 4) (sr := 0) (j := 4) (by decide +kernel) rfl rfl rfl) ?_
    refine gm_sz (gm_p_load (pc := 7) (i := .aload_n 0) (sr := 2) (j := 0) (by decide +kernel) rfl rfl rfl) ?_
    refine gm_sz (fw_gr (pc := 8) (ix := 23) (ci := 0) (j := 3) (r := 3) (by decide +kernel) (e0k hE (k := 1) (c := 0) (by decide +kernel)) (by decide +kernel) (by decide +kernel) (e0r hE (k := 1) (j := 3) (r := 3) (by decide +kernel))) ?_
    refine gm_sz (fw_gr (pc := 11) (ix := 203) (ci := 1) (j := 12) (r := 10) (by decide +kernel) (e0k hE (k := 3) (c := 1) (by decide +kernel)) (by decide +kernel) (by decide +kernel) (e0r hE (k := 3) (j := 12) (r := 10) (by decide +kernel))) ?_
    refine gm_c_virt (k := 10) (ci := 2) (mj := 9) (ix := 277) (pc := 14) (as := []) (st := [gm_vi (k : Int)]) (d' := d - 1) (bc' := 0) (bs' := 0) (by decide +kernel) (by decide +kernel) (by decide +kernel) (by decide +kernel) (e0k hE (k := 10) (c := 2) (by decide +kernel)).1 (e0k hE (k := 10) (c := 2) (by decide +kernel)).2 (by decide) (by decide +kernel) (show 0 = gm_na 9 by decide +kernel) fw_c0 (show 1 ≤ gm_ml 9 by decide +kernel) (Nat.le_of_ble_eq_true rfl) (by omega) (Nat.zero_le _) (Nat.zero_le _) ?_
    refine rw_size (s := N 4) (e0k hE (k := 10) (c := 2) (by decide +kernel)) (ti_let hT) ?_
    show gm_Wp X LX d _ _ 140 17 _ [gm_vi (N 4), gm_vi (k : Int)] n K _ _ Q
    refine fw_icf (cc := .ge) (pc := 17) (off := 29) (by decide +kernel) (by decide) ⟨by omega, by omega⟩ ⟨by omega, by omega⟩ (show ¬ (N 4) ≤ (k : Int) by omega) ?_
    refine gm_sz (gm_p_load (pc := 20) (i := .aload_n 0) (sr := 2) (j := 0) (by decide +kernel) rfl rfl rfl) ?_
    refine gm_sz (fw_gr (pc := 21) (ix := 23) (ci := 0) (j := 3) (r := 3) (by decide +kernel) (e0k hE (k := 1) (c := 0) (by decide +kernel)) (by decide +kernel) (by decide +kernel) (e0r hE (k := 1) (j := 3) (r := 3) (by decide +kernel))) ?_
    refine gm_sz (fw_gr (pc := 24) (ix := 203) (ci := 1) (j := 12) (r := 10) (by decide +kernel) (e0k hE (k := 3) (c := 1) (by decide +kernel)) (by decide +kernel) (by decide +kernel) (e0r hE (k := 3) (j := 12) (r := 10) (by decide +kernel))) ?_
    refine gm_sz (gm_p_load (pc := 27) (i := .iload 4) (sr := 0) (j := 4) (by decide +kernel) rfl rfl rfl) ?_
    refine gm_sz (gm_p_load (pc := 29) (i := .iload_n 1) (sr := 0) (j := 1) (by decide +kernel) rfl rfl rfl) ?_
    refine gm_c_virt (k := 10) (ci := 2) (mj := 10) (ix := 186) (pc := 30) (as := [gm_vi (k : Int), gm_vi c]) (st := []) (d' := d - 1) (bc' := 0) (bs' := 0) (by decide +kernel) (by decide +kernel) (by decide +kernel) (by decide +kernel) (e0k hE (k := 10) (c := 2) (by decide +kernel)).1 (e0k hE (k := 10) (c := 2) (by decide +kernel)).2 (by decide) (by decide +kernel) (show 2 = gm_na 10 by decide +kernel) (fw_c2 fw_si fw_si) (show 3 ≤ gm_ml 10 by decide +kernel) (Nat.le_of_ble_eq_true rfl) (by omega) (Nat.zero_le _) (Nat.zero_le _) ?_
    refine rw_get (s := N 4) (w := 7) (x := N (119 + ((k : Int) * 7 + c))) (e0k hE (k := 10) (c := 2) (by decide +kernel)) (e0a hE (k := 11) (q := (0, 168)) (by decide +kernel)) (e0r hE (k := 10) (j := 2) (r := 11) (by decide +kernel)) (by decide) (ti_let hT) (hT.1 (10, 1, 7) (by decide)) ⟨by omega, by omega⟩ ⟨by omega, by omega⟩ ⟨by omega, by omega⟩ ⟨by omega, by omega⟩ (ti_aL hT (by omega) (by omega)) ?_
    show gm_Wp X LX d _ _ 140 33 _ [gm_vi (N (119 + ((k : Int) * 7 + c)))] n K _ _ Q
    refine gm_sz (gm_p_load (pc := 33) (i := .iload_n 2) (sr := 0) (j := 2) (by decide +kernel) rfl rfl rfl) ?_
    refine fw_ic (cc := .ne) (pc := 34) (off := 6) (by decide +kernel) (by decide) l9 hi (fun h34 => ?_) (fun h34 => ?_)
    · have h34 : ¬ (N (119 + ((k : Int) * 7 + c))) = y := h34
      refine gm_sz (gm_p_iinc (pc := 40) (j := 4) (z := 1) (by decide +kernel) rfl) ?_
      refine gm_sz (gm_p_goto (pc := 43) (off := (-38)) (by decide +kernel) (by decide)) ?_
      have e8 : ((k + 1 : Nat) : Int) = (k : Int) + 1 := by omega
      have e9 : cnt (fun l => (N (119 + (l * 7 + c))) = y) (k + 1) = cnt (fun l => (N (119 + (l * 7 + c))) = y) k := cnt_f (p := (fun l => (N (119 + (l * 7 + c))) = y)) (show ¬ ((N (119 + ((k : Int) * 7 + c))) = y) from by omega)
      have h9 := ih (k + 1) (by omega)
      rw [e9, e8] at h9
      exact h9
    · have h34 : (N (119 + ((k : Int) * 7 + c))) = y := Classical.not_not.mp h34
      refine gm_sz (gm_p_iinc (pc := 37) (j := 3) (z := 1) (by decide +kernel) rfl) ?_
      refine gm_sz (gm_p_iinc (pc := 40) (j := 4) (z := 1) (by decide +kernel) rfl) ?_
      refine gm_sz (gm_p_goto (pc := 43) (off := (-38)) (by decide +kernel) (by decide)) ?_
      have e8 : ((k + 1 : Nat) : Int) = (k : Int) + 1 := by omega
      have e9 : cnt (fun l => (N (119 + (l * 7 + c))) = y) (k + 1) = cnt (fun l => (N (119 + (l * 7 + c))) = y) k + 1 := cnt_t (p := (fun l => (N (119 + (l * 7 + c))) = y)) (show (N (119 + ((k : Int) * 7 + c))) = y from by omega)
      have h9 := ih (k + 1) (by omega)
      rw [e9, e8] at h9
      exact h9
theorem st_c (hd : 4 ≤ d) (hE : E0 n K R) (hT : TI N h sp M) (hN : NR N) (h3 : M 220 3 = N 4) (ho : ∀ l, 0 ≤ l → l < N 4 → M 221 (l * 2 + 0) = o l) (hob : ∀ l, 0 ≤ l → l < N 4 → -1 ≤ o l ∧ o l ≤ 299) (hi : gm_ir y) (hi2 : 0 ≤ c ∧ c ≤ 1) (hq : Q (.inl (some (gm_vi (cnt (fun l => ((c = 1 ∧ N 12 ≤ (N (119 + (l * 7 + 2)))) ∨ (c = 0 ∧ (N (119 + (l * 7 + 2))) < N 12)) ∧ (¬ o l = -1 ∧ o l ≤ y)) (N 4).toNat)))) n K R M) : ∀ (u k : Nat) (z5 : Option gm_V), (k : Int) + (u : Int) = N 4 → gm_Wp X LX d bc bs 225 14 [some (gm_vr 1), some (gm_vi y), some (gm_vi c), some (gm_vi (cnt (fun l => ((c = 1 ∧ N 12 ≤ (N (119 + (l * 7 + 2)))) ∨ (c = 0 ∧ (N (119 + (l * 7 + 2))) < N 12)) ∧ (¬ o l = -1 ∧ o l ≤ y)) k)), some (gm_vi (k : Int)), z5] [] n K R M Q := by
  obtain ⟨⟨⟨a0, b0⟩, ⟨a1, b1⟩, ⟨a10, b10⟩, ⟨a11, b11⟩, ⟨a12, b12⟩, a9, b9⟩, ⟨⟨a2, b2⟩, ⟨a5, b5⟩, ⟨a3, b3⟩, ⟨a4, b4⟩, ⟨a6, b6⟩, ⟨a14, b14⟩, ⟨a7, b7⟩, a13, b13⟩, rF, rP, rL⟩ := id hN
  intro u
  induction u with
  | zero =>
    intro k z5 hk
    have ek : k = (N 4).toNat := by omega
    have hb9 := cnt_b (p := (fun l => ((c = 1 ∧ N 12 ≤ (N (119 + (l * 7 + 2)))) ∨ (c = 0 ∧ (N (119 + (l * 7 + 2))) < N 12)) ∧ (¬ o l = -1 ∧ o l ≤ y))) k
    refine gm_sz (gm_p_load (pc := 14) (i := .iload 4) (sr := 0) (j := 4) (by decide +kernel) rfl rfl rfl) ?_
    refine gm_sz (gm_p_load (pc := 16) (i := .aload_n 0) (sr := 2) (j := 0) (by decide +kernel) rfl rfl rfl) ?_
    refine gm_sz (fw_gr (pc := 17) (ix := 97) (ci := 0) (j := 14) (r := 220) (by decide +kernel) (e0k hE (k := 1) (c := 0) (by decide +kernel)) (by decide +kernel) (by decide +kernel) (e0r hE (k := 1) (j := 14) (r := 220) (by decide +kernel))) ?_
    refine gm_c_virt (k := 220) (ci := 2) (mj := 9) (ix := 277) (pc := 20) (as := []) (st := [gm_vi (k : Int)]) (d' := d - 1) (bc' := 0) (bs' := 0) (by decide +kernel) (by decide +kernel) (by decide +kernel) (by decide +kernel) (e0k hE (k := 220) (c := 2) (by decide +kernel)).1 (e0k hE (k := 220) (c := 2) (by decide +kernel)).2 (by decide) (by decide +kernel) (show 0 = gm_na 9 by decide +kernel) fw_c0 (show 1 ≤ gm_ml 9 by decide +kernel) (Nat.le_of_ble_eq_true rfl) (by omega) (Nat.zero_le _) (Nat.zero_le _) ?_
    refine rw_size (s := N 4) (e0k hE (k := 220) (c := 2) (by decide +kernel)) h3 ?_
    show gm_Wp X LX d _ _ 225 23 _ [gm_vi (N 4), gm_vi (k : Int)] n K _ _ Q
    refine fw_ict (cc := .ge) (pc := 23) (off := 66) (by decide +kernel) (by decide) ⟨by omega, by omega⟩ ⟨by omega, by omega⟩ (show (N 4) ≤ (k : Int) by omega) ?_
    refine gm_sz (gm_p_load (pc := 89) (i := .iload_n 3) (sr := 0) (j := 3) (by decide +kernel) rfl rfl rfl) ?_
    have h9 : Q (.inl (some (gm_vi (cnt (fun l => ((c = 1 ∧ N 12 ≤ (N (119 + (l * 7 + 2)))) ∨ (c = 0 ∧ (N (119 + (l * 7 + 2))) < N 12)) ∧ (¬ o l = -1 ∧ o l ≤ y)) k)))) n K R M := by rw [ek]; exact hq
    exact gm_r_int (pc := 90) (by decide +kernel) (Or.inl (by decide +kernel)) h9
  | succ u ih =>
    intro k z5 hk
    have hb9 := cnt_b (p := (fun l => ((c = 1 ∧ N 12 ≤ (N (119 + (l * 7 + 2)))) ∨ (c = 0 ∧ (N (119 + (l * 7 + 2))) < N 12)) ∧ (¬ o l = -1 ∧ o l ≤ y))) k
    have ob9 := hob (k : Int) (by omega) (by omega)
    obtain ⟨r0, r1, r2, -, -, r5, -⟩ := rL (k : Int) (by omega) (by omega)
    have r0 : -1 ≤ N (119 + ((k : Int) * 7 + 0)) ∧ N (119 + ((k : Int) * 7 + 0)) < N 3 := r0
    have r1 : -1 ≤ N (119 + ((k : Int) * 7 + 1)) ∧ N (119 + ((k : Int) * 7 + 1)) < N 3 := r1
    have r2 : 0 ≤ N (119 + ((k : Int) * 7 + 2)) ∧ N (119 + ((k : Int) * 7 + 2)) < N 0 := r2
    have r5 : -1 ≤ N (119 + ((k : Int) * 7 + 5)) ∧ N (119 + ((k : Int) * 7 + 5)) < N 3 := r5
    have hi9 : -2147483648 ≤ y ∧ y < 2147483648 := hi
    refine gm_sz (gm_p_load (pc := 14) (i := .iload 4) (sr := 0) (j := 4) (by decide +kernel) rfl rfl rfl) ?_
    refine gm_sz (gm_p_load (pc := 16) (i := .aload_n 0) (sr := 2) (j := 0) (by decide +kernel) rfl rfl rfl) ?_
    refine gm_sz (fw_gr (pc := 17) (ix := 97) (ci := 0) (j := 14) (r := 220) (by decide +kernel) (e0k hE (k := 1) (c := 0) (by decide +kernel)) (by decide +kernel) (by decide +kernel) (e0r hE (k := 1) (j := 14) (r := 220) (by decide +kernel))) ?_
    refine gm_c_virt (k := 220) (ci := 2) (mj := 9) (ix := 277) (pc := 20) (as := []) (st := [gm_vi (k : Int)]) (d' := d - 1) (bc' := 0) (bs' := 0) (by decide +kernel) (by decide +kernel) (by decide +kernel) (by decide +kernel) (e0k hE (k := 220) (c := 2) (by decide +kernel)).1 (e0k hE (k := 220) (c := 2) (by decide +kernel)).2 (by decide) (by decide +kernel) (show 0 = gm_na 9 by decide +kernel) fw_c0 (show 1 ≤ gm_ml 9 by decide +kernel) (Nat.le_of_ble_eq_true rfl) (by omega) (Nat.zero_le _) (Nat.zero_le _) ?_
    refine rw_size (s := N 4) (e0k hE (k := 220) (c := 2) (by decide +kernel)) h3 ?_
    show gm_Wp X LX d _ _ 225 23 _ [gm_vi (N 4), gm_vi (k : Int)] n K _ _ Q
    refine fw_icf (cc := .ge) (pc := 23) (off := 66) (by decide +kernel) (by decide) ⟨by omega, by omega⟩ ⟨by omega, by omega⟩ (show ¬ (N 4) ≤ (k : Int) by omega) ?_
    refine gm_sz (gm_p_load (pc := 26) (i := .aload_n 0) (sr := 2) (j := 0) (by decide +kernel) rfl rfl rfl) ?_
    refine gm_sz (fw_gr (pc := 27) (ix := 23) (ci := 0) (j := 3) (r := 3) (by decide +kernel) (e0k hE (k := 1) (c := 0) (by decide +kernel)) (by decide +kernel) (by decide +kernel) (e0r hE (k := 1) (j := 3) (r := 3) (by decide +kernel))) ?_
    refine gm_sz (fw_gr (pc := 30) (ix := 203) (ci := 1) (j := 12) (r := 10) (by decide +kernel) (e0k hE (k := 3) (c := 1) (by decide +kernel)) (by decide +kernel) (by decide +kernel) (e0r hE (k := 3) (j := 12) (r := 10) (by decide +kernel))) ?_
    refine gm_sz (gm_p_load (pc := 33) (i := .iload 4) (sr := 0) (j := 4) (by decide +kernel) rfl rfl rfl) ?_
    refine gm_sz (gm_p_const (pc := 35) (i := .iconst 2) (v := gm_vi 2) (by decide +kernel) (by decide +kernel)) ?_
    refine gm_c_virt (k := 10) (ci := 2) (mj := 10) (ix := 186) (pc := 36) (as := [gm_vi (k : Int), gm_vi 2]) (st := []) (d' := d - 1) (bc' := 0) (bs' := 0) (by decide +kernel) (by decide +kernel) (by decide +kernel) (by decide +kernel) (e0k hE (k := 10) (c := 2) (by decide +kernel)).1 (e0k hE (k := 10) (c := 2) (by decide +kernel)).2 (by decide) (by decide +kernel) (show 2 = gm_na 10 by decide +kernel) (fw_c2 fw_si fw_si) (show 3 ≤ gm_ml 10 by decide +kernel) (Nat.le_of_ble_eq_true rfl) (by omega) (Nat.zero_le _) (Nat.zero_le _) ?_
    refine rw_get (s := N 4) (w := 7) (x := N (119 + ((k : Int) * 7 + 2))) (e0k hE (k := 10) (c := 2) (by decide +kernel)) (e0a hE (k := 11) (q := (0, 168)) (by decide +kernel)) (e0r hE (k := 10) (j := 2) (r := 11) (by decide +kernel)) (by decide) (ti_let hT) (hT.1 (10, 1, 7) (by decide)) ⟨by omega, by omega⟩ ⟨by omega, by omega⟩ ⟨by omega, by omega⟩ ⟨by omega, by omega⟩ (ti_aL hT (by omega) (by omega)) ?_
    show gm_Wp X LX d _ _ 225 39 _ [gm_vi (N (119 + ((k : Int) * 7 + 2)))] n K _ _ Q
    refine gm_sz (gm_p_load (pc := 39) (i := .aload_n 0) (sr := 2) (j := 0) (by decide +kernel) rfl rfl rfl) ?_
    refine gm_sz (fw_gr (pc := 40) (ix := 23) (ci := 0) (j := 3) (r := 3) (by decide +kernel) (e0k hE (k := 1) (c := 0) (by decide +kernel)) (by decide +kernel) (by decide +kernel) (e0r hE (k := 1) (j := 3) (r := 3) (by decide +kernel))) ?_
    refine gm_sz (fw_gi (pc := 43) (ix := 405) (ci := 1) (j := 4) (x := N 12) (by decide +kernel) (e0k hE (k := 3) (c := 1) (by decide +kernel)) (by decide +kernel) (by decide +kernel) (ti_str hT)) ?_
    refine fw_ic (cc := .lt) (pc := 46) (off := 7) (by decide +kernel) (by decide) ⟨by omega, by omega⟩ ⟨by omega, by omega⟩ (fun h46 => ?_) (fun h46 => ?_)
    · have h46 : (N (119 + ((k : Int) * 7 + 2))) < (N 12) := h46
      refine gm_sz (gm_p_const (pc := 53) (i := .iconst 0) (v := gm_vi 0) (by decide +kernel) (by decide +kernel)) ?_
      refine gm_sz (gm_p_stor (pc := 54) (i := .istore 5) (sr := 0) (j := 5) (by decide +kernel) rfl (show 6 ≤ _ from Nat.le_of_ble_eq_true rfl) rfl) ?_
      refine gm_sz (gm_p_load (pc := 56) (i := .iload 5) (sr := 0) (j := 5) (by decide +kernel) rfl rfl rfl) ?_
      refine gm_sz (gm_p_load (pc := 58) (i := .iload_n 2) (sr := 0) (j := 2) (by decide +kernel) rfl rfl rfl) ?_
      refine fw_ic (cc := .ne) (pc := 59) (off := 24) (by decide +kernel) (by decide) ⟨by decide, by decide⟩ ⟨by omega, by omega⟩ (fun h59 => ?_) (fun h59 => ?_)
      · have h59 : ¬ 0 = c := h59
        refine gm_sz (gm_p_iinc (pc := 83) (j := 4) (z := 1) (by decide +kernel) rfl) ?_
        refine gm_sz (gm_p_goto (pc := 86) (off := (-72)) (by decide +kernel) (by decide)) ?_
        have e8 : ((k + 1 : Nat) : Int) = (k : Int) + 1 := by omega
        have e9 : cnt (fun l => ((c = 1 ∧ N 12 ≤ (N (119 + (l * 7 + 2)))) ∨ (c = 0 ∧ (N (119 + (l * 7 + 2))) < N 12)) ∧ (¬ o l = -1 ∧ o l ≤ y)) (k + 1) = cnt (fun l => ((c = 1 ∧ N 12 ≤ (N (119 + (l * 7 + 2)))) ∨ (c = 0 ∧ (N (119 + (l * 7 + 2))) < N 12)) ∧ (¬ o l = -1 ∧ o l ≤ y)) k := cnt_f (p := (fun l => ((c = 1 ∧ N 12 ≤ (N (119 + (l * 7 + 2)))) ∨ (c = 0 ∧ (N (119 + (l * 7 + 2))) < N 12)) ∧ (¬ o l = -1 ∧ o l ≤ y))) (show ¬ (((c = 1 ∧ N 12 ≤ (N (119 + ((k : Int) * 7 + 2)))) ∨ (c = 0 ∧ (N (119 + ((k : Int) * 7 + 2))) < N 12)) ∧ (¬ o (k : Int) = -1 ∧ o (k : Int) ≤ y)) from by omega)
        have h9 := ih (k + 1) (some (gm_vi 0)) (by omega)
        rw [e9, e8] at h9
        exact h9
      · have h59 : 0 = c := Classical.not_not.mp h59
        refine gm_sz (gm_p_load (pc := 62) (i := .aload_n 0) (sr := 2) (j := 0) (by decide +kernel) rfl rfl rfl) ?_
        refine gm_sz (gm_p_load (pc := 63) (i := .aload_n 0) (sr := 2) (j := 0) (by decide +kernel) rfl rfl rfl) ?_
        refine gm_sz (fw_gr (pc := 64) (ix := 97) (ci := 0) (j := 14) (r := 220) (by decide +kernel) (e0k hE (k := 1) (c := 0) (by decide +kernel)) (by decide +kernel) (by decide +kernel) (e0r hE (k := 1) (j := 14) (r := 220) (by decide +kernel))) ?_
        refine gm_sz (gm_p_load (pc := 67) (i := .iload 4) (sr := 0) (j := 4) (by decide +kernel) rfl rfl rfl) ?_
        refine gm_sz (gm_p_const (pc := 69) (i := .iconst 0) (v := gm_vi 0) (by decide +kernel) (by decide +kernel)) ?_
        refine gm_c_virt (k := 220) (ci := 2) (mj := 10) (ix := 186) (pc := 70) (as := [gm_vi (k : Int), gm_vi 0]) (st := [gm_vr 1]) (d' := d - 1) (bc' := 0) (bs' := 0) (by decide +kernel) (by decide +kernel) (by decide +kernel) (by decide +kernel) (e0k hE (k := 220) (c := 2) (by decide +kernel)).1 (e0k hE (k := 220) (c := 2) (by decide +kernel)).2 (by decide) (by decide +kernel) (show 2 = gm_na 10 by decide +kernel) (fw_c2 fw_si fw_si) (show 3 ≤ gm_ml 10 by decide +kernel) (Nat.le_of_ble_eq_true rfl) (by omega) (Nat.zero_le _) (Nat.zero_le _) ?_
        refine rw_get (s := N 4) (w := 2) (x := o (k : Int)) (e0k hE (k := 220) (c := 2) (by decide +kernel)) (e0a hE (k := 221) (q := (0, 48)) (by decide +kernel)) (e0r hE (k := 220) (j := 2) (r := 221) (by decide +kernel)) (by decide) h3 (hT.1 (220, 1, 2) (by decide)) ⟨by omega, by omega⟩ ⟨by omega, by omega⟩ ⟨by omega, by omega⟩ ⟨by omega, by omega⟩ (ho (k : Int) (by omega) (by omega)) ?_
        show gm_Wp X LX d _ _ 225 73 _ [gm_vi (o (k : Int)), gm_vr 1] n K _ _ Q
        refine gm_sz (gm_p_load (pc := 73) (i := .iload_n 1) (sr := 0) (j := 1) (by decide +kernel) rfl rfl rfl) ?_
        refine gm_c_virt (k := 1) (ci := 0) (mj := 67) (ix := 408) (pc := 74) (as := [gm_vi (o (k : Int)), gm_vi y]) (st := []) (d' := d - 1) (bc' := 0) (bs' := 0) (by decide +kernel) (by decide +kernel) (by decide +kernel) (by decide +kernel) (e0k hE (k := 1) (c := 0) (by decide +kernel)).1 (e0k hE (k := 1) (c := 0) (by decide +kernel)).2 (by decide) (by decide +kernel) (show 2 = gm_na 67 by decide +kernel) (fw_c2 fw_si fw_si) (show 3 ≤ gm_ml 67 by decide +kernel) (Nat.le_of_ble_eq_true rfl) (by omega) (Nat.zero_le _) (Nat.zero_le _) ?_
        refine wt_67 ⟨by omega, by omega⟩ ⟨by omega, by omega⟩ (fun u74 => ?_) (fun u74 v74 => ?_) (fun u74 v74 => ?_)
        · show gm_Wp X LX d _ _ 225 77 _ [gm_vi 0] n K _ _ Q
          refine fw_iftd (cc := .eq) (pc := 77) (off := 6) (by decide +kernel) (by decide) ⟨by decide, by decide⟩ (by decide) ?_
          refine gm_sz (gm_p_iinc (pc := 83) (j := 4) (z := 1) (by decide +kernel) rfl) ?_
          refine gm_sz (gm_p_goto (pc := 86) (off := (-72)) (by decide +kernel) (by decide)) ?_
          have e8 : ((k + 1 : Nat) : Int) = (k : Int) + 1 := by omega
          have e9 : cnt (fun l => ((c = 1 ∧ N 12 ≤ (N (119 + (l * 7 + 2)))) ∨ (c = 0 ∧ (N (119 + (l * 7 + 2))) < N 12)) ∧ (¬ o l = -1 ∧ o l ≤ y)) (k + 1) = cnt (fun l => ((c = 1 ∧ N 12 ≤ (N (119 + (l * 7 + 2)))) ∨ (c = 0 ∧ (N (119 + (l * 7 + 2))) < N 12)) ∧ (¬ o l = -1 ∧ o l ≤ y)) k := cnt_f (p := (fun l => ((c = 1 ∧ N 12 ≤ (N (119 + (l * 7 + 2)))) ∨ (c = 0 ∧ (N (119 + (l * 7 + 2))) < N 12)) ∧ (¬ o l = -1 ∧ o l ≤ y))) (show ¬ (((c = 1 ∧ N 12 ≤ (N (119 + ((k : Int) * 7 + 2)))) ∨ (c = 0 ∧ (N (119 + ((k : Int) * 7 + 2))) < N 12)) ∧ (¬ o (k : Int) = -1 ∧ o (k : Int) ≤ y)) from by omega)
          have h9 := ih (k + 1) (some (gm_vi 0)) (by omega)
          rw [e9, e8] at h9
          exact h9
        · show gm_Wp X LX d _ _ 225 77 _ [gm_vi 0] n K _ _ Q
          refine fw_iftd (cc := .eq) (pc := 77) (off := 6) (by decide +kernel) (by decide) ⟨by decide, by decide⟩ (by decide) ?_
          refine gm_sz (gm_p_iinc (pc := 83) (j := 4) (z := 1) (by decide +kernel) rfl) ?_
          refine gm_sz (gm_p_goto (pc := 86) (off := (-72)) (by decide +kernel) (by decide)) ?_
          have e8 : ((k + 1 : Nat) : Int) = (k : Int) + 1 := by omega
          have e9 : cnt (fun l => ((c = 1 ∧ N 12 ≤ (N (119 + (l * 7 + 2)))) ∨ (c = 0 ∧ (N (119 + (l * 7 + 2))) < N 12)) ∧ (¬ o l = -1 ∧ o l ≤ y)) (k + 1) = cnt (fun l => ((c = 1 ∧ N 12 ≤ (N (119 + (l * 7 + 2)))) ∨ (c = 0 ∧ (N (119 + (l * 7 + 2))) < N 12)) ∧ (¬ o l = -1 ∧ o l ≤ y)) k := cnt_f (p := (fun l => ((c = 1 ∧ N 12 ≤ (N (119 + (l * 7 + 2)))) ∨ (c = 0 ∧ (N (119 + (l * 7 + 2))) < N 12)) ∧ (¬ o l = -1 ∧ o l ≤ y))) (show ¬ (((c = 1 ∧ N 12 ≤ (N (119 + ((k : Int) * 7 + 2)))) ∨ (c = 0 ∧ (N (119 + ((k : Int) * 7 + 2))) < N 12)) ∧ (¬ o (k : Int) = -1 ∧ o (k : Int) ≤ y)) from by omega)
          have h9 := ih (k + 1) (some (gm_vi 0)) (by omega)
          rw [e9, e8] at h9
          exact h9
        · show gm_Wp X LX d _ _ 225 77 _ [gm_vi 1] n K _ _ Q
          refine fw_iffd (cc := .eq) (pc := 77) (off := 6) (by decide +kernel) (by decide) ⟨by decide, by decide⟩ (by decide) ?_
          refine gm_sz (gm_p_iinc (pc := 80) (j := 3) (z := 1) (by decide +kernel) rfl) ?_
          refine gm_sz (gm_p_iinc (pc := 83) (j := 4) (z := 1) (by decide +kernel) rfl) ?_
          refine gm_sz (gm_p_goto (pc := 86) (off := (-72)) (by decide +kernel) (by decide)) ?_
          have e8 : ((k + 1 : Nat) : Int) = (k : Int) + 1 := by omega
          have e9 : cnt (fun l => ((c = 1 ∧ N 12 ≤ (N (119 + (l * 7 + 2)))) ∨ (c = 0 ∧ (N (119 + (l * 7 + 2))) < N 12)) ∧ (¬ o l = -1 ∧ o l ≤ y)) (k + 1) = cnt (fun l => ((c = 1 ∧ N 12 ≤ (N (119 + (l * 7 + 2)))) ∨ (c = 0 ∧ (N (119 + (l * 7 + 2))) < N 12)) ∧ (¬ o l = -1 ∧ o l ≤ y)) k + 1 := cnt_t (p := (fun l => ((c = 1 ∧ N 12 ≤ (N (119 + (l * 7 + 2)))) ∨ (c = 0 ∧ (N (119 + (l * 7 + 2))) < N 12)) ∧ (¬ o l = -1 ∧ o l ≤ y))) (show ((c = 1 ∧ N 12 ≤ (N (119 + ((k : Int) * 7 + 2)))) ∨ (c = 0 ∧ (N (119 + ((k : Int) * 7 + 2))) < N 12)) ∧ (¬ o (k : Int) = -1 ∧ o (k : Int) ≤ y) from by omega)
          have h9 := ih (k + 1) (some (gm_vi 0)) (by omega)
          rw [e9, e8] at h9
          exact h9
    · have h46 : ¬ (N (119 + ((k : Int) * 7 + 2))) < (N 12) := h46
      refine gm_sz (gm_p_const (pc := 49) (i := .iconst 1) (v := gm_vi 1) (by decide +kernel) (by decide +kernel)) ?_
      refine gm_sz (gm_p_goto (pc := 50) (off := 4) (by decide +kernel) (by decide)) ?_
      refine gm_sz (gm_p_stor (pc := 54) (i := .istore 5) (sr := 0) (j := 5) (by decide +kernel) rfl (show 6 ≤ _ from Nat.le_of_ble_eq_true rfl) rfl) ?_
      refine gm_sz (gm_p_load (pc := 56) (i := .iload 5) (sr := 0) (j := 5) (by decide +kernel) rfl rfl rfl) ?_
      refine gm_sz (gm_p_load (pc := 58) (i := .iload_n 2) (sr := 0) (j := 2) (by decide +kernel) rfl rfl rfl) ?_
      refine fw_ic (cc := .ne) (pc := 59) (off := 24) (by decide +kernel) (by decide) ⟨by decide, by decide⟩ ⟨by omega, by omega⟩ (fun h59 => ?_) (fun h59 => ?_)
      · have h59 : ¬ 1 = c := h59
        refine gm_sz (gm_p_iinc (pc := 83) (j := 4) (z := 1) (by decide +kernel) rfl) ?_
        refine gm_sz (gm_p_goto (pc := 86) (off := (-72)) (by decide +kernel) (by decide)) ?_
        have e8 : ((k + 1 : Nat) : Int) = (k : Int) + 1 := by omega
        have e9 : cnt (fun l => ((c = 1 ∧ N 12 ≤ (N (119 + (l * 7 + 2)))) ∨ (c = 0 ∧ (N (119 + (l * 7 + 2))) < N 12)) ∧ (¬ o l = -1 ∧ o l ≤ y)) (k + 1) = cnt (fun l => ((c = 1 ∧ N 12 ≤ (N (119 + (l * 7 + 2)))) ∨ (c = 0 ∧ (N (119 + (l * 7 + 2))) < N 12)) ∧ (¬ o l = -1 ∧ o l ≤ y)) k := cnt_f (p := (fun l => ((c = 1 ∧ N 12 ≤ (N (119 + (l * 7 + 2)))) ∨ (c = 0 ∧ (N (119 + (l * 7 + 2))) < N 12)) ∧ (¬ o l = -1 ∧ o l ≤ y))) (show ¬ (((c = 1 ∧ N 12 ≤ (N (119 + ((k : Int) * 7 + 2)))) ∨ (c = 0 ∧ (N (119 + ((k : Int) * 7 + 2))) < N 12)) ∧ (¬ o (k : Int) = -1 ∧ o (k : Int) ≤ y)) from by omega)
        have h9 := ih (k + 1) (some (gm_vi 1)) (by omega)
        rw [e9, e8] at h9
        exact h9
      · have h59 : 1 = c := Classical.not_not.mp h59
        refine gm_sz (gm_p_load (pc := 62) (i := .aload_n 0) (sr := 2) (j := 0) (by decide +kernel) rfl rfl rfl) ?_
        refine gm_sz (gm_p_load (pc := 63) (i := .aload_n 0) (sr := 2) (j := 0) (by decide +kernel) rfl rfl rfl) ?_
        refine gm_sz (fw_gr (pc := 64) (ix := 97) (ci := 0) (j := 14) (r := 220) (by decide +kernel) (e0k hE (k := 1) (c := 0) (by decide +kernel)) (by decide +kernel) (by decide +kernel) (e0r hE (k := 1) (j := 14) (r := 220) (by decide +kernel))) ?_
        refine gm_sz (gm_p_load (pc := 67) (i := .iload 4) (sr := 0) (j := 4) (by decide +kernel) rfl rfl rfl) ?_
        refine gm_sz (gm_p_const (pc := 69) (i := .iconst 0) (v := gm_vi 0) (by decide +kernel) (by decide +kernel)) ?_
        refine gm_c_virt (k := 220) (ci := 2) (mj := 10) (ix := 186) (pc := 70) (as := [gm_vi (k : Int), gm_vi 0]) (st := [gm_vr 1]) (d' := d - 1) (bc' := 0) (bs' := 0) (by decide +kernel) (by decide +kernel) (by decide +kernel) (by decide +kernel) (e0k hE (k := 220) (c := 2) (by decide +kernel)).1 (e0k hE (k := 220) (c := 2) (by decide +kernel)).2 (by decide) (by decide +kernel) (show 2 = gm_na 10 by decide +kernel) (fw_c2 fw_si fw_si) (show 3 ≤ gm_ml 10 by decide +kernel) (Nat.le_of_ble_eq_true rfl) (by omega) (Nat.zero_le _) (Nat.zero_le _) ?_
        refine rw_get (s := N 4) (w := 2) (x := o (k : Int)) (e0k hE (k := 220) (c := 2) (by decide +kernel)) (e0a hE (k := 221) (q := (0, 48)) (by decide +kernel)) (e0r hE (k := 220) (j := 2) (r := 221) (by decide +kernel)) (by decide) h3 (hT.1 (220, 1, 2) (by decide)) ⟨by omega, by omega⟩ ⟨by omega, by omega⟩ ⟨by omega, by omega⟩ ⟨by omega, by omega⟩ (ho (k : Int) (by omega) (by omega)) ?_
        show gm_Wp X LX d _ _ 225 73 _ [gm_vi (o (k : Int)), gm_vr 1] n K _ _ Q
        refine gm_sz (gm_p_load (pc := 73) (i := .iload_n 1) (sr := 0) (j := 1) (by decide +kernel) rfl rfl rfl) ?_
        refine gm_c_virt (k := 1) (ci := 0) (mj := 67) (ix := 408) (pc := 74) (as := [gm_vi (o (k : Int)), gm_vi y]) (st := []) (d' := d - 1) (bc' := 0) (bs' := 0) (by decide +kernel) (by decide +kernel) (by decide +kernel) (by decide +kernel) (e0k hE (k := 1) (c := 0) (by decide +kernel)).1 (e0k hE (k := 1) (c := 0) (by decide +kernel)).2 (by decide) (by decide +kernel) (show 2 = gm_na 67 by decide +kernel) (fw_c2 fw_si fw_si) (show 3 ≤ gm_ml 67 by decide +kernel) (Nat.le_of_ble_eq_true rfl) (by omega) (Nat.zero_le _) (Nat.zero_le _) ?_
        refine wt_67 ⟨by omega, by omega⟩ ⟨by omega, by omega⟩ (fun u74 => ?_) (fun u74 v74 => ?_) (fun u74 v74 => ?_)
        · show gm_Wp X LX d _ _ 225 77 _ [gm_vi 0] n K _ _ Q
          refine fw_iftd (cc := .eq) (pc := 77) (off := 6) (by decide +kernel) (by decide) ⟨by decide, by decide⟩ (by decide) ?_
          refine gm_sz (gm_p_iinc (pc := 83) (j := 4) (z := 1) (by decide +kernel) rfl) ?_
          refine gm_sz (gm_p_goto (pc := 86) (off := (-72)) (by decide +kernel) (by decide)) ?_
          have e8 : ((k + 1 : Nat) : Int) = (k : Int) + 1 := by omega
          have e9 : cnt (fun l => ((c = 1 ∧ N 12 ≤ (N (119 + (l * 7 + 2)))) ∨ (c = 0 ∧ (N (119 + (l * 7 + 2))) < N 12)) ∧ (¬ o l = -1 ∧ o l ≤ y)) (k + 1) = cnt (fun l => ((c = 1 ∧ N 12 ≤ (N (119 + (l * 7 + 2)))) ∨ (c = 0 ∧ (N (119 + (l * 7 + 2))) < N 12)) ∧ (¬ o l = -1 ∧ o l ≤ y)) k := cnt_f (p := (fun l => ((c = 1 ∧ N 12 ≤ (N (119 + (l * 7 + 2)))) ∨ (c = 0 ∧ (N (119 + (l * 7 + 2))) < N 12)) ∧ (¬ o l = -1 ∧ o l ≤ y))) (show ¬ (((c = 1 ∧ N 12 ≤ (N (119 + ((k : Int) * 7 + 2)))) ∨ (c = 0 ∧ (N (119 + ((k : Int) * 7 + 2))) < N 12)) ∧ (¬ o (k : Int) = -1 ∧ o (k : Int) ≤ y)) from by omega)
          have h9 := ih (k + 1) (some (gm_vi 1)) (by omega)
          rw [e9, e8] at h9
          exact h9
        · show gm_Wp X LX d _ _ 225 77 _ [gm_vi 0] n K _ _ Q
          refine fw_iftd (cc := .eq) (pc := 77) (off := 6) (by decide +kernel) (by decide) ⟨by decide, by decide⟩ (by decide) ?_
          refine gm_sz (gm_p_iinc (pc := 83) (j := 4) (z := 1) (by decide +kernel) rfl) ?_
          refine gm_sz (gm_p_goto (pc := 86) (off := (-72)) (by decide +kernel) (by decide)) ?_
          have e8 : ((k + 1 : Nat) : Int) = (k : Int) + 1 := by omega
          have e9 : cnt (fun l => ((c = 1 ∧ N 12 ≤ (N (119 + (l * 7 + 2)))) ∨ (c = 0 ∧ (N (119 + (l * 7 + 2))) < N 12)) ∧ (¬ o l = -1 ∧ o l ≤ y)) (k + 1) = cnt (fun l => ((c = 1 ∧ N 12 ≤ (N (119 + (l * 7 + 2)))) ∨ (c = 0 ∧ (N (119 + (l * 7 + 2))) < N 12)) ∧ (¬ o l = -1 ∧ o l ≤ y)) k := cnt_f (p := (fun l => ((c = 1 ∧ N 12 ≤ (N (119 + (l * 7 + 2)))) ∨ (c = 0 ∧ (N (119 + (l * 7 + 2))) < N 12)) ∧ (¬ o l = -1 ∧ o l ≤ y))) (show ¬ (((c = 1 ∧ N 12 ≤ (N (119 + ((k : Int) * 7 + 2)))) ∨ (c = 0 ∧ (N (119 + ((k : Int) * 7 + 2))) < N 12)) ∧ (¬ o (k : Int) = -1 ∧ o (k : Int) ≤ y)) from by omega)
          have h9 := ih (k + 1) (some (gm_vi 1)) (by omega)
          rw [e9, e8] at h9
          exact h9
        · show gm_Wp X LX d _ _ 225 77 _ [gm_vi 1] n K _ _ Q
          refine fw_iffd (cc := .eq) (pc := 77) (off := 6) (by decide +kernel) (by decide) ⟨by decide, by decide⟩ (by decide) ?_
          refine gm_sz (gm_p_iinc (pc := 80) (j := 3) (z := 1) (by decide +kernel) rfl) ?_
          refine gm_sz (gm_p_iinc (pc := 83) (j := 4) (z := 1) (by decide +kernel) rfl) ?_
          refine gm_sz (gm_p_goto (pc := 86) (off := (-72)) (by decide +kernel) (by decide)) ?_
          have e8 : ((k + 1 : Nat) : Int) = (k : Int) + 1 := by omega
          have e9 : cnt (fun l => ((c = 1 ∧ N 12 ≤ (N (119 + (l * 7 + 2)))) ∨ (c = 0 ∧ (N (119 + (l * 7 + 2))) < N 12)) ∧ (¬ o l = -1 ∧ o l ≤ y)) (k + 1) = cnt (fun l => ((c = 1 ∧ N 12 ≤ (N (119 + (l * 7 + 2)))) ∨ (c = 0 ∧ (N (119 + (l * 7 + 2))) < N 12)) ∧ (¬ o l = -1 ∧ o l ≤ y)) k + 1 := cnt_t (p := (fun l => ((c = 1 ∧ N 12 ≤ (N (119 + (l * 7 + 2)))) ∨ (c = 0 ∧ (N (119 + (l * 7 + 2))) < N 12)) ∧ (¬ o l = -1 ∧ o l ≤ y))) (show ((c = 1 ∧ N 12 ≤ (N (119 + ((k : Int) * 7 + 2)))) ∨ (c = 0 ∧ (N (119 + ((k : Int) * 7 + 2))) < N 12)) ∧ (¬ o (k : Int) = -1 ∧ o (k : Int) ≤ y) from by omega)
          have h9 := ih (k + 1) (some (gm_vi 1)) (by omega)
          rw [e9, e8] at h9
          exact h9
theorem st_r (hd : 4 ≤ d) (hE : E0 n K R) (hT : TR N h M) (hN : NR N) (ho : ∀ l, 0 ≤ l → l < N 4 → M 238 l = o l) (hob : ∀ l, 0 ≤ l → l < N 4 → -1 ≤ o l ∧ o l ≤ 299) (hi : gm_ir y) (hi2 : 0 ≤ c ∧ c ≤ 1) (hq : Q (.inl (some (gm_vi (cnt (fun l => ((c = 1 ∧ N 12 ≤ (N (119 + (l * 7 + 2)))) ∨ (c = 0 ∧ (N (119 + (l * 7 + 2))) < N 12)) ∧ (¬ o l = -1 ∧ o l ≤ y)) (N 4).toNat)))) n K R M) : ∀ (u k : Nat), (k : Int) + (u : Int) = N 4 → gm_Wp X LX d bc bs 363 28 [some (gm_vr 226), some (gm_vi y), some (gm_vi c), some (gm_vi (cnt (fun l => ((c = 1 ∧ N 12 ≤ (N (119 + (l * 7 + 2)))) ∨ (c = 0 ∧ (N (119 + (l * 7 + 2))) < N 12)) ∧ (¬ o l = -1 ∧ o l ≤ y)) k)), some (gm_vi (k : Int))] [] n K R M Q := by
  obtain ⟨⟨⟨a0, b0⟩, ⟨a1, b1⟩, ⟨a10, b10⟩, ⟨a11, b11⟩, ⟨a12, b12⟩, a9, b9⟩, ⟨⟨a2, b2⟩, ⟨a5, b5⟩, ⟨a3, b3⟩, ⟨a4, b4⟩, ⟨a6, b6⟩, ⟨a14, b14⟩, ⟨a7, b7⟩, a13, b13⟩, rF, rP, rL⟩ := id hN
  intro u
  induction u with
  | zero =>
    intro k hk
    have ek : k = (N 4).toNat := by omega
    have hb9 := cnt_b (p := (fun l => ((c = 1 ∧ N 12 ≤ (N (119 + (l * 7 + 2)))) ∨ (c = 0 ∧ (N (119 + (l * 7 + 2))) < N 12)) ∧ (¬ o l = -1 ∧ o l ≤ y))) k
    refine gm_sz (gm_p_load (pc := 28) (i := .iload 4) (sr := 0) (j := 4) (by decide +kernel) rfl rfl rfl) ?_
    refine gm_sz (gm_p_load (pc := 30) (i := .aload_n 0) (sr := 2) (j := 0) (by decide +kernel) rfl rfl rfl) ?_
    refine gm_c_virt (k := 226) (ci := 11) (mj := 254) (ix := 100) (pc := 31) (as := []) (st := [gm_vi (k : Int)]) (d' := d - 1) (bc' := 0) (bs' := 0) (by decide +kernel) (by decide +kernel) (by decide +kernel) (by decide +kernel) (e0k hE (k := 226) (c := 11) (by decide +kernel)).1 (e0k hE (k := 226) (c := 11) (by decide +kernel)).2 (by decide) (by decide +kernel) (show 0 = gm_na 254 by decide +kernel) fw_c0 (show 1 ≤ gm_ml 254 by decide +kernel) (Nat.le_of_ble_eq_true rfl) (by omega) (Nat.zero_le _) (Nat.zero_le _) ?_
    refine re_let hE hT hN ?_
    show gm_Wp X LX d _ _ 363 34 _ [gm_vi (N 4), gm_vi (k : Int)] n K _ _ Q
    refine fw_ict (cc := .ge) (pc := 34) (off := 64) (by decide +kernel) (by decide) ⟨by omega, by omega⟩ ⟨by omega, by omega⟩ (show (N 4) ≤ (k : Int) by omega) ?_
    refine gm_sz (gm_p_load (pc := 98) (i := .iload_n 3) (sr := 0) (j := 3) (by decide +kernel) rfl rfl rfl) ?_
    have h9 : Q (.inl (some (gm_vi (cnt (fun l => ((c = 1 ∧ N 12 ≤ (N (119 + (l * 7 + 2)))) ∨ (c = 0 ∧ (N (119 + (l * 7 + 2))) < N 12)) ∧ (¬ o l = -1 ∧ o l ≤ y)) k)))) n K R M := by rw [ek]; exact hq
    exact gm_r_int (pc := 99) (by decide +kernel) (Or.inl (by decide +kernel)) h9
  | succ u ih =>
    intro k hk
    have hb9 := cnt_b (p := (fun l => ((c = 1 ∧ N 12 ≤ (N (119 + (l * 7 + 2)))) ∨ (c = 0 ∧ (N (119 + (l * 7 + 2))) < N 12)) ∧ (¬ o l = -1 ∧ o l ≤ y))) k
    have ob9 := hob (k : Int) (by omega) (by omega)
    obtain ⟨r0, r1, r2, -, -, r5, -⟩ := rL (k : Int) (by omega) (by omega)
    have r0 : -1 ≤ N (119 + ((k : Int) * 7 + 0)) ∧ N (119 + ((k : Int) * 7 + 0)) < N 3 := r0
    have r1 : -1 ≤ N (119 + ((k : Int) * 7 + 1)) ∧ N (119 + ((k : Int) * 7 + 1)) < N 3 := r1
    have r2 : 0 ≤ N (119 + ((k : Int) * 7 + 2)) ∧ N (119 + ((k : Int) * 7 + 2)) < N 0 := r2
    have r5 : -1 ≤ N (119 + ((k : Int) * 7 + 5)) ∧ N (119 + ((k : Int) * 7 + 5)) < N 3 := r5
    refine gm_sz (gm_p_load (pc := 28) (i := .iload 4) (sr := 0) (j := 4) (by decide +kernel) rfl rfl rfl) ?_
    refine gm_sz (gm_p_load (pc := 30) (i := .aload_n 0) (sr := 2) (j := 0) (by decide +kernel) rfl rfl rfl) ?_
    refine gm_c_virt (k := 226) (ci := 11) (mj := 254) (ix := 100) (pc := 31) (as := []) (st := [gm_vi (k : Int)]) (d' := d - 1) (bc' := 0) (bs' := 0) (by decide +kernel) (by decide +kernel) (by decide +kernel) (by decide +kernel) (e0k hE (k := 226) (c := 11) (by decide +kernel)).1 (e0k hE (k := 226) (c := 11) (by decide +kernel)).2 (by decide) (by decide +kernel) (show 0 = gm_na 254 by decide +kernel) fw_c0 (show 1 ≤ gm_ml 254 by decide +kernel) (Nat.le_of_ble_eq_true rfl) (by omega) (Nat.zero_le _) (Nat.zero_le _) ?_
    refine re_let hE hT hN ?_
    show gm_Wp X LX d _ _ 363 34 _ [gm_vi (N 4), gm_vi (k : Int)] n K _ _ Q
    refine fw_icf (cc := .ge) (pc := 34) (off := 64) (by decide +kernel) (by decide) ⟨by omega, by omega⟩ ⟨by omega, by omega⟩ (show ¬ (N 4) ≤ (k : Int) by omega) ?_
    refine gm_sz (gm_p_load (pc := 37) (i := .iload_n 3) (sr := 0) (j := 3) (by decide +kernel) rfl rfl rfl) ?_
    refine gm_sz (gm_p_load (pc := 38) (i := .aload_n 0) (sr := 2) (j := 0) (by decide +kernel) rfl rfl rfl) ?_
    refine gm_sz (fw_gr (pc := 39) (ix := 51) (ci := 11) (j := 31) (r := 238) (by decide +kernel) (e0k hE (k := 226) (c := 11) (by decide +kernel)) (by decide +kernel) (by decide +kernel) (e0r hE (k := 226) (j := 31) (r := 238) (by decide +kernel))) ?_
    refine gm_sz (gm_p_load (pc := 42) (i := .iload 4) (sr := 0) (j := 4) (by decide +kernel) rfl rfl rfl) ?_
    refine gm_sz (fw_ia (pc := 44) (k := 238) (len := 24) (e0 := (k : Int)) (x := o (k : Int)) (by decide +kernel) (e0a hE (k := 238) (q := (0, 24)) (by decide +kernel)).1 (e0a hE (k := 238) (q := (0, 24)) (by decide +kernel)).2 (by decide) ⟨by omega, by omega⟩ (ho (k : Int) (by omega) (by omega))) ?_
    refine fw_if (cc := .lt) (pc := 45) (off := 44) (by decide +kernel) (by decide) ⟨by omega, by omega⟩ (fun h45 => ?_) (fun h45 => ?_)
    · have h45 : (o (k : Int)) < 0 := h45
      refine gm_sz (gm_p_const (pc := 89) (i := .iconst 0) (v := gm_vi 0) (by decide +kernel) (by decide +kernel)) ?_
      refine gm_sz (gm_p_bin (pc := 90) (i := .iadd) (f := fun x y => x + y) (by decide +kernel) rfl) ?_
      refine gm_sz (gm_p_stor (pc := 91) (i := .istore_n 3) (sr := 0) (j := 3) (by decide +kernel) rfl (show 4 ≤ _ from Nat.le_of_ble_eq_true rfl) rfl) ?_
      refine gm_sz (gm_p_iinc (pc := 92) (j := 4) (z := 1) (by decide +kernel) rfl) ?_
      refine gm_sz (gm_p_goto (pc := 95) (off := (-67)) (by decide +kernel) (by decide)) ?_
      rw [Int.add_zero]
      have e8 : ((k + 1 : Nat) : Int) = (k : Int) + 1 := by omega
      have e9 : cnt (fun l => ((c = 1 ∧ N 12 ≤ (N (119 + (l * 7 + 2)))) ∨ (c = 0 ∧ (N (119 + (l * 7 + 2))) < N 12)) ∧ (¬ o l = -1 ∧ o l ≤ y)) (k + 1) = cnt (fun l => ((c = 1 ∧ N 12 ≤ (N (119 + (l * 7 + 2)))) ∨ (c = 0 ∧ (N (119 + (l * 7 + 2))) < N 12)) ∧ (¬ o l = -1 ∧ o l ≤ y)) k := cnt_f (p := (fun l => ((c = 1 ∧ N 12 ≤ (N (119 + (l * 7 + 2)))) ∨ (c = 0 ∧ (N (119 + (l * 7 + 2))) < N 12)) ∧ (¬ o l = -1 ∧ o l ≤ y))) (show ¬ (((c = 1 ∧ N 12 ≤ (N (119 + ((k : Int) * 7 + 2)))) ∨ (c = 0 ∧ (N (119 + ((k : Int) * 7 + 2))) < N 12)) ∧ (¬ o (k : Int) = -1 ∧ o (k : Int) ≤ y)) from by omega)
      have h9 := ih (k + 1) (by omega)
      rw [e9, e8] at h9
      exact h9
    · have h45 : ¬ (o (k : Int)) < 0 := h45
      refine gm_sz (gm_p_load (pc := 48) (i := .aload_n 0) (sr := 2) (j := 0) (by decide +kernel) rfl rfl rfl) ?_
      refine gm_sz (fw_gr (pc := 49) (ix := 51) (ci := 11) (j := 31) (r := 238) (by decide +kernel) (e0k hE (k := 226) (c := 11) (by decide +kernel)) (by decide +kernel) (by decide +kernel) (e0r hE (k := 226) (j := 31) (r := 238) (by decide +kernel))) ?_
      refine gm_sz (gm_p_load (pc := 52) (i := .iload 4) (sr := 0) (j := 4) (by decide +kernel) rfl rfl rfl) ?_
      refine gm_sz (fw_ia (pc := 54) (k := 238) (len := 24) (e0 := (k : Int)) (x := o (k : Int)) (by decide +kernel) (e0a hE (k := 238) (q := (0, 24)) (by decide +kernel)).1 (e0a hE (k := 238) (q := (0, 24)) (by decide +kernel)).2 (by decide) ⟨by omega, by omega⟩ (ho (k : Int) (by omega) (by omega))) ?_
      refine gm_sz (gm_p_load (pc := 55) (i := .iload_n 1) (sr := 0) (j := 1) (by decide +kernel) rfl rfl rfl) ?_
      refine fw_ic (cc := .gt) (pc := 56) (off := 33) (by decide +kernel) (by decide) ⟨by omega, by omega⟩ hi (fun h56 => ?_) (fun h56 => ?_)
      · have h56 : y < (o (k : Int)) := h56
        refine gm_sz (gm_p_const (pc := 89) (i := .iconst 0) (v := gm_vi 0) (by decide +kernel) (by decide +kernel)) ?_
        refine gm_sz (gm_p_bin (pc := 90) (i := .iadd) (f := fun x y => x + y) (by decide +kernel) rfl) ?_
        refine gm_sz (gm_p_stor (pc := 91) (i := .istore_n 3) (sr := 0) (j := 3) (by decide +kernel) rfl (show 4 ≤ _ from Nat.le_of_ble_eq_true rfl) rfl) ?_
        refine gm_sz (gm_p_iinc (pc := 92) (j := 4) (z := 1) (by decide +kernel) rfl) ?_
        refine gm_sz (gm_p_goto (pc := 95) (off := (-67)) (by decide +kernel) (by decide)) ?_
        rw [Int.add_zero]
        have e8 : ((k + 1 : Nat) : Int) = (k : Int) + 1 := by omega
        have e9 : cnt (fun l => ((c = 1 ∧ N 12 ≤ (N (119 + (l * 7 + 2)))) ∨ (c = 0 ∧ (N (119 + (l * 7 + 2))) < N 12)) ∧ (¬ o l = -1 ∧ o l ≤ y)) (k + 1) = cnt (fun l => ((c = 1 ∧ N 12 ≤ (N (119 + (l * 7 + 2)))) ∨ (c = 0 ∧ (N (119 + (l * 7 + 2))) < N 12)) ∧ (¬ o l = -1 ∧ o l ≤ y)) k := cnt_f (p := (fun l => ((c = 1 ∧ N 12 ≤ (N (119 + (l * 7 + 2)))) ∨ (c = 0 ∧ (N (119 + (l * 7 + 2))) < N 12)) ∧ (¬ o l = -1 ∧ o l ≤ y))) (show ¬ (((c = 1 ∧ N 12 ≤ (N (119 + ((k : Int) * 7 + 2)))) ∨ (c = 0 ∧ (N (119 + ((k : Int) * 7 + 2))) < N 12)) ∧ (¬ o (k : Int) = -1 ∧ o (k : Int) ≤ y)) from by omega)
        have h9 := ih (k + 1) (by omega)
        rw [e9, e8] at h9
        exact h9
      · have h56 : ¬ y < (o (k : Int)) := h56
        refine gm_sz (gm_p_load (pc := 59) (i := .aload_n 0) (sr := 2) (j := 0) (by decide +kernel) rfl rfl rfl) ?_
        refine gm_sz (gm_p_load (pc := 60) (i := .iload 4) (sr := 0) (j := 4) (by decide +kernel) rfl rfl rfl) ?_
        refine gm_sz (gm_p_const (pc := 62) (i := .iconst 2) (v := gm_vi 2) (by decide +kernel) (by decide +kernel)) ?_
        refine gm_c_virt (k := 226) (ci := 11) (mj := 301) (ix := 82) (pc := 63) (as := [gm_vi (k : Int), gm_vi 2]) (st := [gm_vi (cnt (fun l => ((c = 1 ∧ N 12 ≤ (N (119 + (l * 7 + 2)))) ∨ (c = 0 ∧ (N (119 + (l * 7 + 2))) < N 12)) ∧ (¬ o l = -1 ∧ o l ≤ y)) k)]) (d' := d - 1) (bc' := 0) (bs' := 0) (by decide +kernel) (by decide +kernel) (by decide +kernel) (by decide +kernel) (e0k hE (k := 226) (c := 11) (by decide +kernel)).1 (e0k hE (k := 226) (c := 11) (by decide +kernel)).2 (by decide) (by decide +kernel) (show 2 = gm_na 301 by decide +kernel) (fw_c2 fw_si fw_si) (show 3 ≤ gm_ml 301 by decide +kernel) (Nat.le_of_ble_eq_true rfl) (by omega) (Nat.zero_le _) (Nat.zero_le _) ?_
        refine re_ol hE hT hN ⟨by omega, by omega⟩ ⟨by omega, by omega⟩ ?_
        show gm_Wp X LX d _ _ 363 66 _ [gm_vi (N (119 + ((k : Int) * 7 + 2))), gm_vi (cnt (fun l => ((c = 1 ∧ N 12 ≤ (N (119 + (l * 7 + 2)))) ∨ (c = 0 ∧ (N (119 + (l * 7 + 2))) < N 12)) ∧ (¬ o l = -1 ∧ o l ≤ y)) k)] n K _ _ Q
        refine gm_sz (gm_p_load (pc := 66) (i := .aload_n 0) (sr := 2) (j := 0) (by decide +kernel) rfl rfl rfl) ?_
        refine gm_sz (fw_gr (pc := 67) (ix := 13) (ci := 11) (j := 1) (r := 227) (by decide +kernel) (e0k hE (k := 226) (c := 11) (by decide +kernel)) (by decide +kernel) (by decide +kernel) (e0r hE (k := 226) (j := 1) (r := 227) (by decide +kernel))) ?_
        refine gm_sz (gm_p_const (pc := 70) (i := .bipush 12) (v := gm_vi 12) (by decide +kernel) (by decide +kernel)) ?_
        refine gm_sz (fw_ia (pc := 72) (k := 227) (len := 2093) (e0 := 12) (x := N 12) (by decide +kernel) (e0a hE (k := 227) (q := (0, 2093)) (by decide +kernel)).1 (e0a hE (k := 227) (q := (0, 2093)) (by decide +kernel)).2 (by decide) ⟨by omega, by omega⟩ (tr_w hT (by decide) (by decide) (by decide))) ?_
        refine fw_ic (cc := .lt) (pc := 73) (off := 7) (by decide +kernel) (by decide) ⟨by omega, by omega⟩ ⟨by omega, by omega⟩ (fun h73 => ?_) (fun h73 => ?_)
        · have h73 : (N (119 + ((k : Int) * 7 + 2))) < (N 12) := h73
          refine gm_sz (gm_p_const (pc := 80) (i := .iconst 0) (v := gm_vi 0) (by decide +kernel) (by decide +kernel)) ?_
          refine gm_sz (gm_p_load (pc := 81) (i := .iload_n 2) (sr := 0) (j := 2) (by decide +kernel) rfl rfl rfl) ?_
          refine fw_ic (cc := .ne) (pc := 82) (off := 7) (by decide +kernel) (by decide) ⟨by decide, by decide⟩ ⟨by omega, by omega⟩ (fun h82 => ?_) (fun h82 => ?_)
          · have h82 : ¬ 0 = c := h82
            refine gm_sz (gm_p_const (pc := 89) (i := .iconst 0) (v := gm_vi 0) (by decide +kernel) (by decide +kernel)) ?_
            refine gm_sz (gm_p_bin (pc := 90) (i := .iadd) (f := fun x y => x + y) (by decide +kernel) rfl) ?_
            refine gm_sz (gm_p_stor (pc := 91) (i := .istore_n 3) (sr := 0) (j := 3) (by decide +kernel) rfl (show 4 ≤ _ from Nat.le_of_ble_eq_true rfl) rfl) ?_
            refine gm_sz (gm_p_iinc (pc := 92) (j := 4) (z := 1) (by decide +kernel) rfl) ?_
            refine gm_sz (gm_p_goto (pc := 95) (off := (-67)) (by decide +kernel) (by decide)) ?_
            rw [Int.add_zero]
            have e8 : ((k + 1 : Nat) : Int) = (k : Int) + 1 := by omega
            have e9 : cnt (fun l => ((c = 1 ∧ N 12 ≤ (N (119 + (l * 7 + 2)))) ∨ (c = 0 ∧ (N (119 + (l * 7 + 2))) < N 12)) ∧ (¬ o l = -1 ∧ o l ≤ y)) (k + 1) = cnt (fun l => ((c = 1 ∧ N 12 ≤ (N (119 + (l * 7 + 2)))) ∨ (c = 0 ∧ (N (119 + (l * 7 + 2))) < N 12)) ∧ (¬ o l = -1 ∧ o l ≤ y)) k := cnt_f (p := (fun l => ((c = 1 ∧ N 12 ≤ (N (119 + (l * 7 + 2)))) ∨ (c = 0 ∧ (N (119 + (l * 7 + 2))) < N 12)) ∧ (¬ o l = -1 ∧ o l ≤ y))) (show ¬ (((c = 1 ∧ N 12 ≤ (N (119 + ((k : Int) * 7 + 2)))) ∨ (c = 0 ∧ (N (119 + ((k : Int) * 7 + 2))) < N 12)) ∧ (¬ o (k : Int) = -1 ∧ o (k : Int) ≤ y)) from by omega)
            have h9 := ih (k + 1) (by omega)
            rw [e9, e8] at h9
            exact h9
          · have h82 : 0 = c := Classical.not_not.mp h82
            refine gm_sz (gm_p_const (pc := 85) (i := .iconst 1) (v := gm_vi 1) (by decide +kernel) (by decide +kernel)) ?_
            refine gm_sz (gm_p_goto (pc := 86) (off := 4) (by decide +kernel) (by decide)) ?_
            refine gm_sz (gm_p_bin (pc := 90) (i := .iadd) (f := fun x y => x + y) (by decide +kernel) rfl) ?_
            refine gm_sz (gm_p_stor (pc := 91) (i := .istore_n 3) (sr := 0) (j := 3) (by decide +kernel) rfl (show 4 ≤ _ from Nat.le_of_ble_eq_true rfl) rfl) ?_
            refine gm_sz (gm_p_iinc (pc := 92) (j := 4) (z := 1) (by decide +kernel) rfl) ?_
            refine gm_sz (gm_p_goto (pc := 95) (off := (-67)) (by decide +kernel) (by decide)) ?_
            have e8 : ((k + 1 : Nat) : Int) = (k : Int) + 1 := by omega
            have e9 : cnt (fun l => ((c = 1 ∧ N 12 ≤ (N (119 + (l * 7 + 2)))) ∨ (c = 0 ∧ (N (119 + (l * 7 + 2))) < N 12)) ∧ (¬ o l = -1 ∧ o l ≤ y)) (k + 1) = (cnt (fun l => ((c = 1 ∧ N 12 ≤ (N (119 + (l * 7 + 2)))) ∨ (c = 0 ∧ (N (119 + (l * 7 + 2))) < N 12)) ∧ (¬ o l = -1 ∧ o l ≤ y)) k) + 1 := cnt_t (p := (fun l => ((c = 1 ∧ N 12 ≤ (N (119 + (l * 7 + 2)))) ∨ (c = 0 ∧ (N (119 + (l * 7 + 2))) < N 12)) ∧ (¬ o l = -1 ∧ o l ≤ y))) (show ((c = 1 ∧ N 12 ≤ (N (119 + ((k : Int) * 7 + 2)))) ∨ (c = 0 ∧ (N (119 + ((k : Int) * 7 + 2))) < N 12)) ∧ (¬ o (k : Int) = -1 ∧ o (k : Int) ≤ y) from by omega)
            have h9 := ih (k + 1) (by omega)
            rw [e9, e8] at h9
            exact h9
        · have h73 : ¬ (N (119 + ((k : Int) * 7 + 2))) < (N 12) := h73
          refine gm_sz (gm_p_const (pc := 76) (i := .iconst 1) (v := gm_vi 1) (by decide +kernel) (by decide +kernel)) ?_
          refine gm_sz (gm_p_goto (pc := 77) (off := 4) (by decide +kernel) (by decide)) ?_
          refine gm_sz (gm_p_load (pc := 81) (i := .iload_n 2) (sr := 0) (j := 2) (by decide +kernel) rfl rfl rfl) ?_
          refine fw_ic (cc := .ne) (pc := 82) (off := 7) (by decide +kernel) (by decide) ⟨by decide, by decide⟩ ⟨by omega, by omega⟩ (fun h82 => ?_) (fun h82 => ?_)
          · have h82 : ¬ 1 = c := h82
            refine gm_sz (gm_p_const (pc := 89) (i := .iconst 0) (v := gm_vi 0) (by decide +kernel) (by decide +kernel)) ?_
            refine gm_sz (gm_p_bin (pc := 90) (i := .iadd) (f := fun x y => x + y) (by decide +kernel) rfl) ?_
            refine gm_sz (gm_p_stor (pc := 91) (i := .istore_n 3) (sr := 0) (j := 3) (by decide +kernel) rfl (show 4 ≤ _ from Nat.le_of_ble_eq_true rfl) rfl) ?_
            refine gm_sz (gm_p_iinc (pc := 92) (j := 4) (z := 1) (by decide +kernel) rfl) ?_
            refine gm_sz (gm_p_goto (pc := 95) (off := (-67)) (by decide +kernel) (by decide)) ?_
            rw [Int.add_zero]
            have e8 : ((k + 1 : Nat) : Int) = (k : Int) + 1 := by omega
            have e9 : cnt (fun l => ((c = 1 ∧ N 12 ≤ (N (119 + (l * 7 + 2)))) ∨ (c = 0 ∧ (N (119 + (l * 7 + 2))) < N 12)) ∧ (¬ o l = -1 ∧ o l ≤ y)) (k + 1) = cnt (fun l => ((c = 1 ∧ N 12 ≤ (N (119 + (l * 7 + 2)))) ∨ (c = 0 ∧ (N (119 + (l * 7 + 2))) < N 12)) ∧ (¬ o l = -1 ∧ o l ≤ y)) k := cnt_f (p := (fun l => ((c = 1 ∧ N 12 ≤ (N (119 + (l * 7 + 2)))) ∨ (c = 0 ∧ (N (119 + (l * 7 + 2))) < N 12)) ∧ (¬ o l = -1 ∧ o l ≤ y))) (show ¬ (((c = 1 ∧ N 12 ≤ (N (119 + ((k : Int) * 7 + 2)))) ∨ (c = 0 ∧ (N (119 + ((k : Int) * 7 + 2))) < N 12)) ∧ (¬ o (k : Int) = -1 ∧ o (k : Int) ≤ y)) from by omega)
            have h9 := ih (k + 1) (by omega)
            rw [e9, e8] at h9
            exact h9
          · have h82 : 1 = c := Classical.not_not.mp h82
            refine gm_sz (gm_p_const (pc := 85) (i := .iconst 1) (v := gm_vi 1) (by decide +kernel) (by decide +kernel)) ?_
            refine gm_sz (gm_p_goto (pc := 86) (off := 4) (by decide +kernel) (by decide)) ?_
            refine gm_sz (gm_p_bin (pc := 90) (i := .iadd) (f := fun x y => x + y) (by decide +kernel) rfl) ?_
            refine gm_sz (gm_p_stor (pc := 91) (i := .istore_n 3) (sr := 0) (j := 3) (by decide +kernel) rfl (show 4 ≤ _ from Nat.le_of_ble_eq_true rfl) rfl) ?_
            refine gm_sz (gm_p_iinc (pc := 92) (j := 4) (z := 1) (by decide +kernel) rfl) ?_
            refine gm_sz (gm_p_goto (pc := 95) (off := (-67)) (by decide +kernel) (by decide)) ?_
            have e8 : ((k + 1 : Nat) : Int) = (k : Int) + 1 := by omega
            have e9 : cnt (fun l => ((c = 1 ∧ N 12 ≤ (N (119 + (l * 7 + 2)))) ∨ (c = 0 ∧ (N (119 + (l * 7 + 2))) < N 12)) ∧ (¬ o l = -1 ∧ o l ≤ y)) (k + 1) = (cnt (fun l => ((c = 1 ∧ N 12 ≤ (N (119 + (l * 7 + 2)))) ∨ (c = 0 ∧ (N (119 + (l * 7 + 2))) < N 12)) ∧ (¬ o l = -1 ∧ o l ≤ y)) k) + 1 := cnt_t (p := (fun l => ((c = 1 ∧ N 12 ≤ (N (119 + (l * 7 + 2)))) ∨ (c = 0 ∧ (N (119 + (l * 7 + 2))) < N 12)) ∧ (¬ o l = -1 ∧ o l ≤ y))) (show ((c = 1 ∧ N 12 ≤ (N (119 + ((k : Int) * 7 + 2)))) ∨ (c = 0 ∧ (N (119 + ((k : Int) * 7 + 2))) < N 12)) ∧ (¬ o (k : Int) = -1 ∧ o (k : Int) ≤ y) from by omega)
            have h9 := ih (k + 1) (by omega)
            rw [e9, e8] at h9
            exact h9
theorem wa_r (hd : 20 ≤ d) (hE : E0 n K R) (hT : TR N h M) (hN : NR N) (hfw : FLR X LX n K R N h FI φ) (hI : FI M) (hoo : ∀ l, 0 ≤ l → l < N 4 → OUTR N h φ l (o l) (dd l)) (h0 : M 226 0 = 0) (hob : ∀ l, 0 ≤ l → l < N 4 → -1 ≤ o l ∧ o l ≤ 299) (hq : ∀ M2, M2 226 0 = 0 → Q (.inl (some (gm_vi (cnt (fun l => (¬ (N (119 + (l * 7 + 0))) = -1 ∧ (N (119 + (l * 7 + 5))) = -1 ∧ ¬ o l = -1 ∧ o l ≤ N 9)) (N 4).toNat)))) n K R M2) : ∀ (u k : Nat) (z4 : Option gm_V) (M1 : gm_M), (k : Int) + (u : Int) = N 4 → fr [(226, some 29), (226, some 30), (226, some 26), (226, some 17), (226, some 18), (226, some 19), (226, some 20), (226, some 21), (226, some 22), (226, some 23), (235, none), (233, none), (236, none), (237, none)] M M1 → FI M1 → gm_Wp X LX d bc bs 368 98 [some (gm_vr 226), some (gm_vi 15), some (gm_vi (cnt (fun l => (¬ (N (119 + (l * 7 + 0))) = -1 ∧ (N (119 + (l * 7 + 5))) = -1 ∧ ¬ o l = -1 ∧ o l ≤ N 9)) k)), some (gm_vi (k : Int)), z4] [] n K R M1 Q := by
  obtain ⟨⟨⟨a0, b0⟩, ⟨a1, b1⟩, ⟨a10, b10⟩, ⟨a11, b11⟩, ⟨a12, b12⟩, a9, b9⟩, ⟨⟨a2, b2⟩, ⟨a5, b5⟩, ⟨a3, b3⟩, ⟨a4, b4⟩, ⟨a6, b6⟩, ⟨a14, b14⟩, ⟨a7, b7⟩, a13, b13⟩, rF, rP, rL⟩ := id hN
  intro u
  induction u with
  | zero =>
    intro k z4 M1 hk hf hI1
    have ek : k = (N 4).toNat := by omega
    have hb9 := cnt_b (p := (fun l => (¬ (N (119 + (l * 7 + 0))) = -1 ∧ (N (119 + (l * 7 + 5))) = -1 ∧ ¬ o l = -1 ∧ o l ≤ N 9))) k
    refine gm_sz (gm_p_load (pc := 98) (i := .iload_n 3) (sr := 0) (j := 3) (by decide +kernel) rfl rfl rfl) ?_
    refine gm_sz (gm_p_load (pc := 99) (i := .aload_n 0) (sr := 2) (j := 0) (by decide +kernel) rfl rfl rfl) ?_
    refine gm_c_virt (k := 226) (ci := 11) (mj := 254) (ix := 100) (pc := 100) (as := []) (st := [gm_vi (k : Int)]) (d' := d - 1) (bc' := 0) (bs' := 0) (by decide +kernel) (by decide +kernel) (by decide +kernel) (by decide +kernel) (e0k hE (k := 226) (c := 11) (by decide +kernel)).1 (e0k hE (k := 226) (c := 11) (by decide +kernel)).2 (by decide) (by decide +kernel) (show 0 = gm_na 254 by decide +kernel) fw_c0 (show 1 ≤ gm_ml 254 by decide +kernel) (Nat.le_of_ble_eq_true rfl) (by omega) (Nat.zero_le _) (Nat.zero_le _) ?_
    refine re_let hE (tr_fr (W := [(226, some 29), (226, some 30), (226, some 26), (226, some 17), (226, some 18), (226, some 19), (226, some 20), (226, some 21), (226, some 22), (226, some 23), (235, none), (233, none), (236, none), (237, none)]) hT (fr_t fr_0 hf (by decide)) (by decide)) hN ?_
    show gm_Wp X LX d _ _ 368 103 _ [gm_vi (N 4), gm_vi (k : Int)] n K _ _ Q
    refine fw_ict (cc := .ge) (pc := 103) (off := 25) (by decide +kernel) (by decide) ⟨by omega, by omega⟩ ⟨by omega, by omega⟩ (show (N 4) ≤ (k : Int) by omega) ?_
    refine gm_sz (gm_p_load (pc := 128) (i := .iload_n 2) (sr := 0) (j := 2) (by decide +kernel) rfl rfl rfl) ?_
    have h9 : Q (.inl (some (gm_vi (cnt (fun l => (¬ (N (119 + (l * 7 + 0))) = -1 ∧ (N (119 + (l * 7 + 5))) = -1 ∧ ¬ o l = -1 ∧ o l ≤ N 9)) k)))) n K R M1 := by rw [ek]; exact hq _ ((fr_j hf (by decide)).trans h0)
    exact gm_r_int (pc := 129) (by decide +kernel) (Or.inl (by decide +kernel)) h9
  | succ u ih =>
    intro k z4 M1 hk hf hI1
    have hb9 := cnt_b (p := (fun l => (¬ (N (119 + (l * 7 + 0))) = -1 ∧ (N (119 + (l * 7 + 5))) = -1 ∧ ¬ o l = -1 ∧ o l ≤ N 9))) k
    have ob9 := hob (k : Int) (by omega) (by omega)
    obtain ⟨r0, r1, r2, -, -, r5, -⟩ := rL (k : Int) (by omega) (by omega)
    have r0 : -1 ≤ N (119 + ((k : Int) * 7 + 0)) ∧ N (119 + ((k : Int) * 7 + 0)) < N 3 := r0
    have r1 : -1 ≤ N (119 + ((k : Int) * 7 + 1)) ∧ N (119 + ((k : Int) * 7 + 1)) < N 3 := r1
    have r2 : 0 ≤ N (119 + ((k : Int) * 7 + 2)) ∧ N (119 + ((k : Int) * 7 + 2)) < N 0 := r2
    have r5 : -1 ≤ N (119 + ((k : Int) * 7 + 5)) ∧ N (119 + ((k : Int) * 7 + 5)) < N 3 := r5
    refine gm_sz (gm_p_load (pc := 98) (i := .iload_n 3) (sr := 0) (j := 3) (by decide +kernel) rfl rfl rfl) ?_
    refine gm_sz (gm_p_load (pc := 99) (i := .aload_n 0) (sr := 2) (j := 0) (by decide +kernel) rfl rfl rfl) ?_
    refine gm_c_virt (k := 226) (ci := 11) (mj := 254) (ix := 100) (pc := 100) (as := []) (st := [gm_vi (k : Int)]) (d' := d - 1) (bc' := 0) (bs' := 0) (by decide +kernel) (by decide +kernel) (by decide +kernel) (by decide +kernel) (e0k hE (k := 226) (c := 11) (by decide +kernel)).1 (e0k hE (k := 226) (c := 11) (by decide +kernel)).2 (by decide) (by decide +kernel) (show 0 = gm_na 254 by decide +kernel) fw_c0 (show 1 ≤ gm_ml 254 by decide +kernel) (Nat.le_of_ble_eq_true rfl) (by omega) (Nat.zero_le _) (Nat.zero_le _) ?_
    refine re_let hE (tr_fr (W := [(226, some 29), (226, some 30), (226, some 26), (226, some 17), (226, some 18), (226, some 19), (226, some 20), (226, some 21), (226, some 22), (226, some 23), (235, none), (233, none), (236, none), (237, none)]) hT (fr_t fr_0 hf (by decide)) (by decide)) hN ?_
    show gm_Wp X LX d _ _ 368 103 _ [gm_vi (N 4), gm_vi (k : Int)] n K _ _ Q
    refine fw_icf (cc := .ge) (pc := 103) (off := 25) (by decide +kernel) (by decide) ⟨by omega, by omega⟩ ⟨by omega, by omega⟩ (show ¬ (N 4) ≤ (k : Int) by omega) ?_
    refine gm_sz (gm_p_load (pc := 106) (i := .iload_n 2) (sr := 0) (j := 2) (by decide +kernel) rfl rfl rfl) ?_
    refine gm_sz (gm_p_load (pc := 107) (i := .aload_n 0) (sr := 2) (j := 0) (by decide +kernel) rfl rfl rfl) ?_
    refine gm_sz (gm_p_load (pc := 108) (i := .iload_n 3) (sr := 0) (j := 3) (by decide +kernel) rfl rfl rfl) ?_
    refine gm_c_virt (k := 226) (ci := 11) (mj := 302) (ix := 390) (pc := 109) (as := [gm_vi (k : Int)]) (st := [gm_vi (cnt (fun l => (¬ (N (119 + (l * 7 + 0))) = -1 ∧ (N (119 + (l * 7 + 5))) = -1 ∧ ¬ o l = -1 ∧ o l ≤ N 9)) k)]) (d' := d - 1) (bc' := 0) (bs' := 0) (by decide +kernel) (by decide +kernel) (by decide +kernel) (by decide +kernel) (e0k hE (k := 226) (c := 11) (by decide +kernel)).1 (e0k hE (k := 226) (c := 11) (by decide +kernel)).2 (by decide) (by decide +kernel) (show 1 = gm_na 302 by decide +kernel) (fw_c1 fw_si) (show 2 ≤ gm_ml 302 by decide +kernel) (Nat.le_of_ble_eq_true rfl) (by omega) (Nat.zero_le _) (Nat.zero_le _) ?_
    refine rw_c302 (o := o) (dd := dd) (by omega) hE (tr_fr (W := [(226, some 29), (226, some 30), (226, some 26), (226, some 17), (226, some 18), (226, some 19), (226, some 20), (226, some 21), (226, some 22), (226, some 23), (235, none), (233, none), (236, none), (237, none)]) hT (fr_t fr_0 hf (by decide)) (by decide)) hN hfw hI1 ⟨by omega, by omega⟩ (hoo (k : Int) (by omega) (by omega)) (fun v25 M21 hf21 hI21 e29 e37 => ?_) (fun v25 M21 hf21 hI21 => ?_)
    · show gm_Wp X LX d _ _ 368 112 _ [gm_vi 1, gm_vi (cnt (fun l => (¬ (N (119 + (l * 7 + 0))) = -1 ∧ (N (119 + (l * 7 + 5))) = -1 ∧ ¬ o l = -1 ∧ o l ≤ N 9)) k)] n K _ _ Q
      have v25 : ¬ ((N (119 + ((k : Int) * 7 + 0)))) = -1 ∧ ((N (119 + ((k : Int) * 7 + 5)))) = -1 ∧ ¬ (o (k : Int)) = -1 ∧ (o (k : Int)) ≤ N 9 := v25
      refine fw_iffd (cc := .eq) (pc := 112) (off := 7) (by decide +kernel) (by decide) ⟨by decide, by decide⟩ (by decide) ?_
      refine gm_sz (gm_p_const (pc := 115) (i := .iconst 1) (v := gm_vi 1) (by decide +kernel) (by decide +kernel)) ?_
      refine gm_sz (gm_p_goto (pc := 116) (off := 4) (by decide +kernel) (by decide)) ?_
      refine gm_sz (gm_p_bin (pc := 120) (i := .iadd) (f := fun x y => x + y) (by decide +kernel) rfl) ?_
      refine gm_sz (gm_p_stor (pc := 121) (i := .istore_n 2) (sr := 0) (j := 2) (by decide +kernel) rfl (show 3 ≤ _ from Nat.le_of_ble_eq_true rfl) rfl) ?_
      refine gm_sz (gm_p_iinc (pc := 122) (j := 3) (z := 1) (by decide +kernel) rfl) ?_
      refine gm_sz (gm_p_goto (pc := 125) (off := (-27)) (by decide +kernel) (by decide)) ?_
      have e8 : ((k + 1 : Nat) : Int) = (k : Int) + 1 := by omega
      have e9 : cnt (fun l => (¬ (N (119 + (l * 7 + 0))) = -1 ∧ (N (119 + (l * 7 + 5))) = -1 ∧ ¬ o l = -1 ∧ o l ≤ N 9)) (k + 1) = (cnt (fun l => (¬ (N (119 + (l * 7 + 0))) = -1 ∧ (N (119 + (l * 7 + 5))) = -1 ∧ ¬ o l = -1 ∧ o l ≤ N 9)) k) + 1 := cnt_t (p := (fun l => (¬ (N (119 + (l * 7 + 0))) = -1 ∧ (N (119 + (l * 7 + 5))) = -1 ∧ ¬ o l = -1 ∧ o l ≤ N 9))) (show (¬ (N (119 + ((k : Int) * 7 + 0))) = -1 ∧ (N (119 + ((k : Int) * 7 + 5))) = -1 ∧ ¬ o (k : Int) = -1 ∧ o (k : Int) ≤ N 9) from by omega)
      have h9 := ih (k + 1) z4 _ (by omega) (fr_t (fr_t fr_0 hf (by decide)) hf21 (by decide)) hI21
      rw [e9, e8] at h9
      exact h9
    · show gm_Wp X LX d _ _ 368 112 _ [gm_vi 0, gm_vi (cnt (fun l => (¬ (N (119 + (l * 7 + 0))) = -1 ∧ (N (119 + (l * 7 + 5))) = -1 ∧ ¬ o l = -1 ∧ o l ≤ N 9)) k)] n K _ _ Q
      have v25 : ¬ (¬ ((N (119 + ((k : Int) * 7 + 0)))) = -1 ∧ ((N (119 + ((k : Int) * 7 + 5)))) = -1 ∧ ¬ (o (k : Int)) = -1 ∧ (o (k : Int)) ≤ N 9) := v25
      refine fw_iftd (cc := .eq) (pc := 112) (off := 7) (by decide +kernel) (by decide) ⟨by decide, by decide⟩ (by decide) ?_
      refine gm_sz (gm_p_const (pc := 119) (i := .iconst 0) (v := gm_vi 0) (by decide +kernel) (by decide +kernel)) ?_
      refine gm_sz (gm_p_bin (pc := 120) (i := .iadd) (f := fun x y => x + y) (by decide +kernel) rfl) ?_
      refine gm_sz (gm_p_stor (pc := 121) (i := .istore_n 2) (sr := 0) (j := 2) (by decide +kernel) rfl (show 3 ≤ _ from Nat.le_of_ble_eq_true rfl) rfl) ?_
      refine gm_sz (gm_p_iinc (pc := 122) (j := 3) (z := 1) (by decide +kernel) rfl) ?_
      refine gm_sz (gm_p_goto (pc := 125) (off := (-27)) (by decide +kernel) (by decide)) ?_
      rw [Int.add_zero]
      have e8 : ((k + 1 : Nat) : Int) = (k : Int) + 1 := by omega
      have e9 : cnt (fun l => (¬ (N (119 + (l * 7 + 0))) = -1 ∧ (N (119 + (l * 7 + 5))) = -1 ∧ ¬ o l = -1 ∧ o l ≤ N 9)) (k + 1) = cnt (fun l => (¬ (N (119 + (l * 7 + 0))) = -1 ∧ (N (119 + (l * 7 + 5))) = -1 ∧ ¬ o l = -1 ∧ o l ≤ N 9)) k := cnt_f (p := (fun l => (¬ (N (119 + (l * 7 + 0))) = -1 ∧ (N (119 + (l * 7 + 5))) = -1 ∧ ¬ o l = -1 ∧ o l ≤ N 9))) (show ¬ ((¬ (N (119 + ((k : Int) * 7 + 0))) = -1 ∧ (N (119 + ((k : Int) * 7 + 5))) = -1 ∧ ¬ o (k : Int) = -1 ∧ o (k : Int) ≤ N 9)) from by omega)
      have h9 := ih (k + 1) z4 _ (by omega) (fr_t (fr_t fr_0 hf (by decide)) hf21 (by decide)) hI21
      rw [e9, e8] at h9
      exact h9
theorem ii_r (hd : 20 ≤ d) (hE : E0 n K R) (hT : TR N h M) (hN : NR N) (hfw : FLR X LX n K R N h FI φ) (hI : FI M) (hoo : ∀ l, 0 ≤ l → l < N 4 → OUTR N h φ l (o l) (dd l)) (h0 : M 226 0 = 0) (hob : ∀ l, 0 ≤ l → l < N 4 → -1 ≤ o l ∧ o l ≤ 299) (hq : ∀ M2, M2 226 0 = 0 → Q (.inl (some (gm_vi (cnt (fun l => ¬ (¬ o l = -1 ∧ o l ≤ N 9)) (N 4).toNat)))) n K R M2) : ∀ (u k : Nat) (z4 : Option gm_V) (M1 : gm_M), (k : Int) + (u : Int) = N 4 → fr [(226, some 29), (226, some 30), (226, some 26), (226, some 17), (226, some 18), (226, some 19), (226, some 20), (226, some 21), (226, some 22), (226, some 23), (235, none), (233, none), (236, none), (237, none)] M M1 → FI M1 → gm_Wp X LX d bc bs 368 132 [some (gm_vr 226), some (gm_vi 16), some (gm_vi (cnt (fun l => ¬ (¬ o l = -1 ∧ o l ≤ N 9)) k)), some (gm_vi (k : Int)), z4] [] n K R M1 Q := by
  obtain ⟨⟨⟨a0, b0⟩, ⟨a1, b1⟩, ⟨a10, b10⟩, ⟨a11, b11⟩, ⟨a12, b12⟩, a9, b9⟩, ⟨⟨a2, b2⟩, ⟨a5, b5⟩, ⟨a3, b3⟩, ⟨a4, b4⟩, ⟨a6, b6⟩, ⟨a14, b14⟩, ⟨a7, b7⟩, a13, b13⟩, rF, rP, rL⟩ := id hN
  intro u
  induction u with
  | zero =>
    intro k z4 M1 hk hf hI1
    have ek : k = (N 4).toNat := by omega
    have hb9 := cnt_b (p := (fun l => ¬ (¬ o l = -1 ∧ o l ≤ N 9))) k
    refine gm_sz (gm_p_load (pc := 132) (i := .iload_n 3) (sr := 0) (j := 3) (by decide +kernel) rfl rfl rfl) ?_
    refine gm_sz (gm_p_load (pc := 133) (i := .aload_n 0) (sr := 2) (j := 0) (by decide +kernel) rfl rfl rfl) ?_
    refine gm_c_virt (k := 226) (ci := 11) (mj := 254) (ix := 100) (pc := 134) (as := []) (st := [gm_vi (k : Int)]) (d' := d - 1) (bc' := 0) (bs' := 0) (by decide +kernel) (by decide +kernel) (by decide +kernel) (by decide +kernel) (e0k hE (k := 226) (c := 11) (by decide +kernel)).1 (e0k hE (k := 226) (c := 11) (by decide +kernel)).2 (by decide) (by decide +kernel) (show 0 = gm_na 254 by decide +kernel) fw_c0 (show 1 ≤ gm_ml 254 by decide +kernel) (Nat.le_of_ble_eq_true rfl) (by omega) (Nat.zero_le _) (Nat.zero_le _) ?_
    refine re_let hE (tr_fr (W := [(226, some 29), (226, some 30), (226, some 26), (226, some 17), (226, some 18), (226, some 19), (226, some 20), (226, some 21), (226, some 22), (226, some 23), (235, none), (233, none), (236, none), (237, none)]) hT (fr_t fr_0 hf (by decide)) (by decide)) hN ?_
    show gm_Wp X LX d _ _ 368 137 _ [gm_vi (N 4), gm_vi (k : Int)] n K _ _ Q
    refine fw_ict (cc := .ge) (pc := 137) (off := 38) (by decide +kernel) (by decide) ⟨by omega, by omega⟩ ⟨by omega, by omega⟩ (show (N 4) ≤ (k : Int) by omega) ?_
    refine gm_sz (gm_p_load (pc := 175) (i := .iload_n 2) (sr := 0) (j := 2) (by decide +kernel) rfl rfl rfl) ?_
    have h9 : Q (.inl (some (gm_vi (cnt (fun l => ¬ (¬ o l = -1 ∧ o l ≤ N 9)) k)))) n K R M1 := by rw [ek]; exact hq _ ((fr_j hf (by decide)).trans h0)
    exact gm_r_int (pc := 176) (by decide +kernel) (Or.inl (by decide +kernel)) h9
  | succ u ih =>
    intro k z4 M1 hk hf hI1
    have hb9 := cnt_b (p := (fun l => ¬ (¬ o l = -1 ∧ o l ≤ N 9))) k
    have ob9 := hob (k : Int) (by omega) (by omega)
    obtain ⟨r0, r1, r2, -, -, r5, -⟩ := rL (k : Int) (by omega) (by omega)
    have r0 : -1 ≤ N (119 + ((k : Int) * 7 + 0)) ∧ N (119 + ((k : Int) * 7 + 0)) < N 3 := r0
    have r1 : -1 ≤ N (119 + ((k : Int) * 7 + 1)) ∧ N (119 + ((k : Int) * 7 + 1)) < N 3 := r1
    have r2 : 0 ≤ N (119 + ((k : Int) * 7 + 2)) ∧ N (119 + ((k : Int) * 7 + 2)) < N 0 := r2
    have r5 : -1 ≤ N (119 + ((k : Int) * 7 + 5)) ∧ N (119 + ((k : Int) * 7 + 5)) < N 3 := r5
    refine gm_sz (gm_p_load (pc := 132) (i := .iload_n 3) (sr := 0) (j := 3) (by decide +kernel) rfl rfl rfl) ?_
    refine gm_sz (gm_p_load (pc := 133) (i := .aload_n 0) (sr := 2) (j := 0) (by decide +kernel) rfl rfl rfl) ?_
    refine gm_c_virt (k := 226) (ci := 11) (mj := 254) (ix := 100) (pc := 134) (as := []) (st := [gm_vi (k : Int)]) (d' := d - 1) (bc' := 0) (bs' := 0) (by decide +kernel) (by decide +kernel) (by decide +kernel) (by decide +kernel) (e0k hE (k := 226) (c := 11) (by decide +kernel)).1 (e0k hE (k := 226) (c := 11) (by decide +kernel)).2 (by decide) (by decide +kernel) (show 0 = gm_na 254 by decide +kernel) fw_c0 (show 1 ≤ gm_ml 254 by decide +kernel) (Nat.le_of_ble_eq_true rfl) (by omega) (Nat.zero_le _) (Nat.zero_le _) ?_
    refine re_let hE (tr_fr (W := [(226, some 29), (226, some 30), (226, some 26), (226, some 17), (226, some 18), (226, some 19), (226, some 20), (226, some 21), (226, some 22), (226, some 23), (235, none), (233, none), (236, none), (237, none)]) hT (fr_t fr_0 hf (by decide)) (by decide)) hN ?_
    show gm_Wp X LX d _ _ 368 137 _ [gm_vi (N 4), gm_vi (k : Int)] n K _ _ Q
    refine fw_icf (cc := .ge) (pc := 137) (off := 38) (by decide +kernel) (by decide) ⟨by omega, by omega⟩ ⟨by omega, by omega⟩ (show ¬ (N 4) ≤ (k : Int) by omega) ?_
    refine gm_sz (gm_p_load (pc := 140) (i := .aload_n 0) (sr := 2) (j := 0) (by decide +kernel) rfl rfl rfl) ?_
    refine gm_sz (gm_p_load (pc := 141) (i := .iload_n 3) (sr := 0) (j := 3) (by decide +kernel) rfl rfl rfl) ?_
    refine gm_c_virt (k := 226) (ci := 11) (mj := 304) (ix := 387) (pc := 142) (as := [gm_vi (k : Int)]) (st := []) (d' := d - 1) (bc' := 0) (bs' := 0) (by decide +kernel) (by decide +kernel) (by decide +kernel) (by decide +kernel) (e0k hE (k := 226) (c := 11) (by decide +kernel)).1 (e0k hE (k := 226) (c := 11) (by decide +kernel)).2 (by decide) (by decide +kernel) (show 1 = gm_na 304 by decide +kernel) (fw_c1 fw_si) (show 2 ≤ gm_ml 304 by decide +kernel) (Nat.le_of_ble_eq_true rfl) (by omega) (Nat.zero_le _) (Nat.zero_le _) ?_
    refine re_c304 (l := (k : Int)) (by omega) hE (tr_fr (W := [(226, some 29), (226, some 30), (226, some 26), (226, some 17), (226, some 18), (226, some 19), (226, some 20), (226, some 21), (226, some 22), (226, some 23), (235, none), (233, none), (236, none), (237, none)]) hT (fr_t fr_0 hf (by decide)) (by decide)) hN hfw hI1 ⟨by omega, by omega⟩ (fun M21 hf21 hI21 hr21 => ?_)
    show gm_Wp X LX d _ _ 368 145 _ [gm_vi (M21 226 29)] n K _ _ Q
    obtain ⟨-, -, -, r3, -⟩ := rL (k : Int) (by omega) (by omega)
    have ho9 := hoo (k : Int) (by omega) (by omega)
    obtain ⟨e29, e37⟩ := rrun_o hr21 r3.1 ho9
    have ob := OUTR_b ho9 r3.1
    refine gm_sz (gm_p_stor (pc := 145) (i := .istore 4) (sr := 0) (j := 4) (by decide +kernel) rfl (show 5 ≤ _ from Nat.le_of_ble_eq_true rfl) rfl) ?_
    refine gm_sz (gm_p_load (pc := 147) (i := .iload_n 2) (sr := 0) (j := 2) (by decide +kernel) rfl rfl rfl) ?_
    refine gm_sz (gm_p_load (pc := 148) (i := .iload 4) (sr := 0) (j := 4) (by decide +kernel) rfl rfl rfl) ?_
    refine fw_if (cc := .lt) (pc := 150) (off := 12) (by decide +kernel) (by decide) ⟨by omega, by omega⟩ (fun h150 => ?_) (fun h150 => ?_)
    · have h150 : (M21 226 29) < 0 := h150
      refine gm_sz (gm_p_const (pc := 162) (i := .iconst 1) (v := gm_vi 1) (by decide +kernel) (by decide +kernel)) ?_
      refine gm_sz (gm_p_goto (pc := 163) (off := 4) (by decide +kernel) (by decide)) ?_
      refine gm_sz (gm_p_bin (pc := 167) (i := .iadd) (f := fun x y => x + y) (by decide +kernel) rfl) ?_
      refine gm_sz (gm_p_stor (pc := 168) (i := .istore_n 2) (sr := 0) (j := 2) (by decide +kernel) rfl (show 3 ≤ _ from Nat.le_of_ble_eq_true rfl) rfl) ?_
      refine gm_sz (gm_p_iinc (pc := 169) (j := 3) (z := 1) (by decide +kernel) rfl) ?_
      refine gm_sz (gm_p_goto (pc := 172) (off := (-40)) (by decide +kernel) (by decide)) ?_
      have e8 : ((k + 1 : Nat) : Int) = (k : Int) + 1 := by omega
      have e9 : cnt (fun l => ¬ (¬ o l = -1 ∧ o l ≤ N 9)) (k + 1) = (cnt (fun l => ¬ (¬ o l = -1 ∧ o l ≤ N 9)) k) + 1 := cnt_t (p := (fun l => ¬ (¬ o l = -1 ∧ o l ≤ N 9))) (show ¬ (¬ o (k : Int) = -1 ∧ o (k : Int) ≤ N 9) from by omega)
      have h9 := ih (k + 1) (some (gm_vi (M21 226 29))) _ (by omega) (fr_t (fr_t fr_0 hf (by decide)) hf21 (by decide)) hI21
      rw [e9, e8] at h9
      exact h9
    · have h150 : ¬ (M21 226 29) < 0 := h150
      refine gm_sz (gm_p_load (pc := 153) (i := .iload 4) (sr := 0) (j := 4) (by decide +kernel) rfl rfl rfl) ?_
      refine gm_sz (gm_p_load (pc := 155) (i := .aload_n 0) (sr := 2) (j := 0) (by decide +kernel) rfl rfl rfl) ?_
      refine gm_c_virt (k := 226) (ci := 11) (mj := 266) (ix := 162) (pc := 156) (as := []) (st := [gm_vi (M21 226 29), gm_vi (cnt (fun l => ¬ (¬ o l = -1 ∧ o l ≤ N 9)) k)]) (d' := d - 1) (bc' := 0) (bs' := 0) (by decide +kernel) (by decide +kernel) (by decide +kernel) (by decide +kernel) (e0k hE (k := 226) (c := 11) (by decide +kernel)).1 (e0k hE (k := 226) (c := 11) (by decide +kernel)).2 (by decide) (by decide +kernel) (show 0 = gm_na 266 by decide +kernel) fw_c0 (show 1 ≤ gm_ml 266 by decide +kernel) (Nat.le_of_ble_eq_true rfl) (by omega) (Nat.zero_le _) (Nat.zero_le _) ?_
      refine re_now hE (tr_fr (W := [(226, some 29), (226, some 30), (226, some 26), (226, some 17), (226, some 18), (226, some 19), (226, some 20), (226, some 21), (226, some 22), (226, some 23), (235, none), (233, none), (236, none), (237, none)]) hT (fr_t (fr_t fr_0 hf (by decide)) hf21 (by decide)) (by decide)) hN ?_
      show gm_Wp X LX d _ _ 368 159 _ [gm_vi (N 9), gm_vi (M21 226 29), gm_vi (cnt (fun l => ¬ (¬ o l = -1 ∧ o l ≤ N 9)) k)] n K _ _ Q
      refine fw_ic (cc := .le) (pc := 159) (off := 7) (by decide +kernel) (by decide) ⟨by omega, by omega⟩ ⟨by omega, by omega⟩ (fun h159 => ?_) (fun h159 => ?_)
      · have h159 : (M21 226 29) ≤ (N 9) := h159
        refine gm_sz (gm_p_const (pc := 166) (i := .iconst 0) (v := gm_vi 0) (by decide +kernel) (by decide +kernel)) ?_
        refine gm_sz (gm_p_bin (pc := 167) (i := .iadd) (f := fun x y => x + y) (by decide +kernel) rfl) ?_
        refine gm_sz (gm_p_stor (pc := 168) (i := .istore_n 2) (sr := 0) (j := 2) (by decide +kernel) rfl (show 3 ≤ _ from Nat.le_of_ble_eq_true rfl) rfl) ?_
        refine gm_sz (gm_p_iinc (pc := 169) (j := 3) (z := 1) (by decide +kernel) rfl) ?_
        refine gm_sz (gm_p_goto (pc := 172) (off := (-40)) (by decide +kernel) (by decide)) ?_
        rw [Int.add_zero]
        have e8 : ((k + 1 : Nat) : Int) = (k : Int) + 1 := by omega
        have e9 : cnt (fun l => ¬ (¬ o l = -1 ∧ o l ≤ N 9)) (k + 1) = cnt (fun l => ¬ (¬ o l = -1 ∧ o l ≤ N 9)) k := cnt_f (p := (fun l => ¬ (¬ o l = -1 ∧ o l ≤ N 9))) (show ¬ (¬ (¬ o (k : Int) = -1 ∧ o (k : Int) ≤ N 9)) from by omega)
        have h9 := ih (k + 1) (some (gm_vi (M21 226 29))) _ (by omega) (fr_t (fr_t fr_0 hf (by decide)) hf21 (by decide)) hI21
        rw [e9, e8] at h9
        exact h9
      · have h159 : ¬ (M21 226 29) ≤ (N 9) := h159
        refine gm_sz (gm_p_const (pc := 162) (i := .iconst 1) (v := gm_vi 1) (by decide +kernel) (by decide +kernel)) ?_
        refine gm_sz (gm_p_goto (pc := 163) (off := 4) (by decide +kernel) (by decide)) ?_
        refine gm_sz (gm_p_bin (pc := 167) (i := .iadd) (f := fun x y => x + y) (by decide +kernel) rfl) ?_
        refine gm_sz (gm_p_stor (pc := 168) (i := .istore_n 2) (sr := 0) (j := 2) (by decide +kernel) rfl (show 3 ≤ _ from Nat.le_of_ble_eq_true rfl) rfl) ?_
        refine gm_sz (gm_p_iinc (pc := 169) (j := 3) (z := 1) (by decide +kernel) rfl) ?_
        refine gm_sz (gm_p_goto (pc := 172) (off := (-40)) (by decide +kernel) (by decide)) ?_
        have e8 : ((k + 1 : Nat) : Int) = (k : Int) + 1 := by omega
        have e9 : cnt (fun l => ¬ (¬ o l = -1 ∧ o l ≤ N 9)) (k + 1) = (cnt (fun l => ¬ (¬ o l = -1 ∧ o l ≤ N 9)) k) + 1 := cnt_t (p := (fun l => ¬ (¬ o l = -1 ∧ o l ≤ N 9))) (show ¬ (¬ o (k : Int) = -1 ∧ o (k : Int) ≤ N 9) from by omega)
        have h9 := ih (k + 1) (some (gm_vi (M21 226 29))) _ (by omega) (fr_t (fr_t fr_0 hf (by decide)) hf21 (by decide)) hI21
        rw [e9, e8] at h9
        exact h9
theorem co3_r (hd : 4 ≤ d) (hE : E0 n K R) (hT : TR N h M) (hN : NR N) (hi : gm_ir y) (hq : Q (.inl (some (gm_vi (cnt (fun l => (N (119 + (l * 7 + 0))) = y) (N 4).toNat)))) n K R M) : ∀ (u k : Nat) (z5 : Option gm_V), (k : Int) + (u : Int) = N 4 → gm_Wp X LX d bc bs 300 5 [some (gm_vr 226), some (gm_vi y), some (gm_vi 3), some (gm_vi (cnt (fun l => (N (119 + (l * 7 + 0))) = y) k)), some (gm_vi (k : Int)), z5] [] n K R M Q := by
  obtain ⟨⟨⟨a0, b0⟩, ⟨a1, b1⟩, ⟨a10, b10⟩, ⟨a11, b11⟩, ⟨a12, b12⟩, a9, b9⟩, ⟨⟨a2, b2⟩, ⟨a5, b5⟩, ⟨a3, b3⟩, ⟨a4, b4⟩, ⟨a6, b6⟩, ⟨a14, b14⟩, ⟨a7, b7⟩, a13, b13⟩, rF, rP, rL⟩ := id hN
  intro u
  induction u with
  | zero =>
    intro k z5 hk
    have ek : k = (N 4).toNat := by omega
    have hb9 := cnt_b (p := (fun l => (N (119 + (l * 7 + 0))) = y)) k
    refine gm_sz (gm_p_load (pc := 5) (i := .iload 4) (sr := 0) (j := 4) (by decide +kernel) rfl rfl rfl) ?_
    refine gm_sz (gm_p_load (pc := 7) (i := .aload_n 0) (sr := 2) (j := 0) (by decide +kernel) rfl rfl rfl) ?_
    refine gm_c_virt (k := 226) (ci := 11) (mj := 254) (ix := 100) (pc := 8) (as := []) (st := [gm_vi (k : Int)]) (d' := d - 1) (bc' := 0) (bs' := 0) (by decide +kernel) (by decide +kernel) (by decide +kernel) (by decide +kernel) (e0k hE (k := 226) (c := 11) (by decide +kernel)).1 (e0k hE (k := 226) (c := 11) (by decide +kernel)).2 (by decide) (by decide +kernel) (show 0 = gm_na 254 by decide +kernel) fw_c0 (show 1 ≤ gm_ml 254 by decide +kernel) (Nat.le_of_ble_eq_true rfl) (by omega) (Nat.zero_le _) (Nat.zero_le _) ?_
    refine re_let hE hT hN ?_
    show gm_Wp X LX d _ _ 300 11 _ [gm_vi (N 4), gm_vi (k : Int)] n K _ _ Q
    refine fw_ict (cc := .ge) (pc := 11) (off := 97) (by decide +kernel) (by decide) ⟨by omega, by omega⟩ ⟨by omega, by omega⟩ (show (N 4) ≤ (k : Int) by omega) ?_
    refine gm_sz (gm_p_load (pc := 108) (i := .iload_n 3) (sr := 0) (j := 3) (by decide +kernel) rfl rfl rfl) ?_
    have h9 : Q (.inl (some (gm_vi (cnt (fun l => (N (119 + (l * 7 + 0))) = y) k)))) n K R M := by rw [ek]; exact hq
    exact gm_r_int (pc := 109) (by decide +kernel) (Or.inl (by decide +kernel)) h9
  | succ u ih =>
    intro k z5 hk
    have hb9 := cnt_b (p := (fun l => (N (119 + (l * 7 + 0))) = y)) k
    obtain ⟨r0, r1, r2, -, -, r5, -⟩ := rL (k : Int) (by omega) (by omega)
    have r0 : -1 ≤ N (119 + ((k : Int) * 7 + 0)) ∧ N (119 + ((k : Int) * 7 + 0)) < N 3 := r0
    have r1 : -1 ≤ N (119 + ((k : Int) * 7 + 1)) ∧ N (119 + ((k : Int) * 7 + 1)) < N 3 := r1
    have r2 : 0 ≤ N (119 + ((k : Int) * 7 + 2)) ∧ N (119 + ((k : Int) * 7 + 2)) < N 0 := r2
    have r5 : -1 ≤ N (119 + ((k : Int) * 7 + 5)) ∧ N (119 + ((k : Int) * 7 + 5)) < N 3 := r5
    refine gm_sz (gm_p_load (pc := 5) (i := .iload 4) (sr := 0) (j := 4) (by decide +kernel) rfl rfl rfl) ?_
    refine gm_sz (gm_p_load (pc := 7) (i := .aload_n 0) (sr := 2) (j := 0) (by decide +kernel) rfl rfl rfl) ?_
    refine gm_c_virt (k := 226) (ci := 11) (mj := 254) (ix := 100) (pc := 8) (as := []) (st := [gm_vi (k : Int)]) (d' := d - 1) (bc' := 0) (bs' := 0) (by decide +kernel) (by decide +kernel) (by decide +kernel) (by decide +kernel) (e0k hE (k := 226) (c := 11) (by decide +kernel)).1 (e0k hE (k := 226) (c := 11) (by decide +kernel)).2 (by decide) (by decide +kernel) (show 0 = gm_na 254 by decide +kernel) fw_c0 (show 1 ≤ gm_ml 254 by decide +kernel) (Nat.le_of_ble_eq_true rfl) (by omega) (Nat.zero_le _) (Nat.zero_le _) ?_
    refine re_let hE hT hN ?_
    show gm_Wp X LX d _ _ 300 11 _ [gm_vi (N 4), gm_vi (k : Int)] n K _ _ Q
    refine fw_icf (cc := .ge) (pc := 11) (off := 97) (by decide +kernel) (by decide) ⟨by omega, by omega⟩ ⟨by omega, by omega⟩ (show ¬ (N 4) ≤ (k : Int) by omega) ?_
    refine gm_sz (gm_p_load (pc := 14) (i := .iload_n 2) (sr := 0) (j := 2) (by decide +kernel) rfl rfl rfl) ?_
    refine gm_sz (gm_p_const (pc := 15) (i := .iconst 3) (v := gm_vi 3) (by decide +kernel) (by decide +kernel)) ?_
    refine fw_icfd (cc := .ne) (pc := 16) (off := 22) (by decide +kernel) (by decide) ⟨by decide, by decide⟩ ⟨by decide, by decide⟩ (by decide) ?_
    refine gm_sz (gm_p_load (pc := 19) (i := .aload_n 0) (sr := 2) (j := 0) (by decide +kernel) rfl rfl rfl) ?_
    refine gm_sz (gm_p_load (pc := 20) (i := .iload 4) (sr := 0) (j := 4) (by decide +kernel) rfl rfl rfl) ?_
    refine gm_sz (gm_p_const (pc := 22) (i := .iconst 0) (v := gm_vi 0) (by decide +kernel) (by decide +kernel)) ?_
    refine gm_c_virt (k := 226) (ci := 11) (mj := 301) (ix := 82) (pc := 23) (as := [gm_vi (k : Int), gm_vi 0]) (st := []) (d' := d - 1) (bc' := 0) (bs' := 0) (by decide +kernel) (by decide +kernel) (by decide +kernel) (by decide +kernel) (e0k hE (k := 226) (c := 11) (by decide +kernel)).1 (e0k hE (k := 226) (c := 11) (by decide +kernel)).2 (by decide) (by decide +kernel) (show 2 = gm_na 301 by decide +kernel) (fw_c2 fw_si fw_si) (show 3 ≤ gm_ml 301 by decide +kernel) (Nat.le_of_ble_eq_true rfl) (by omega) (Nat.zero_le _) (Nat.zero_le _) ?_
    refine re_ol hE hT hN ⟨by omega, by omega⟩ ⟨by omega, by omega⟩ ?_
    show gm_Wp X LX d _ _ 300 26 _ [gm_vi (N (119 + ((k : Int) * 7 + 0)))] n K _ _ Q
    refine gm_sz (gm_p_load (pc := 26) (i := .iload_n 1) (sr := 0) (j := 1) (by decide +kernel) rfl rfl rfl) ?_
    refine fw_ic (cc := .ne) (pc := 27) (off := 7) (by decide +kernel) (by decide) ⟨by omega, by omega⟩ hi (fun h27 => ?_) (fun h27 => ?_)
    · have h27 : ¬ (N (119 + ((k : Int) * 7 + 0))) = y := h27
      refine gm_sz (gm_p_const (pc := 34) (i := .iconst 0) (v := gm_vi 0) (by decide +kernel) (by decide +kernel)) ?_
      refine gm_sz (gm_p_goto (pc := 35) (off := 52) (by decide +kernel) (by decide)) ?_
      refine gm_sz (gm_p_stor (pc := 87) (i := .istore 5) (sr := 0) (j := 5) (by decide +kernel) rfl (show 6 ≤ _ from Nat.le_of_ble_eq_true rfl) rfl) ?_
      refine gm_sz (gm_p_load (pc := 89) (i := .iload_n 3) (sr := 0) (j := 3) (by decide +kernel) rfl rfl rfl) ?_
      refine gm_sz (gm_p_load (pc := 90) (i := .iload 5) (sr := 0) (j := 5) (by decide +kernel) rfl rfl rfl) ?_
      refine fw_iftd (cc := .eq) (pc := 92) (off := 7) (by decide +kernel) (by decide) ⟨by decide, by decide⟩ (by decide) ?_
      refine gm_sz (gm_p_const (pc := 99) (i := .iconst 0) (v := gm_vi 0) (by decide +kernel) (by decide +kernel)) ?_
      refine gm_sz (gm_p_bin (pc := 100) (i := .iadd) (f := fun x y => x + y) (by decide +kernel) rfl) ?_
      refine gm_sz (gm_p_stor (pc := 101) (i := .istore_n 3) (sr := 0) (j := 3) (by decide +kernel) rfl (show 4 ≤ _ from Nat.le_of_ble_eq_true rfl) rfl) ?_
      refine gm_sz (gm_p_iinc (pc := 102) (j := 4) (z := 1) (by decide +kernel) rfl) ?_
      refine gm_sz (gm_p_goto (pc := 105) (off := (-100)) (by decide +kernel) (by decide)) ?_
      rw [Int.add_zero]
      have e8 : ((k + 1 : Nat) : Int) = (k : Int) + 1 := by omega
      have e9 : cnt (fun l => (N (119 + (l * 7 + 0))) = y) (k + 1) = cnt (fun l => (N (119 + (l * 7 + 0))) = y) k := cnt_f (p := (fun l => (N (119 + (l * 7 + 0))) = y)) (show ¬ ((N (119 + ((k : Int) * 7 + 0))) = y) from by omega)
      have h9 := ih (k + 1) (some (gm_vi 0)) (by omega)
      rw [e9, e8] at h9
      exact h9
    · have h27 : (N (119 + ((k : Int) * 7 + 0))) = y := Classical.not_not.mp h27
      refine gm_sz (gm_p_const (pc := 30) (i := .iconst 1) (v := gm_vi 1) (by decide +kernel) (by decide +kernel)) ?_
      refine gm_sz (gm_p_goto (pc := 31) (off := 56) (by decide +kernel) (by decide)) ?_
      refine gm_sz (gm_p_stor (pc := 87) (i := .istore 5) (sr := 0) (j := 5) (by decide +kernel) rfl (show 6 ≤ _ from Nat.le_of_ble_eq_true rfl) rfl) ?_
      refine gm_sz (gm_p_load (pc := 89) (i := .iload_n 3) (sr := 0) (j := 3) (by decide +kernel) rfl rfl rfl) ?_
      refine gm_sz (gm_p_load (pc := 90) (i := .iload 5) (sr := 0) (j := 5) (by decide +kernel) rfl rfl rfl) ?_
      refine fw_iffd (cc := .eq) (pc := 92) (off := 7) (by decide +kernel) (by decide) ⟨by decide, by decide⟩ (by decide) ?_
      refine gm_sz (gm_p_const (pc := 95) (i := .iconst 1) (v := gm_vi 1) (by decide +kernel) (by decide +kernel)) ?_
      refine gm_sz (gm_p_goto (pc := 96) (off := 4) (by decide +kernel) (by decide)) ?_
      refine gm_sz (gm_p_bin (pc := 100) (i := .iadd) (f := fun x y => x + y) (by decide +kernel) rfl) ?_
      refine gm_sz (gm_p_stor (pc := 101) (i := .istore_n 3) (sr := 0) (j := 3) (by decide +kernel) rfl (show 4 ≤ _ from Nat.le_of_ble_eq_true rfl) rfl) ?_
      refine gm_sz (gm_p_iinc (pc := 102) (j := 4) (z := 1) (by decide +kernel) rfl) ?_
      refine gm_sz (gm_p_goto (pc := 105) (off := (-100)) (by decide +kernel) (by decide)) ?_
      have e8 : ((k + 1 : Nat) : Int) = (k : Int) + 1 := by omega
      have e9 : cnt (fun l => (N (119 + (l * 7 + 0))) = y) (k + 1) = (cnt (fun l => (N (119 + (l * 7 + 0))) = y) k) + 1 := cnt_t (p := (fun l => (N (119 + (l * 7 + 0))) = y)) (show (N (119 + ((k : Int) * 7 + 0))) = y from by omega)
      have h9 := ih (k + 1) (some (gm_vi 1)) (by omega)
      rw [e9, e8] at h9
      exact h9
theorem co4_r (hd : 4 ≤ d) (hE : E0 n K R) (hT : TR N h M) (hN : NR N) (hi : gm_ir y) (hq : Q (.inl (some (gm_vi (cnt (fun l => (N (119 + (l * 7 + 5))) = y) (N 4).toNat)))) n K R M) : ∀ (u k : Nat) (z5 : Option gm_V), (k : Int) + (u : Int) = N 4 → gm_Wp X LX d bc bs 300 5 [some (gm_vr 226), some (gm_vi y), some (gm_vi 4), some (gm_vi (cnt (fun l => (N (119 + (l * 7 + 5))) = y) k)), some (gm_vi (k : Int)), z5] [] n K R M Q := by
  obtain ⟨⟨⟨a0, b0⟩, ⟨a1, b1⟩, ⟨a10, b10⟩, ⟨a11, b11⟩, ⟨a12, b12⟩, a9, b9⟩, ⟨⟨a2, b2⟩, ⟨a5, b5⟩, ⟨a3, b3⟩, ⟨a4, b4⟩, ⟨a6, b6⟩, ⟨a14, b14⟩, ⟨a7, b7⟩, a13, b13⟩, rF, rP, rL⟩ := id hN
  intro u
  induction u with
  | zero =>
    intro k z5 hk
    have ek : k = (N 4).toNat := by omega
    have hb9 := cnt_b (p := (fun l => (N (119 + (l * 7 + 5))) = y)) k
    refine gm_sz (gm_p_load (pc := 5) (i := .iload 4) (sr := 0) (j := 4) (by decide +kernel) rfl rfl rfl) ?_
    refine gm_sz (gm_p_load (pc := 7) (i := .aload_n 0) (sr := 2) (j := 0) (by decide +kernel) rfl rfl rfl) ?_
    refine gm_c_virt (k := 226) (ci := 11) (mj := 254) (ix := 100) (pc := 8) (as := []) (st := [gm_vi (k : Int)]) (d' := d - 1) (bc' := 0) (bs' := 0) (by decide +kernel) (by decide +kernel) (by decide +kernel) (by decide +kernel) (e0k hE (k := 226) (c := 11) (by decide +kernel)).1 (e0k hE (k := 226) (c := 11) (by decide +kernel)).2 (by decide) (by decide +kernel) (show 0 = gm_na 254 by decide +kernel) fw_c0 (show 1 ≤ gm_ml 254 by decide +kernel) (Nat.le_of_ble_eq_true rfl) (by omega) (Nat.zero_le _) (Nat.zero_le _) ?_
    refine re_let hE hT hN ?_
    show gm_Wp X LX d _ _ 300 11 _ [gm_vi (N 4), gm_vi (k : Int)] n K _ _ Q
    refine fw_ict (cc := .ge) (pc := 11) (off := 97) (by decide +kernel) (by decide) ⟨by omega, by omega⟩ ⟨by omega, by omega⟩ (show (N 4) ≤ (k : Int) by omega) ?_
    refine gm_sz (gm_p_load (pc := 108) (i := .iload_n 3) (sr := 0) (j := 3) (by decide +kernel) rfl rfl rfl) ?_
    have h9 : Q (.inl (some (gm_vi (cnt (fun l => (N (119 + (l * 7 + 5))) = y) k)))) n K R M := by rw [ek]; exact hq
    exact gm_r_int (pc := 109) (by decide +kernel) (Or.inl (by decide +kernel)) h9
  | succ u ih =>
    intro k z5 hk
    have hb9 := cnt_b (p := (fun l => (N (119 + (l * 7 + 5))) = y)) k
    obtain ⟨r0, r1, r2, -, -, r5, -⟩ := rL (k : Int) (by omega) (by omega)
    have r0 : -1 ≤ N (119 + ((k : Int) * 7 + 0)) ∧ N (119 + ((k : Int) * 7 + 0)) < N 3 := r0
    have r1 : -1 ≤ N (119 + ((k : Int) * 7 + 1)) ∧ N (119 + ((k : Int) * 7 + 1)) < N 3 := r1
    have r2 : 0 ≤ N (119 + ((k : Int) * 7 + 2)) ∧ N (119 + ((k : Int) * 7 + 2)) < N 0 := r2
    have r5 : -1 ≤ N (119 + ((k : Int) * 7 + 5)) ∧ N (119 + ((k : Int) * 7 + 5)) < N 3 := r5
    refine gm_sz (gm_p_load (pc := 5) (i := .iload 4) (sr := 0) (j := 4) (by decide +kernel) rfl rfl rfl) ?_
    refine gm_sz (gm_p_load (pc := 7) (i := .aload_n 0) (sr := 2) (j := 0) (by decide +kernel) rfl rfl rfl) ?_
    refine gm_c_virt (k := 226) (ci := 11) (mj := 254) (ix := 100) (pc := 8) (as := []) (st := [gm_vi (k : Int)]) (d' := d - 1) (bc' := 0) (bs' := 0) (by decide +kernel) (by decide +kernel) (by decide +kernel) (by decide +kernel) (e0k hE (k := 226) (c := 11) (by decide +kernel)).1 (e0k hE (k := 226) (c := 11) (by decide +kernel)).2 (by decide) (by decide +kernel) (show 0 = gm_na 254 by decide +kernel) fw_c0 (show 1 ≤ gm_ml 254 by decide +kernel) (Nat.le_of_ble_eq_true rfl) (by omega) (Nat.zero_le _) (Nat.zero_le _) ?_
    refine re_let hE hT hN ?_
    show gm_Wp X LX d _ _ 300 11 _ [gm_vi (N 4), gm_vi (k : Int)] n K _ _ Q
    refine fw_icf (cc := .ge) (pc := 11) (off := 97) (by decide +kernel) (by decide) ⟨by omega, by omega⟩ ⟨by omega, by omega⟩ (show ¬ (N 4) ≤ (k : Int) by omega) ?_
    refine gm_sz (gm_p_load (pc := 14) (i := .iload_n 2) (sr := 0) (j := 2) (by decide +kernel) rfl rfl rfl) ?_
    refine gm_sz (gm_p_const (pc := 15) (i := .iconst 3) (v := gm_vi 3) (by decide +kernel) (by decide +kernel)) ?_
    refine fw_ictd (cc := .ne) (pc := 16) (off := 22) (by decide +kernel) (by decide) ⟨by decide, by decide⟩ ⟨by decide, by decide⟩ (by decide) ?_
    refine gm_sz (gm_p_load (pc := 38) (i := .iload_n 2) (sr := 0) (j := 2) (by decide +kernel) rfl rfl rfl) ?_
    refine gm_sz (gm_p_const (pc := 39) (i := .iconst 4) (v := gm_vi 4) (by decide +kernel) (by decide +kernel)) ?_
    refine fw_icfd (cc := .ne) (pc := 40) (off := 22) (by decide +kernel) (by decide) ⟨by decide, by decide⟩ ⟨by decide, by decide⟩ (by decide) ?_
    refine gm_sz (gm_p_load (pc := 43) (i := .aload_n 0) (sr := 2) (j := 0) (by decide +kernel) rfl rfl rfl) ?_
    refine gm_sz (gm_p_load (pc := 44) (i := .iload 4) (sr := 0) (j := 4) (by decide +kernel) rfl rfl rfl) ?_
    refine gm_sz (gm_p_const (pc := 46) (i := .iconst 5) (v := gm_vi 5) (by decide +kernel) (by decide +kernel)) ?_
    refine gm_c_virt (k := 226) (ci := 11) (mj := 301) (ix := 82) (pc := 47) (as := [gm_vi (k : Int), gm_vi 5]) (st := []) (d' := d - 1) (bc' := 0) (bs' := 0) (by decide +kernel) (by decide +kernel) (by decide +kernel) (by decide +kernel) (e0k hE (k := 226) (c := 11) (by decide +kernel)).1 (e0k hE (k := 226) (c := 11) (by decide +kernel)).2 (by decide) (by decide +kernel) (show 2 = gm_na 301 by decide +kernel) (fw_c2 fw_si fw_si) (show 3 ≤ gm_ml 301 by decide +kernel) (Nat.le_of_ble_eq_true rfl) (by omega) (Nat.zero_le _) (Nat.zero_le _) ?_
    refine re_ol hE hT hN ⟨by omega, by omega⟩ ⟨by omega, by omega⟩ ?_
    show gm_Wp X LX d _ _ 300 50 _ [gm_vi (N (119 + ((k : Int) * 7 + 5)))] n K _ _ Q
    refine gm_sz (gm_p_load (pc := 50) (i := .iload_n 1) (sr := 0) (j := 1) (by decide +kernel) rfl rfl rfl) ?_
    refine fw_ic (cc := .ne) (pc := 51) (off := 7) (by decide +kernel) (by decide) ⟨by omega, by omega⟩ hi (fun h51 => ?_) (fun h51 => ?_)
    · have h51 : ¬ (N (119 + ((k : Int) * 7 + 5))) = y := h51
      refine gm_sz (gm_p_const (pc := 58) (i := .iconst 0) (v := gm_vi 0) (by decide +kernel) (by decide +kernel)) ?_
      refine gm_sz (gm_p_goto (pc := 59) (off := 28) (by decide +kernel) (by decide)) ?_
      refine gm_sz (gm_p_stor (pc := 87) (i := .istore 5) (sr := 0) (j := 5) (by decide +kernel) rfl (show 6 ≤ _ from Nat.le_of_ble_eq_true rfl) rfl) ?_
      refine gm_sz (gm_p_load (pc := 89) (i := .iload_n 3) (sr := 0) (j := 3) (by decide +kernel) rfl rfl rfl) ?_
      refine gm_sz (gm_p_load (pc := 90) (i := .iload 5) (sr := 0) (j := 5) (by decide +kernel) rfl rfl rfl) ?_
      refine fw_iftd (cc := .eq) (pc := 92) (off := 7) (by decide +kernel) (by decide) ⟨by decide, by decide⟩ (by decide) ?_
      refine gm_sz (gm_p_const (pc := 99) (i := .iconst 0) (v := gm_vi 0) (by decide +kernel) (by decide +kernel)) ?_
      refine gm_sz (gm_p_bin (pc := 100) (i := .iadd) (f := fun x y => x + y) (by decide +kernel) rfl) ?_
      refine gm_sz (gm_p_stor (pc := 101) (i := .istore_n 3) (sr := 0) (j := 3) (by decide +kernel) rfl (show 4 ≤ _ from Nat.le_of_ble_eq_true rfl) rfl) ?_
      refine gm_sz (gm_p_iinc (pc := 102) (j := 4) (z := 1) (by decide +kernel) rfl) ?_
      refine gm_sz (gm_p_goto (pc := 105) (off := (-100)) (by decide +kernel) (by decide)) ?_
      rw [Int.add_zero]
      have e8 : ((k + 1 : Nat) : Int) = (k : Int) + 1 := by omega
      have e9 : cnt (fun l => (N (119 + (l * 7 + 5))) = y) (k + 1) = cnt (fun l => (N (119 + (l * 7 + 5))) = y) k := cnt_f (p := (fun l => (N (119 + (l * 7 + 5))) = y)) (show ¬ ((N (119 + ((k : Int) * 7 + 5))) = y) from by omega)
      have h9 := ih (k + 1) (some (gm_vi 0)) (by omega)
      rw [e9, e8] at h9
      exact h9
    · have h51 : (N (119 + ((k : Int) * 7 + 5))) = y := Classical.not_not.mp h51
      refine gm_sz (gm_p_const (pc := 54) (i := .iconst 1) (v := gm_vi 1) (by decide +kernel) (by decide +kernel)) ?_
      refine gm_sz (gm_p_goto (pc := 55) (off := 32) (by decide +kernel) (by decide)) ?_
      refine gm_sz (gm_p_stor (pc := 87) (i := .istore 5) (sr := 0) (j := 5) (by decide +kernel) rfl (show 6 ≤ _ from Nat.le_of_ble_eq_true rfl) rfl) ?_
      refine gm_sz (gm_p_load (pc := 89) (i := .iload_n 3) (sr := 0) (j := 3) (by decide +kernel) rfl rfl rfl) ?_
      refine gm_sz (gm_p_load (pc := 90) (i := .iload 5) (sr := 0) (j := 5) (by decide +kernel) rfl rfl rfl) ?_
      refine fw_iffd (cc := .eq) (pc := 92) (off := 7) (by decide +kernel) (by decide) ⟨by decide, by decide⟩ (by decide) ?_
      refine gm_sz (gm_p_const (pc := 95) (i := .iconst 1) (v := gm_vi 1) (by decide +kernel) (by decide +kernel)) ?_
      refine gm_sz (gm_p_goto (pc := 96) (off := 4) (by decide +kernel) (by decide)) ?_
      refine gm_sz (gm_p_bin (pc := 100) (i := .iadd) (f := fun x y => x + y) (by decide +kernel) rfl) ?_
      refine gm_sz (gm_p_stor (pc := 101) (i := .istore_n 3) (sr := 0) (j := 3) (by decide +kernel) rfl (show 4 ≤ _ from Nat.le_of_ble_eq_true rfl) rfl) ?_
      refine gm_sz (gm_p_iinc (pc := 102) (j := 4) (z := 1) (by decide +kernel) rfl) ?_
      refine gm_sz (gm_p_goto (pc := 105) (off := (-100)) (by decide +kernel) (by decide)) ?_
      have e8 : ((k + 1 : Nat) : Int) = (k : Int) + 1 := by omega
      have e9 : cnt (fun l => (N (119 + (l * 7 + 5))) = y) (k + 1) = (cnt (fun l => (N (119 + (l * 7 + 5))) = y) k) + 1 := cnt_t (p := (fun l => (N (119 + (l * 7 + 5))) = y)) (show (N (119 + ((k : Int) * 7 + 5))) = y from by omega)
      have h9 := ih (k + 1) (some (gm_vi 1)) (by omega)
      rw [e9, e8] at h9
      exact h9
theorem co5_r (hd : 20 ≤ d) (hE : E0 n K R) (hT : TR N h M) (hN : NR N) (hfw : FLR X LX n K R N h FI φ) (hI : FI M) (hoo : ∀ l, 0 ≤ l → l < N 4 → OUTR N h φ l (o l) (dd l)) (h0 : M 226 0 = 0) (hob : ∀ l, 0 ≤ l → l < N 4 → -1 ≤ o l ∧ o l ≤ 299) (hi : gm_ir y) (hq : ∀ M2, M2 226 0 = 0 → Q (.inl (some (gm_vi (cnt (fun l => (N (119 + (l * 7 + 1))) = y ∧ (¬ (N (119 + (l * 7 + 0))) = -1 ∧ (N (119 + (l * 7 + 5))) = -1 ∧ ¬ o l = -1 ∧ o l ≤ N 9)) (N 4).toNat)))) n K R M2) : ∀ (u k : Nat) (z5 : Option gm_V) (M1 : gm_M), (k : Int) + (u : Int) = N 4 → fr [(226, some 29), (226, some 30), (226, some 26), (226, some 17), (226, some 18), (226, some 19), (226, some 20), (226, some 21), (226, some 22), (226, some 23), (235, none), (233, none), (236, none), (237, none)] M M1 → FI M1 → gm_Wp X LX d bc bs 300 5 [some (gm_vr 226), some (gm_vi y), some (gm_vi 5), some (gm_vi (cnt (fun l => (N (119 + (l * 7 + 1))) = y ∧ (¬ (N (119 + (l * 7 + 0))) = -1 ∧ (N (119 + (l * 7 + 5))) = -1 ∧ ¬ o l = -1 ∧ o l ≤ N 9)) k)), some (gm_vi (k : Int)), z5] [] n K R M1 Q := by
  obtain ⟨⟨⟨a0, b0⟩, ⟨a1, b1⟩, ⟨a10, b10⟩, ⟨a11, b11⟩, ⟨a12, b12⟩, a9, b9⟩, ⟨⟨a2, b2⟩, ⟨a5, b5⟩, ⟨a3, b3⟩, ⟨a4, b4⟩, ⟨a6, b6⟩, ⟨a14, b14⟩, ⟨a7, b7⟩, a13, b13⟩, rF, rP, rL⟩ := id hN
  intro u
  induction u with
  | zero =>
    intro k z5 M1 hk hf hI1
    have ek : k = (N 4).toNat := by omega
    have hb9 := cnt_b (p := (fun l => (N (119 + (l * 7 + 1))) = y ∧ (¬ (N (119 + (l * 7 + 0))) = -1 ∧ (N (119 + (l * 7 + 5))) = -1 ∧ ¬ o l = -1 ∧ o l ≤ N 9))) k
    refine gm_sz (gm_p_load (pc := 5) (i := .iload 4) (sr := 0) (j := 4) (by decide +kernel) rfl rfl rfl) ?_
    refine gm_sz (gm_p_load (pc := 7) (i := .aload_n 0) (sr := 2) (j := 0) (by decide +kernel) rfl rfl rfl) ?_
    refine gm_c_virt (k := 226) (ci := 11) (mj := 254) (ix := 100) (pc := 8) (as := []) (st := [gm_vi (k : Int)]) (d' := d - 1) (bc' := 0) (bs' := 0) (by decide +kernel) (by decide +kernel) (by decide +kernel) (by decide +kernel) (e0k hE (k := 226) (c := 11) (by decide +kernel)).1 (e0k hE (k := 226) (c := 11) (by decide +kernel)).2 (by decide) (by decide +kernel) (show 0 = gm_na 254 by decide +kernel) fw_c0 (show 1 ≤ gm_ml 254 by decide +kernel) (Nat.le_of_ble_eq_true rfl) (by omega) (Nat.zero_le _) (Nat.zero_le _) ?_
    refine re_let hE (tr_fr (W := [(226, some 29), (226, some 30), (226, some 26), (226, some 17), (226, some 18), (226, some 19), (226, some 20), (226, some 21), (226, some 22), (226, some 23), (235, none), (233, none), (236, none), (237, none)]) hT (fr_t fr_0 hf (by decide)) (by decide)) hN ?_
    show gm_Wp X LX d _ _ 300 11 _ [gm_vi (N 4), gm_vi (k : Int)] n K _ _ Q
    refine fw_ict (cc := .ge) (pc := 11) (off := 97) (by decide +kernel) (by decide) ⟨by omega, by omega⟩ ⟨by omega, by omega⟩ (show (N 4) ≤ (k : Int) by omega) ?_
    refine gm_sz (gm_p_load (pc := 108) (i := .iload_n 3) (sr := 0) (j := 3) (by decide +kernel) rfl rfl rfl) ?_
    have h9 : Q (.inl (some (gm_vi (cnt (fun l => (N (119 + (l * 7 + 1))) = y ∧ (¬ (N (119 + (l * 7 + 0))) = -1 ∧ (N (119 + (l * 7 + 5))) = -1 ∧ ¬ o l = -1 ∧ o l ≤ N 9)) k)))) n K R M1 := by rw [ek]; exact hq _ ((fr_j hf (by decide)).trans h0)
    exact gm_r_int (pc := 109) (by decide +kernel) (Or.inl (by decide +kernel)) h9
  | succ u ih =>
    intro k z5 M1 hk hf hI1
    have hb9 := cnt_b (p := (fun l => (N (119 + (l * 7 + 1))) = y ∧ (¬ (N (119 + (l * 7 + 0))) = -1 ∧ (N (119 + (l * 7 + 5))) = -1 ∧ ¬ o l = -1 ∧ o l ≤ N 9))) k
    have ob9 := hob (k : Int) (by omega) (by omega)
    obtain ⟨r0, r1, r2, -, -, r5, -⟩ := rL (k : Int) (by omega) (by omega)
    have r0 : -1 ≤ N (119 + ((k : Int) * 7 + 0)) ∧ N (119 + ((k : Int) * 7 + 0)) < N 3 := r0
    have r1 : -1 ≤ N (119 + ((k : Int) * 7 + 1)) ∧ N (119 + ((k : Int) * 7 + 1)) < N 3 := r1
    have r2 : 0 ≤ N (119 + ((k : Int) * 7 + 2)) ∧ N (119 + ((k : Int) * 7 + 2)) < N 0 := r2
    have r5 : -1 ≤ N (119 + ((k : Int) * 7 + 5)) ∧ N (119 + ((k : Int) * 7 + 5)) < N 3 := r5
    refine gm_sz (gm_p_load (pc := 5) (i := .iload 4) (sr := 0) (j := 4) (by decide +kernel) rfl rfl rfl) ?_
    refine gm_sz (gm_p_load (pc := 7) (i := .aload_n 0) (sr := 2) (j := 0) (by decide +kernel) rfl rfl rfl) ?_
    refine gm_c_virt (k := 226) (ci := 11) (mj := 254) (ix := 100) (pc := 8) (as := []) (st := [gm_vi (k : Int)]) (d' := d - 1) (bc' := 0) (bs' := 0) (by decide +kernel) (by decide +kernel) (by decide +kernel) (by decide +kernel) (e0k hE (k := 226) (c := 11) (by decide +kernel)).1 (e0k hE (k := 226) (c := 11) (by decide +kernel)).2 (by decide) (by decide +kernel) (show 0 = gm_na 254 by decide +kernel) fw_c0 (show 1 ≤ gm_ml 254 by decide +kernel) (Nat.le_of_ble_eq_true rfl) (by omega) (Nat.zero_le _) (Nat.zero_le _) ?_
    refine re_let hE (tr_fr (W := [(226, some 29), (226, some 30), (226, some 26), (226, some 17), (226, some 18), (226, some 19), (226, some 20), (226, some 21), (226, some 22), (226, some 23), (235, none), (233, none), (236, none), (237, none)]) hT (fr_t fr_0 hf (by decide)) (by decide)) hN ?_
    show gm_Wp X LX d _ _ 300 11 _ [gm_vi (N 4), gm_vi (k : Int)] n K _ _ Q
    refine fw_icf (cc := .ge) (pc := 11) (off := 97) (by decide +kernel) (by decide) ⟨by omega, by omega⟩ ⟨by omega, by omega⟩ (show ¬ (N 4) ≤ (k : Int) by omega) ?_
    refine gm_sz (gm_p_load (pc := 14) (i := .iload_n 2) (sr := 0) (j := 2) (by decide +kernel) rfl rfl rfl) ?_
    refine gm_sz (gm_p_const (pc := 15) (i := .iconst 3) (v := gm_vi 3) (by decide +kernel) (by decide +kernel)) ?_
    refine fw_ictd (cc := .ne) (pc := 16) (off := 22) (by decide +kernel) (by decide) ⟨by decide, by decide⟩ ⟨by decide, by decide⟩ (by decide) ?_
    refine gm_sz (gm_p_load (pc := 38) (i := .iload_n 2) (sr := 0) (j := 2) (by decide +kernel) rfl rfl rfl) ?_
    refine gm_sz (gm_p_const (pc := 39) (i := .iconst 4) (v := gm_vi 4) (by decide +kernel) (by decide +kernel)) ?_
    refine fw_ictd (cc := .ne) (pc := 40) (off := 22) (by decide +kernel) (by decide) ⟨by decide, by decide⟩ ⟨by decide, by decide⟩ (by decide) ?_
    refine gm_sz (gm_p_load (pc := 62) (i := .aload_n 0) (sr := 2) (j := 0) (by decide +kernel) rfl rfl rfl) ?_
    refine gm_sz (gm_p_load (pc := 63) (i := .iload 4) (sr := 0) (j := 4) (by decide +kernel) rfl rfl rfl) ?_
    refine gm_sz (gm_p_const (pc := 65) (i := .iconst 1) (v := gm_vi 1) (by decide +kernel) (by decide +kernel)) ?_
    refine gm_c_virt (k := 226) (ci := 11) (mj := 301) (ix := 82) (pc := 66) (as := [gm_vi (k : Int), gm_vi 1]) (st := []) (d' := d - 1) (bc' := 0) (bs' := 0) (by decide +kernel) (by decide +kernel) (by decide +kernel) (by decide +kernel) (e0k hE (k := 226) (c := 11) (by decide +kernel)).1 (e0k hE (k := 226) (c := 11) (by decide +kernel)).2 (by decide) (by decide +kernel) (show 2 = gm_na 301 by decide +kernel) (fw_c2 fw_si fw_si) (show 3 ≤ gm_ml 301 by decide +kernel) (Nat.le_of_ble_eq_true rfl) (by omega) (Nat.zero_le _) (Nat.zero_le _) ?_
    refine re_ol hE (tr_fr (W := [(226, some 29), (226, some 30), (226, some 26), (226, some 17), (226, some 18), (226, some 19), (226, some 20), (226, some 21), (226, some 22), (226, some 23), (235, none), (233, none), (236, none), (237, none)]) hT (fr_t fr_0 hf (by decide)) (by decide)) hN ⟨by omega, by omega⟩ ⟨by omega, by omega⟩ ?_
    show gm_Wp X LX d _ _ 300 69 _ [gm_vi (N (119 + ((k : Int) * 7 + 1)))] n K _ _ Q
    refine gm_sz (gm_p_load (pc := 69) (i := .iload_n 1) (sr := 0) (j := 1) (by decide +kernel) rfl rfl rfl) ?_
    refine fw_ic (cc := .ne) (pc := 70) (off := 16) (by decide +kernel) (by decide) ⟨by omega, by omega⟩ hi (fun h70 => ?_) (fun h70 => ?_)
    · have h70 : ¬ (N (119 + ((k : Int) * 7 + 1))) = y := h70
      refine gm_sz (gm_p_const (pc := 86) (i := .iconst 0) (v := gm_vi 0) (by decide +kernel) (by decide +kernel)) ?_
      refine gm_sz (gm_p_stor (pc := 87) (i := .istore 5) (sr := 0) (j := 5) (by decide +kernel) rfl (show 6 ≤ _ from Nat.le_of_ble_eq_true rfl) rfl) ?_
      refine gm_sz (gm_p_load (pc := 89) (i := .iload_n 3) (sr := 0) (j := 3) (by decide +kernel) rfl rfl rfl) ?_
      refine gm_sz (gm_p_load (pc := 90) (i := .iload 5) (sr := 0) (j := 5) (by decide +kernel) rfl rfl rfl) ?_
      refine fw_iftd (cc := .eq) (pc := 92) (off := 7) (by decide +kernel) (by decide) ⟨by decide, by decide⟩ (by decide) ?_
      refine gm_sz (gm_p_const (pc := 99) (i := .iconst 0) (v := gm_vi 0) (by decide +kernel) (by decide +kernel)) ?_
      refine gm_sz (gm_p_bin (pc := 100) (i := .iadd) (f := fun x y => x + y) (by decide +kernel) rfl) ?_
      refine gm_sz (gm_p_stor (pc := 101) (i := .istore_n 3) (sr := 0) (j := 3) (by decide +kernel) rfl (show 4 ≤ _ from Nat.le_of_ble_eq_true rfl) rfl) ?_
      refine gm_sz (gm_p_iinc (pc := 102) (j := 4) (z := 1) (by decide +kernel) rfl) ?_
      refine gm_sz (gm_p_goto (pc := 105) (off := (-100)) (by decide +kernel) (by decide)) ?_
      rw [Int.add_zero]
      have e8 : ((k + 1 : Nat) : Int) = (k : Int) + 1 := by omega
      have e9 : cnt (fun l => (N (119 + (l * 7 + 1))) = y ∧ (¬ (N (119 + (l * 7 + 0))) = -1 ∧ (N (119 + (l * 7 + 5))) = -1 ∧ ¬ o l = -1 ∧ o l ≤ N 9)) (k + 1) = cnt (fun l => (N (119 + (l * 7 + 1))) = y ∧ (¬ (N (119 + (l * 7 + 0))) = -1 ∧ (N (119 + (l * 7 + 5))) = -1 ∧ ¬ o l = -1 ∧ o l ≤ N 9)) k := cnt_f (p := (fun l => (N (119 + (l * 7 + 1))) = y ∧ (¬ (N (119 + (l * 7 + 0))) = -1 ∧ (N (119 + (l * 7 + 5))) = -1 ∧ ¬ o l = -1 ∧ o l ≤ N 9))) (show ¬ ((N (119 + ((k : Int) * 7 + 1))) = y ∧ (¬ (N (119 + ((k : Int) * 7 + 0))) = -1 ∧ (N (119 + ((k : Int) * 7 + 5))) = -1 ∧ ¬ o (k : Int) = -1 ∧ o (k : Int) ≤ N 9)) from by omega)
      have h9 := ih (k + 1) (some (gm_vi 0)) _ (by omega) (fr_t fr_0 hf (by decide)) hI1
      rw [e9, e8] at h9
      exact h9
    · have h70 : (N (119 + ((k : Int) * 7 + 1))) = y := Classical.not_not.mp h70
      refine gm_sz (gm_p_load (pc := 73) (i := .aload_n 0) (sr := 2) (j := 0) (by decide +kernel) rfl rfl rfl) ?_
      refine gm_sz (gm_p_load (pc := 74) (i := .iload 4) (sr := 0) (j := 4) (by decide +kernel) rfl rfl rfl) ?_
      refine gm_c_virt (k := 226) (ci := 11) (mj := 302) (ix := 390) (pc := 76) (as := [gm_vi (k : Int)]) (st := []) (d' := d - 1) (bc' := 0) (bs' := 0) (by decide +kernel) (by decide +kernel) (by decide +kernel) (by decide +kernel) (e0k hE (k := 226) (c := 11) (by decide +kernel)).1 (e0k hE (k := 226) (c := 11) (by decide +kernel)).2 (by decide) (by decide +kernel) (show 1 = gm_na 302 by decide +kernel) (fw_c1 fw_si) (show 2 ≤ gm_ml 302 by decide +kernel) (Nat.le_of_ble_eq_true rfl) (by omega) (Nat.zero_le _) (Nat.zero_le _) ?_
      refine rw_c302 (o := o) (dd := dd) (by omega) hE (tr_fr (W := [(226, some 29), (226, some 30), (226, some 26), (226, some 17), (226, some 18), (226, some 19), (226, some 20), (226, some 21), (226, some 22), (226, some 23), (235, none), (233, none), (236, none), (237, none)]) hT (fr_t fr_0 hf (by decide)) (by decide)) hN hfw hI1 ⟨by omega, by omega⟩ (hoo (k : Int) (by omega) (by omega)) (fun v25 M21 hf21 hI21 e29 e37 => ?_) (fun v25 M21 hf21 hI21 => ?_)
      · show gm_Wp X LX d _ _ 300 79 _ [gm_vi 1] n K _ _ Q
        have v25 : ¬ ((N (119 + ((k : Int) * 7 + 0)))) = -1 ∧ ((N (119 + ((k : Int) * 7 + 5)))) = -1 ∧ ¬ (o (k : Int)) = -1 ∧ (o (k : Int)) ≤ N 9 := v25
        refine fw_iffd (cc := .eq) (pc := 79) (off := 7) (by decide +kernel) (by decide) ⟨by decide, by decide⟩ (by decide) ?_
        refine gm_sz (gm_p_const (pc := 82) (i := .iconst 1) (v := gm_vi 1) (by decide +kernel) (by decide +kernel)) ?_
        refine gm_sz (gm_p_goto (pc := 83) (off := 4) (by decide +kernel) (by decide)) ?_
        refine gm_sz (gm_p_stor (pc := 87) (i := .istore 5) (sr := 0) (j := 5) (by decide +kernel) rfl (show 6 ≤ _ from Nat.le_of_ble_eq_true rfl) rfl) ?_
        refine gm_sz (gm_p_load (pc := 89) (i := .iload_n 3) (sr := 0) (j := 3) (by decide +kernel) rfl rfl rfl) ?_
        refine gm_sz (gm_p_load (pc := 90) (i := .iload 5) (sr := 0) (j := 5) (by decide +kernel) rfl rfl rfl) ?_
        refine fw_iffd (cc := .eq) (pc := 92) (off := 7) (by decide +kernel) (by decide) ⟨by decide, by decide⟩ (by decide) ?_
        refine gm_sz (gm_p_const (pc := 95) (i := .iconst 1) (v := gm_vi 1) (by decide +kernel) (by decide +kernel)) ?_
        refine gm_sz (gm_p_goto (pc := 96) (off := 4) (by decide +kernel) (by decide)) ?_
        refine gm_sz (gm_p_bin (pc := 100) (i := .iadd) (f := fun x y => x + y) (by decide +kernel) rfl) ?_
        refine gm_sz (gm_p_stor (pc := 101) (i := .istore_n 3) (sr := 0) (j := 3) (by decide +kernel) rfl (show 4 ≤ _ from Nat.le_of_ble_eq_true rfl) rfl) ?_
        refine gm_sz (gm_p_iinc (pc := 102) (j := 4) (z := 1) (by decide +kernel) rfl) ?_
        refine gm_sz (gm_p_goto (pc := 105) (off := (-100)) (by decide +kernel) (by decide)) ?_
        have e8 : ((k + 1 : Nat) : Int) = (k : Int) + 1 := by omega
        have e9 : cnt (fun l => (N (119 + (l * 7 + 1))) = y ∧ (¬ (N (119 + (l * 7 + 0))) = -1 ∧ (N (119 + (l * 7 + 5))) = -1 ∧ ¬ o l = -1 ∧ o l ≤ N 9)) (k + 1) = (cnt (fun l => (N (119 + (l * 7 + 1))) = y ∧ (¬ (N (119 + (l * 7 + 0))) = -1 ∧ (N (119 + (l * 7 + 5))) = -1 ∧ ¬ o l = -1 ∧ o l ≤ N 9)) k) + 1 := cnt_t (p := (fun l => (N (119 + (l * 7 + 1))) = y ∧ (¬ (N (119 + (l * 7 + 0))) = -1 ∧ (N (119 + (l * 7 + 5))) = -1 ∧ ¬ o l = -1 ∧ o l ≤ N 9))) (show (N (119 + ((k : Int) * 7 + 1))) = y ∧ (¬ (N (119 + ((k : Int) * 7 + 0))) = -1 ∧ (N (119 + ((k : Int) * 7 + 5))) = -1 ∧ ¬ o (k : Int) = -1 ∧ o (k : Int) ≤ N 9) from by omega)
        have h9 := ih (k + 1) (some (gm_vi 1)) _ (by omega) (fr_t (fr_t fr_0 hf (by decide)) hf21 (by decide)) hI21
        rw [e9, e8] at h9
        exact h9
      · show gm_Wp X LX d _ _ 300 79 _ [gm_vi 0] n K _ _ Q
        have v25 : ¬ (¬ ((N (119 + ((k : Int) * 7 + 0)))) = -1 ∧ ((N (119 + ((k : Int) * 7 + 5)))) = -1 ∧ ¬ (o (k : Int)) = -1 ∧ (o (k : Int)) ≤ N 9) := v25
        refine fw_iftd (cc := .eq) (pc := 79) (off := 7) (by decide +kernel) (by decide) ⟨by decide, by decide⟩ (by decide) ?_
        refine gm_sz (gm_p_const (pc := 86) (i := .iconst 0) (v := gm_vi 0) (by decide +kernel) (by decide +kernel)) ?_
        refine gm_sz (gm_p_stor (pc := 87) (i := .istore 5) (sr := 0) (j := 5) (by decide +kernel) rfl (show 6 ≤ _ from Nat.le_of_ble_eq_true rfl) rfl) ?_
        refine gm_sz (gm_p_load (pc := 89) (i := .iload_n 3) (sr := 0) (j := 3) (by decide +kernel) rfl rfl rfl) ?_
        refine gm_sz (gm_p_load (pc := 90) (i := .iload 5) (sr := 0) (j := 5) (by decide +kernel) rfl rfl rfl) ?_
        refine fw_iftd (cc := .eq) (pc := 92) (off := 7) (by decide +kernel) (by decide) ⟨by decide, by decide⟩ (by decide) ?_
        refine gm_sz (gm_p_const (pc := 99) (i := .iconst 0) (v := gm_vi 0) (by decide +kernel) (by decide +kernel)) ?_
        refine gm_sz (gm_p_bin (pc := 100) (i := .iadd) (f := fun x y => x + y) (by decide +kernel) rfl) ?_
        refine gm_sz (gm_p_stor (pc := 101) (i := .istore_n 3) (sr := 0) (j := 3) (by decide +kernel) rfl (show 4 ≤ _ from Nat.le_of_ble_eq_true rfl) rfl) ?_
        refine gm_sz (gm_p_iinc (pc := 102) (j := 4) (z := 1) (by decide +kernel) rfl) ?_
        refine gm_sz (gm_p_goto (pc := 105) (off := (-100)) (by decide +kernel) (by decide)) ?_
        rw [Int.add_zero]
        have e8 : ((k + 1 : Nat) : Int) = (k : Int) + 1 := by omega
        have e9 : cnt (fun l => (N (119 + (l * 7 + 1))) = y ∧ (¬ (N (119 + (l * 7 + 0))) = -1 ∧ (N (119 + (l * 7 + 5))) = -1 ∧ ¬ o l = -1 ∧ o l ≤ N 9)) (k + 1) = cnt (fun l => (N (119 + (l * 7 + 1))) = y ∧ (¬ (N (119 + (l * 7 + 0))) = -1 ∧ (N (119 + (l * 7 + 5))) = -1 ∧ ¬ o l = -1 ∧ o l ≤ N 9)) k := cnt_f (p := (fun l => (N (119 + (l * 7 + 1))) = y ∧ (¬ (N (119 + (l * 7 + 0))) = -1 ∧ (N (119 + (l * 7 + 5))) = -1 ∧ ¬ o l = -1 ∧ o l ≤ N 9))) (show ¬ ((N (119 + ((k : Int) * 7 + 1))) = y ∧ (¬ (N (119 + ((k : Int) * 7 + 0))) = -1 ∧ (N (119 + ((k : Int) * 7 + 5))) = -1 ∧ ¬ o (k : Int) = -1 ∧ o (k : Int) ≤ N 9)) from by omega)
        have h9 := ih (k + 1) (some (gm_vi 0)) _ (by omega) (fr_t (fr_t fr_0 hf (by decide)) hf21 (by decide)) hI21
        rw [e9, e8] at h9
        exact h9
end FO53
