/-! THE CLASS'S LAW: its codes, its lines (laid by wip/core/c4.py). -/
/-- where the law lies, in what a call sees -/
noncomputable def LE (n : Nat) (K : gm_K) (R : gm_R) (NC : Nat) : Prop := (((1 ≤ 246 ∧ 246 ≤ n) ∧ (K 246).1 = 10 + 4) ∧ ((1 ≤ 247 ∧ 247 ≤ n) ∧ K 247 = (0, NC)) ∧ ((1 ≤ 248 ∧ 248 ≤ n) ∧ (K 248).1 = 2 + 4) ∧ ((1 ≤ 249 ∧ 249 ≤ n) ∧ K 249 = (0, 48))) ∧ (R 246 ((0 : Nat) : Int) = 248 ∧ R 246 ((1 : Nat) : Int) = 247 ∧ R 248 ((2 : Nat) : Int) = 249) ∧ NC ≤ 400
/-- what a law is, as the class has it: codes, lines -/
noncomputable def LM (NC : Nat) (M : gm_M) : Prop := (M 248 0 = 12 ∧ M 248 1 = 4 ∧ 0 ≤ M 248 3 ∧ M 248 3 ≤ 12) ∧ (∀ i : Int, 0 ≤ i → i < (NC : Int) → -17 ≤ M 247 i ∧ M 247 i ≤ 999) ∧ ∀ k : Int, 0 ≤ k → k < M 248 3 → (0 ≤ M 249 (k * 4 + 0) ∧ M 249 (k * 4 + 0) ≤ 2) ∧ (0 ≤ M 249 (k * 4 + 1) ∧ M 249 (k * 4 + 1) ≤ 20) ∧ (0 ≤ M 249 (k * 4 + 2) ∧ M 249 (k * 4 + 2) ≤ M 249 (k * 4 + 3) ∧ M 249 (k * 4 + 3) ≤ (NC : Int))
/-- what a code asks -/
noncomputable def evk (F : Int → Int) (code : Int) : Int := if 0 ≤ -2 - code ∧ -2 - code < 10 then F (-2 - code) else 0
/-- one code more: truths, left, sum -/
noncomputable def ev1 (F : Int → Int) (code : Int) (s : Int × Int × Int) : Int × Int × Int :=
  if 0 ≤ code then (s.1, s.2.1, s.2.2 + code)
  else if -10 < code then (s.1, s.2.1, s.2.2 + evk F code)
  else if -11 ≤ code then (gm_or (gm_shl s.1 1) (evk F code), s.2.1, s.2.2)
  else if code = -12 then (s.1, s.2.2, 0)
  else if code = -13 then (gm_or (gm_shl s.1 1) (if gm_w s.2.1 < gm_w s.2.2 then 1 else 0), s.2.1, 0)
  else if code = -14 then (gm_or (gm_shl s.1 1) (if gm_w s.2.2 < gm_w s.2.1 then 1 else 0), s.2.1, 0)
  else if code = -15 then (gm_xor s.1 1, s.2.1, s.2.2)
  else if code = -16 then (gm_and (gm_shr s.1 1) (gm_or s.1 (-2)), s.2.1, s.2.2)
  else (gm_or (gm_shr s.1 1) (gm_and s.1 1), s.2.1, s.2.2)
noncomputable def evr (F C : Int → Int) : Nat → Int → Int × Int × Int → Int × Int × Int
  | 0, _, s => s
  | u + 1, i, s => evr F C u (i + 1) (ev1 F (C i) s)
/-- whether the codes from b on to ahead of e hold -/
noncomputable def evh (F C : Int → Int) (b e : Int) : Prop := gm_and (evr F C (e - b).toNat b ((if b < e then 0 else 1), 0, 0)).1 1 = 1
section LEV
variable {X : Int → Int} {LX d bc bs n NC : Nat} {K : gm_K} {R : gm_R} {M : gm_M} {Q : gm_Q} {F C : Int → Int} {b e i : Int}
theorem lk6 (h : LE n K R NC) : (1 ≤ 246 ∧ 246 ≤ n) ∧ (K 246).1 = 10 + 4 := h.1.1
theorem lk7 (h : LE n K R NC) : (1 ≤ 247 ∧ 247 ≤ n) ∧ K 247 = (0, NC) := h.1.2.1
theorem lk8 (h : LE n K R NC) : (1 ≤ 248 ∧ 248 ≤ n) ∧ (K 248).1 = 2 + 4 := h.1.2.2.1
theorem lk9 (h : LE n K R NC) : (1 ≤ 249 ∧ 249 ≤ n) ∧ K 249 = (0, 48) := h.1.2.2.2
theorem or_ir {x y : Int} : gm_ir (gm_or x y) := by
  unfold gm_or gm_ir
  generalize (Int32.ofInt x ||| Int32.ofInt y) = z
  have h := gm_w_toInt z.toInt
  rw [Int32.ofInt_toInt] at h
  rw [h]
  exact ⟨gm_w_lo _, gm_w_hi _⟩
theorem ho_w0 (hE : E0 n K R) (hL : LE n K R NC) (hM : LM NC M) (hF : ∀ j : Int, 0 ≤ j → j < 10 → M 204 j = F j) (hC9 : ∀ j, M 247 j = C j) (h0 : 0 ≤ i ∧ i < (NC : Int)) (hA : 0 ≤ C i ∧ C i ≤ 999) {t l s : Int} {z10 z11 z12 z13 : Option gm_V} (hq : ∀ z10 z11 z12 z13 : Option gm_V, gm_Wp X LX d bc bs 41 55 [some (gm_vr 246), some (gm_vi b), some (gm_vi e), some (gm_vr 204), some (gm_vi b), some (gm_vi e), some (gm_vi (t)), some (gm_vi (l)), some (gm_vi (s + (C i))), some (gm_vi (i + 1)), z10, z11, z12, z13] [] n K R M Q) (hie : i < e) (heb : e ≤ (NC : Int)) : gm_Wp X LX d bc bs 41 55 [some (gm_vr 246), some (gm_vi b), some (gm_vi e), some (gm_vr 204), some (gm_vi b), some (gm_vi e), some (gm_vi t), some (gm_vi l), some (gm_vi s), some (gm_vi i), z10, z11, z12, z13] [] n K R M Q := by
  have hNC := hL.2.2
  refine gm_sz (gm_p_load (pc := 55) (i := .iload 9) (sr := 0) (j := 9) (by decide +kernel) rfl rfl rfl) ?_
  refine gm_sz (gm_p_load (pc := 57) (i := .iload 5) (sr := 0) (j := 5) (by decide +kernel) rfl rfl rfl) ?_
  refine fw_icf (cc := .ge) (pc := 59) (off := 237) (by decide +kernel) (by decide) ⟨by omega, by omega⟩ ⟨by omega, by omega⟩ (show ¬ e ≤ i by omega) ?_
  refine gm_sz (gm_p_load (pc := 62) (i := .aload_n 0) (sr := 2) (j := 0) (by decide +kernel) rfl rfl rfl) ?_
  refine gm_sz (fw_gr (pc := 63) (ix := 22) (ci := 10) (j := 1) (r := 247) (by decide +kernel) (lk6 hL) (by decide +kernel) (by decide +kernel) hL.2.1.2.1) ?_
  refine gm_sz (gm_p_load (pc := 66) (i := .iload 9) (sr := 0) (j := 9) (by decide +kernel) rfl rfl rfl) ?_
  refine gm_sz (fw_ia (pc := 68) (k := 247) (len := NC) (e0 := i) (x := C i) (by decide +kernel) (lk7 hL).1 (lk7 hL).2 (by omega) ⟨by omega, by omega⟩ (hC9 _)) ?_
  refine gm_sz (gm_p_stor (pc := 69) (i := .istore 10) (sr := 0) (j := 10) (by decide +kernel) rfl (show 11 ≤ _ from Nat.le_of_ble_eq_true rfl) rfl) ?_
  show gm_Wp X LX d _ _ 41 71 [some (gm_vr 246), some (gm_vi b), some (gm_vi e), some (gm_vr 204), some (gm_vi b), some (gm_vi e), some (gm_vi t), some (gm_vi l), some (gm_vi s), some (gm_vi i), some (gm_vi (C i)), z11, z12, z13] [] n K _ _ Q
  refine gm_sz (gm_p_const (pc := 71) (i := .bipush (-2)) (v := gm_vi (-2)) (by decide +kernel) (by decide +kernel)) ?_
  refine gm_sz (gm_p_load (pc := 73) (i := .iload 10) (sr := 0) (j := 10) (by decide +kernel) rfl rfl rfl) ?_
  refine gm_sz (gm_p_bin (pc := 75) (i := .isub) (f := fun x y => x - y) (by decide +kernel) rfl) ?_
  refine gm_sz (gm_p_stor (pc := 76) (i := .istore 11) (sr := 0) (j := 11) (by decide +kernel) rfl (show 12 ≤ _ from Nat.le_of_ble_eq_true rfl) rfl) ?_
  show gm_Wp X LX d _ _ 41 78 [some (gm_vr 246), some (gm_vi b), some (gm_vi e), some (gm_vr 204), some (gm_vi b), some (gm_vi e), some (gm_vi t), some (gm_vi l), some (gm_vi s), some (gm_vi i), some (gm_vi (C i)), some (gm_vi ((-2) - (C i))), z12, z13] [] n K _ _ Q
  refine gm_sz (gm_p_load (pc := 78) (i := .iload 11) (sr := 0) (j := 11) (by decide +kernel) rfl rfl rfl) ?_
  refine fw_ift (cc := .lt) (pc := 80) (off := 17) (by decide +kernel) (by decide) ⟨by omega, by omega⟩ (show ((-2) - (C i)) < 0 by omega) ?_
  refine gm_sz (gm_p_const (pc := 97) (i := .iconst 0) (v := gm_vi 0) (by decide +kernel) (by decide +kernel)) ?_
  refine gm_sz (gm_p_stor (pc := 98) (i := .istore 12) (sr := 0) (j := 12) (by decide +kernel) rfl (show 13 ≤ _ from Nat.le_of_ble_eq_true rfl) rfl) ?_
  show gm_Wp X LX d _ _ 41 100 [some (gm_vr 246), some (gm_vi b), some (gm_vi e), some (gm_vr 204), some (gm_vi b), some (gm_vi e), some (gm_vi t), some (gm_vi l), some (gm_vi s), some (gm_vi i), some (gm_vi (C i)), some (gm_vi ((-2) - (C i))), some (gm_vi 0), z13] [] n K _ _ Q
  refine gm_sz (gm_p_load (pc := 100) (i := .iload 10) (sr := 0) (j := 10) (by decide +kernel) rfl rfl rfl) ?_
  refine fw_iff (cc := .lt) (pc := 102) (off := 13) (by decide +kernel) (by decide) ⟨by omega, by omega⟩ (show ¬ (C i) < 0 by omega) ?_
  refine gm_sz (gm_p_load (pc := 105) (i := .iload 8) (sr := 0) (j := 8) (by decide +kernel) rfl rfl rfl) ?_
  refine gm_sz (gm_p_load (pc := 107) (i := .iload 10) (sr := 0) (j := 10) (by decide +kernel) rfl rfl rfl) ?_
  refine gm_sz (gm_p_bin (pc := 109) (i := .iadd) (f := fun x y => x + y) (by decide +kernel) rfl) ?_
  refine gm_sz (gm_p_stor (pc := 110) (i := .istore 8) (sr := 0) (j := 8) (by decide +kernel) rfl (show 9 ≤ _ from Nat.le_of_ble_eq_true rfl) rfl) ?_
  show gm_Wp X LX d _ _ 41 112 [some (gm_vr 246), some (gm_vi b), some (gm_vi e), some (gm_vr 204), some (gm_vi b), some (gm_vi e), some (gm_vi t), some (gm_vi l), some (gm_vi (s + (C i))), some (gm_vi i), some (gm_vi (C i)), some (gm_vi ((-2) - (C i))), some (gm_vi 0), z13] [] n K _ _ Q
  refine gm_sz (gm_p_goto (pc := 112) (off := 178) (by decide +kernel) (by decide)) ?_
  refine gm_sz (gm_p_iinc (pc := 290) (j := 9) (z := 1) (by decide +kernel) rfl) ?_
  refine gm_sz (gm_p_goto (pc := 293) (off := (-238)) (by decide +kernel) (by decide)) ?_
  exact hq _ _ _ _
theorem ho_w1 (hE : E0 n K R) (hL : LE n K R NC) (hM : LM NC M) (hF : ∀ j : Int, 0 ≤ j → j < 10 → M 204 j = F j) (hC9 : ∀ j, M 247 j = C j) (h0 : 0 ≤ i ∧ i < (NC : Int)) (hA : C i = -1) {t l s : Int} {z10 z11 z12 z13 : Option gm_V} (hq : ∀ z10 z11 z12 z13 : Option gm_V, gm_Wp X LX d bc bs 41 55 [some (gm_vr 246), some (gm_vi b), some (gm_vi e), some (gm_vr 204), some (gm_vi b), some (gm_vi e), some (gm_vi (t)), some (gm_vi (l)), some (gm_vi (s + 0)), some (gm_vi (i + 1)), z10, z11, z12, z13] [] n K R M Q) (hie : i < e) (heb : e ≤ (NC : Int)) : gm_Wp X LX d bc bs 41 55 [some (gm_vr 246), some (gm_vi b), some (gm_vi e), some (gm_vr 204), some (gm_vi b), some (gm_vi e), some (gm_vi t), some (gm_vi l), some (gm_vi s), some (gm_vi i), z10, z11, z12, z13] [] n K R M Q := by
  have hNC := hL.2.2
  refine gm_sz (gm_p_load (pc := 55) (i := .iload 9) (sr := 0) (j := 9) (by decide +kernel) rfl rfl rfl) ?_
  refine gm_sz (gm_p_load (pc := 57) (i := .iload 5) (sr := 0) (j := 5) (by decide +kernel) rfl rfl rfl) ?_
  refine fw_icf (cc := .ge) (pc := 59) (off := 237) (by decide +kernel) (by decide) ⟨by omega, by omega⟩ ⟨by omega, by omega⟩ (show ¬ e ≤ i by omega) ?_
  refine gm_sz (gm_p_load (pc := 62) (i := .aload_n 0) (sr := 2) (j := 0) (by decide +kernel) rfl rfl rfl) ?_
  refine gm_sz (fw_gr (pc := 63) (ix := 22) (ci := 10) (j := 1) (r := 247) (by decide +kernel) (lk6 hL) (by decide +kernel) (by decide +kernel) hL.2.1.2.1) ?_
  refine gm_sz (gm_p_load (pc := 66) (i := .iload 9) (sr := 0) (j := 9) (by decide +kernel) rfl rfl rfl) ?_
  refine gm_sz (fw_ia (pc := 68) (k := 247) (len := NC) (e0 := i) (x := C i) (by decide +kernel) (lk7 hL).1 (lk7 hL).2 (by omega) ⟨by omega, by omega⟩ (hC9 _)) ?_
  refine gm_sz (gm_p_stor (pc := 69) (i := .istore 10) (sr := 0) (j := 10) (by decide +kernel) rfl (show 11 ≤ _ from Nat.le_of_ble_eq_true rfl) rfl) ?_
  show gm_Wp X LX d _ _ 41 71 [some (gm_vr 246), some (gm_vi b), some (gm_vi e), some (gm_vr 204), some (gm_vi b), some (gm_vi e), some (gm_vi t), some (gm_vi l), some (gm_vi s), some (gm_vi i), some (gm_vi (C i)), z11, z12, z13] [] n K _ _ Q
  refine gm_sz (gm_p_const (pc := 71) (i := .bipush (-2)) (v := gm_vi (-2)) (by decide +kernel) (by decide +kernel)) ?_
  refine gm_sz (gm_p_load (pc := 73) (i := .iload 10) (sr := 0) (j := 10) (by decide +kernel) rfl rfl rfl) ?_
  refine gm_sz (gm_p_bin (pc := 75) (i := .isub) (f := fun x y => x - y) (by decide +kernel) rfl) ?_
  refine gm_sz (gm_p_stor (pc := 76) (i := .istore 11) (sr := 0) (j := 11) (by decide +kernel) rfl (show 12 ≤ _ from Nat.le_of_ble_eq_true rfl) rfl) ?_
  show gm_Wp X LX d _ _ 41 78 [some (gm_vr 246), some (gm_vi b), some (gm_vi e), some (gm_vr 204), some (gm_vi b), some (gm_vi e), some (gm_vi t), some (gm_vi l), some (gm_vi s), some (gm_vi i), some (gm_vi (C i)), some (gm_vi ((-2) - (C i))), z12, z13] [] n K _ _ Q
  refine gm_sz (gm_p_load (pc := 78) (i := .iload 11) (sr := 0) (j := 11) (by decide +kernel) rfl rfl rfl) ?_
  refine fw_ift (cc := .lt) (pc := 80) (off := 17) (by decide +kernel) (by decide) ⟨by omega, by omega⟩ (show ((-2) - (C i)) < 0 by omega) ?_
  refine gm_sz (gm_p_const (pc := 97) (i := .iconst 0) (v := gm_vi 0) (by decide +kernel) (by decide +kernel)) ?_
  refine gm_sz (gm_p_stor (pc := 98) (i := .istore 12) (sr := 0) (j := 12) (by decide +kernel) rfl (show 13 ≤ _ from Nat.le_of_ble_eq_true rfl) rfl) ?_
  show gm_Wp X LX d _ _ 41 100 [some (gm_vr 246), some (gm_vi b), some (gm_vi e), some (gm_vr 204), some (gm_vi b), some (gm_vi e), some (gm_vi t), some (gm_vi l), some (gm_vi s), some (gm_vi i), some (gm_vi (C i)), some (gm_vi ((-2) - (C i))), some (gm_vi 0), z13] [] n K _ _ Q
  refine gm_sz (gm_p_load (pc := 100) (i := .iload 10) (sr := 0) (j := 10) (by decide +kernel) rfl rfl rfl) ?_
  refine fw_ift (cc := .lt) (pc := 102) (off := 13) (by decide +kernel) (by decide) ⟨by omega, by omega⟩ (show (C i) < 0 by omega) ?_
  refine gm_sz (gm_p_load (pc := 115) (i := .iload 10) (sr := 0) (j := 10) (by decide +kernel) rfl rfl rfl) ?_
  refine gm_sz (gm_p_const (pc := 117) (i := .bipush (-10)) (v := gm_vi (-10)) (by decide +kernel) (by decide +kernel)) ?_
  refine fw_icf (cc := .le) (pc := 119) (off := 13) (by decide +kernel) (by decide) ⟨by omega, by omega⟩ ⟨by decide, by decide⟩ (show ¬ (C i) ≤ (-10) by omega) ?_
  refine gm_sz (gm_p_load (pc := 122) (i := .iload 8) (sr := 0) (j := 8) (by decide +kernel) rfl rfl rfl) ?_
  refine gm_sz (gm_p_load (pc := 124) (i := .iload 12) (sr := 0) (j := 12) (by decide +kernel) rfl rfl rfl) ?_
  refine gm_sz (gm_p_bin (pc := 126) (i := .iadd) (f := fun x y => x + y) (by decide +kernel) rfl) ?_
  refine gm_sz (gm_p_stor (pc := 127) (i := .istore 8) (sr := 0) (j := 8) (by decide +kernel) rfl (show 9 ≤ _ from Nat.le_of_ble_eq_true rfl) rfl) ?_
  show gm_Wp X LX d _ _ 41 129 [some (gm_vr 246), some (gm_vi b), some (gm_vi e), some (gm_vr 204), some (gm_vi b), some (gm_vi e), some (gm_vi t), some (gm_vi l), some (gm_vi (s + 0)), some (gm_vi i), some (gm_vi (C i)), some (gm_vi ((-2) - (C i))), some (gm_vi 0), z13] [] n K _ _ Q
  refine gm_sz (gm_p_goto (pc := 129) (off := 161) (by decide +kernel) (by decide)) ?_
  refine gm_sz (gm_p_iinc (pc := 290) (j := 9) (z := 1) (by decide +kernel) rfl) ?_
  refine gm_sz (gm_p_goto (pc := 293) (off := (-238)) (by decide +kernel) (by decide)) ?_
  exact hq _ _ _ _
theorem ho_w2 (hE : E0 n K R) (hL : LE n K R NC) (hM : LM NC M) (hF : ∀ j : Int, 0 ≤ j → j < 10 → M 204 j = F j) (hC9 : ∀ j, M 247 j = C j) (h0 : 0 ≤ i ∧ i < (NC : Int)) (hA : -9 ≤ C i ∧ C i ≤ -2) {t l s : Int} {z10 z11 z12 z13 : Option gm_V} (hq : ∀ z10 z11 z12 z13 : Option gm_V, gm_Wp X LX d bc bs 41 55 [some (gm_vr 246), some (gm_vi b), some (gm_vi e), some (gm_vr 204), some (gm_vi b), some (gm_vi e), some (gm_vi (t)), some (gm_vi (l)), some (gm_vi (s + (F ((-2) - (C i))))), some (gm_vi (i + 1)), z10, z11, z12, z13] [] n K R M Q) (hie : i < e) (heb : e ≤ (NC : Int)) : gm_Wp X LX d bc bs 41 55 [some (gm_vr 246), some (gm_vi b), some (gm_vi e), some (gm_vr 204), some (gm_vi b), some (gm_vi e), some (gm_vi t), some (gm_vi l), some (gm_vi s), some (gm_vi i), z10, z11, z12, z13] [] n K R M Q := by
  have hNC := hL.2.2
  refine gm_sz (gm_p_load (pc := 55) (i := .iload 9) (sr := 0) (j := 9) (by decide +kernel) rfl rfl rfl) ?_
  refine gm_sz (gm_p_load (pc := 57) (i := .iload 5) (sr := 0) (j := 5) (by decide +kernel) rfl rfl rfl) ?_
  refine fw_icf (cc := .ge) (pc := 59) (off := 237) (by decide +kernel) (by decide) ⟨by omega, by omega⟩ ⟨by omega, by omega⟩ (show ¬ e ≤ i by omega) ?_
  refine gm_sz (gm_p_load (pc := 62) (i := .aload_n 0) (sr := 2) (j := 0) (by decide +kernel) rfl rfl rfl) ?_
  refine gm_sz (fw_gr (pc := 63) (ix := 22) (ci := 10) (j := 1) (r := 247) (by decide +kernel) (lk6 hL) (by decide +kernel) (by decide +kernel) hL.2.1.2.1) ?_
  refine gm_sz (gm_p_load (pc := 66) (i := .iload 9) (sr := 0) (j := 9) (by decide +kernel) rfl rfl rfl) ?_
  refine gm_sz (fw_ia (pc := 68) (k := 247) (len := NC) (e0 := i) (x := C i) (by decide +kernel) (lk7 hL).1 (lk7 hL).2 (by omega) ⟨by omega, by omega⟩ (hC9 _)) ?_
  refine gm_sz (gm_p_stor (pc := 69) (i := .istore 10) (sr := 0) (j := 10) (by decide +kernel) rfl (show 11 ≤ _ from Nat.le_of_ble_eq_true rfl) rfl) ?_
  show gm_Wp X LX d _ _ 41 71 [some (gm_vr 246), some (gm_vi b), some (gm_vi e), some (gm_vr 204), some (gm_vi b), some (gm_vi e), some (gm_vi t), some (gm_vi l), some (gm_vi s), some (gm_vi i), some (gm_vi (C i)), z11, z12, z13] [] n K _ _ Q
  refine gm_sz (gm_p_const (pc := 71) (i := .bipush (-2)) (v := gm_vi (-2)) (by decide +kernel) (by decide +kernel)) ?_
  refine gm_sz (gm_p_load (pc := 73) (i := .iload 10) (sr := 0) (j := 10) (by decide +kernel) rfl rfl rfl) ?_
  refine gm_sz (gm_p_bin (pc := 75) (i := .isub) (f := fun x y => x - y) (by decide +kernel) rfl) ?_
  refine gm_sz (gm_p_stor (pc := 76) (i := .istore 11) (sr := 0) (j := 11) (by decide +kernel) rfl (show 12 ≤ _ from Nat.le_of_ble_eq_true rfl) rfl) ?_
  show gm_Wp X LX d _ _ 41 78 [some (gm_vr 246), some (gm_vi b), some (gm_vi e), some (gm_vr 204), some (gm_vi b), some (gm_vi e), some (gm_vi t), some (gm_vi l), some (gm_vi s), some (gm_vi i), some (gm_vi (C i)), some (gm_vi ((-2) - (C i))), z12, z13] [] n K _ _ Q
  refine gm_sz (gm_p_load (pc := 78) (i := .iload 11) (sr := 0) (j := 11) (by decide +kernel) rfl rfl rfl) ?_
  refine fw_iff (cc := .lt) (pc := 80) (off := 17) (by decide +kernel) (by decide) ⟨by omega, by omega⟩ (show ¬ ((-2) - (C i)) < 0 by omega) ?_
  refine gm_sz (gm_p_load (pc := 83) (i := .iload 11) (sr := 0) (j := 11) (by decide +kernel) rfl rfl rfl) ?_
  refine gm_sz (gm_p_load (pc := 85) (i := .aload_n 3) (sr := 2) (j := 3) (by decide +kernel) rfl rfl rfl) ?_
  refine gm_sz (fw_al (pc := 86) (k := 204) (len := 10) (by decide +kernel) (e0a hE (k := 204) (q := (0, 10)) (by decide +kernel)).1 (e0a hE (k := 204) (q := (0, 10)) (by decide +kernel)).2 (by decide)) ?_
  refine fw_icf (cc := .ge) (pc := 87) (off := 10) (by decide +kernel) (by decide) ⟨by omega, by omega⟩ ⟨by decide, by decide⟩ (show ¬ 10 ≤ ((-2) - (C i)) by omega) ?_
  refine gm_sz (gm_p_load (pc := 90) (i := .aload_n 3) (sr := 2) (j := 3) (by decide +kernel) rfl rfl rfl) ?_
  refine gm_sz (gm_p_load (pc := 91) (i := .iload 11) (sr := 0) (j := 11) (by decide +kernel) rfl rfl rfl) ?_
  refine gm_sz (fw_ia (pc := 93) (k := 204) (len := 10) (e0 := (-2) - (C i)) (x := F ((-2) - (C i))) (by decide +kernel) (e0a hE (k := 204) (q := (0, 10)) (by decide +kernel)).1 (e0a hE (k := 204) (q := (0, 10)) (by decide +kernel)).2 (by decide) ⟨by omega, by omega⟩ (hF _ (by omega) (by omega))) ?_
  refine gm_sz (gm_p_goto (pc := 94) (off := 4) (by decide +kernel) (by decide)) ?_
  refine gm_sz (gm_p_stor (pc := 98) (i := .istore 12) (sr := 0) (j := 12) (by decide +kernel) rfl (show 13 ≤ _ from Nat.le_of_ble_eq_true rfl) rfl) ?_
  show gm_Wp X LX d _ _ 41 100 [some (gm_vr 246), some (gm_vi b), some (gm_vi e), some (gm_vr 204), some (gm_vi b), some (gm_vi e), some (gm_vi t), some (gm_vi l), some (gm_vi s), some (gm_vi i), some (gm_vi (C i)), some (gm_vi ((-2) - (C i))), some (gm_vi (F ((-2) - (C i)))), z13] [] n K _ _ Q
  refine gm_sz (gm_p_load (pc := 100) (i := .iload 10) (sr := 0) (j := 10) (by decide +kernel) rfl rfl rfl) ?_
  refine fw_ift (cc := .lt) (pc := 102) (off := 13) (by decide +kernel) (by decide) ⟨by omega, by omega⟩ (show (C i) < 0 by omega) ?_
  refine gm_sz (gm_p_load (pc := 115) (i := .iload 10) (sr := 0) (j := 10) (by decide +kernel) rfl rfl rfl) ?_
  refine gm_sz (gm_p_const (pc := 117) (i := .bipush (-10)) (v := gm_vi (-10)) (by decide +kernel) (by decide +kernel)) ?_
  refine fw_icf (cc := .le) (pc := 119) (off := 13) (by decide +kernel) (by decide) ⟨by omega, by omega⟩ ⟨by decide, by decide⟩ (show ¬ (C i) ≤ (-10) by omega) ?_
  refine gm_sz (gm_p_load (pc := 122) (i := .iload 8) (sr := 0) (j := 8) (by decide +kernel) rfl rfl rfl) ?_
  refine gm_sz (gm_p_load (pc := 124) (i := .iload 12) (sr := 0) (j := 12) (by decide +kernel) rfl rfl rfl) ?_
  refine gm_sz (gm_p_bin (pc := 126) (i := .iadd) (f := fun x y => x + y) (by decide +kernel) rfl) ?_
  refine gm_sz (gm_p_stor (pc := 127) (i := .istore 8) (sr := 0) (j := 8) (by decide +kernel) rfl (show 9 ≤ _ from Nat.le_of_ble_eq_true rfl) rfl) ?_
  show gm_Wp X LX d _ _ 41 129 [some (gm_vr 246), some (gm_vi b), some (gm_vi e), some (gm_vr 204), some (gm_vi b), some (gm_vi e), some (gm_vi t), some (gm_vi l), some (gm_vi (s + (F ((-2) - (C i))))), some (gm_vi i), some (gm_vi (C i)), some (gm_vi ((-2) - (C i))), some (gm_vi (F ((-2) - (C i)))), z13] [] n K _ _ Q
  refine gm_sz (gm_p_goto (pc := 129) (off := 161) (by decide +kernel) (by decide)) ?_
  refine gm_sz (gm_p_iinc (pc := 290) (j := 9) (z := 1) (by decide +kernel) rfl) ?_
  refine gm_sz (gm_p_goto (pc := 293) (off := (-238)) (by decide +kernel) (by decide)) ?_
  exact hq _ _ _ _
theorem ho_w3 (hE : E0 n K R) (hL : LE n K R NC) (hM : LM NC M) (hF : ∀ j : Int, 0 ≤ j → j < 10 → M 204 j = F j) (hC9 : ∀ j, M 247 j = C j) (h0 : 0 ≤ i ∧ i < (NC : Int)) (hA : -11 ≤ C i ∧ C i ≤ -10) {t l s : Int} {z10 z11 z12 z13 : Option gm_V} (hq : ∀ z10 z11 z12 z13 : Option gm_V, gm_Wp X LX d bc bs 41 55 [some (gm_vr 246), some (gm_vi b), some (gm_vi e), some (gm_vr 204), some (gm_vi b), some (gm_vi e), some (gm_vi (gm_or (gm_shl t 1) (F ((-2) - (C i))))), some (gm_vi (l)), some (gm_vi (s)), some (gm_vi (i + 1)), z10, z11, z12, z13] [] n K R M Q) (hie : i < e) (heb : e ≤ (NC : Int)) : gm_Wp X LX d bc bs 41 55 [some (gm_vr 246), some (gm_vi b), some (gm_vi e), some (gm_vr 204), some (gm_vi b), some (gm_vi e), some (gm_vi t), some (gm_vi l), some (gm_vi s), some (gm_vi i), z10, z11, z12, z13] [] n K R M Q := by
  have hNC := hL.2.2
  refine gm_sz (gm_p_load (pc := 55) (i := .iload 9) (sr := 0) (j := 9) (by decide +kernel) rfl rfl rfl) ?_
  refine gm_sz (gm_p_load (pc := 57) (i := .iload 5) (sr := 0) (j := 5) (by decide +kernel) rfl rfl rfl) ?_
  refine fw_icf (cc := .ge) (pc := 59) (off := 237) (by decide +kernel) (by decide) ⟨by omega, by omega⟩ ⟨by omega, by omega⟩ (show ¬ e ≤ i by omega) ?_
  refine gm_sz (gm_p_load (pc := 62) (i := .aload_n 0) (sr := 2) (j := 0) (by decide +kernel) rfl rfl rfl) ?_
  refine gm_sz (fw_gr (pc := 63) (ix := 22) (ci := 10) (j := 1) (r := 247) (by decide +kernel) (lk6 hL) (by decide +kernel) (by decide +kernel) hL.2.1.2.1) ?_
  refine gm_sz (gm_p_load (pc := 66) (i := .iload 9) (sr := 0) (j := 9) (by decide +kernel) rfl rfl rfl) ?_
  refine gm_sz (fw_ia (pc := 68) (k := 247) (len := NC) (e0 := i) (x := C i) (by decide +kernel) (lk7 hL).1 (lk7 hL).2 (by omega) ⟨by omega, by omega⟩ (hC9 _)) ?_
  refine gm_sz (gm_p_stor (pc := 69) (i := .istore 10) (sr := 0) (j := 10) (by decide +kernel) rfl (show 11 ≤ _ from Nat.le_of_ble_eq_true rfl) rfl) ?_
  show gm_Wp X LX d _ _ 41 71 [some (gm_vr 246), some (gm_vi b), some (gm_vi e), some (gm_vr 204), some (gm_vi b), some (gm_vi e), some (gm_vi t), some (gm_vi l), some (gm_vi s), some (gm_vi i), some (gm_vi (C i)), z11, z12, z13] [] n K _ _ Q
  refine gm_sz (gm_p_const (pc := 71) (i := .bipush (-2)) (v := gm_vi (-2)) (by decide +kernel) (by decide +kernel)) ?_
  refine gm_sz (gm_p_load (pc := 73) (i := .iload 10) (sr := 0) (j := 10) (by decide +kernel) rfl rfl rfl) ?_
  refine gm_sz (gm_p_bin (pc := 75) (i := .isub) (f := fun x y => x - y) (by decide +kernel) rfl) ?_
  refine gm_sz (gm_p_stor (pc := 76) (i := .istore 11) (sr := 0) (j := 11) (by decide +kernel) rfl (show 12 ≤ _ from Nat.le_of_ble_eq_true rfl) rfl) ?_
  show gm_Wp X LX d _ _ 41 78 [some (gm_vr 246), some (gm_vi b), some (gm_vi e), some (gm_vr 204), some (gm_vi b), some (gm_vi e), some (gm_vi t), some (gm_vi l), some (gm_vi s), some (gm_vi i), some (gm_vi (C i)), some (gm_vi ((-2) - (C i))), z12, z13] [] n K _ _ Q
  refine gm_sz (gm_p_load (pc := 78) (i := .iload 11) (sr := 0) (j := 11) (by decide +kernel) rfl rfl rfl) ?_
  refine fw_iff (cc := .lt) (pc := 80) (off := 17) (by decide +kernel) (by decide) ⟨by omega, by omega⟩ (show ¬ ((-2) - (C i)) < 0 by omega) ?_
  refine gm_sz (gm_p_load (pc := 83) (i := .iload 11) (sr := 0) (j := 11) (by decide +kernel) rfl rfl rfl) ?_
  refine gm_sz (gm_p_load (pc := 85) (i := .aload_n 3) (sr := 2) (j := 3) (by decide +kernel) rfl rfl rfl) ?_
  refine gm_sz (fw_al (pc := 86) (k := 204) (len := 10) (by decide +kernel) (e0a hE (k := 204) (q := (0, 10)) (by decide +kernel)).1 (e0a hE (k := 204) (q := (0, 10)) (by decide +kernel)).2 (by decide)) ?_
  refine fw_icf (cc := .ge) (pc := 87) (off := 10) (by decide +kernel) (by decide) ⟨by omega, by omega⟩ ⟨by decide, by decide⟩ (show ¬ 10 ≤ ((-2) - (C i)) by omega) ?_
  refine gm_sz (gm_p_load (pc := 90) (i := .aload_n 3) (sr := 2) (j := 3) (by decide +kernel) rfl rfl rfl) ?_
  refine gm_sz (gm_p_load (pc := 91) (i := .iload 11) (sr := 0) (j := 11) (by decide +kernel) rfl rfl rfl) ?_
  refine gm_sz (fw_ia (pc := 93) (k := 204) (len := 10) (e0 := (-2) - (C i)) (x := F ((-2) - (C i))) (by decide +kernel) (e0a hE (k := 204) (q := (0, 10)) (by decide +kernel)).1 (e0a hE (k := 204) (q := (0, 10)) (by decide +kernel)).2 (by decide) ⟨by omega, by omega⟩ (hF _ (by omega) (by omega))) ?_
  refine gm_sz (gm_p_goto (pc := 94) (off := 4) (by decide +kernel) (by decide)) ?_
  refine gm_sz (gm_p_stor (pc := 98) (i := .istore 12) (sr := 0) (j := 12) (by decide +kernel) rfl (show 13 ≤ _ from Nat.le_of_ble_eq_true rfl) rfl) ?_
  show gm_Wp X LX d _ _ 41 100 [some (gm_vr 246), some (gm_vi b), some (gm_vi e), some (gm_vr 204), some (gm_vi b), some (gm_vi e), some (gm_vi t), some (gm_vi l), some (gm_vi s), some (gm_vi i), some (gm_vi (C i)), some (gm_vi ((-2) - (C i))), some (gm_vi (F ((-2) - (C i)))), z13] [] n K _ _ Q
  refine gm_sz (gm_p_load (pc := 100) (i := .iload 10) (sr := 0) (j := 10) (by decide +kernel) rfl rfl rfl) ?_
  refine fw_ift (cc := .lt) (pc := 102) (off := 13) (by decide +kernel) (by decide) ⟨by omega, by omega⟩ (show (C i) < 0 by omega) ?_
  refine gm_sz (gm_p_load (pc := 115) (i := .iload 10) (sr := 0) (j := 10) (by decide +kernel) rfl rfl rfl) ?_
  refine gm_sz (gm_p_const (pc := 117) (i := .bipush (-10)) (v := gm_vi (-10)) (by decide +kernel) (by decide +kernel)) ?_
  refine fw_ict (cc := .le) (pc := 119) (off := 13) (by decide +kernel) (by decide) ⟨by omega, by omega⟩ ⟨by decide, by decide⟩ (show (C i) ≤ (-10) by omega) ?_
  refine gm_sz (gm_p_load (pc := 132) (i := .iload 10) (sr := 0) (j := 10) (by decide +kernel) rfl rfl rfl) ?_
  refine gm_sz (gm_p_const (pc := 134) (i := .bipush (-11)) (v := gm_vi (-11)) (by decide +kernel) (by decide +kernel)) ?_
  refine fw_icf (cc := .lt) (pc := 136) (off := 15) (by decide +kernel) (by decide) ⟨by omega, by omega⟩ ⟨by decide, by decide⟩ (show ¬ (C i) < (-11) by omega) ?_
  refine gm_sz (gm_p_load (pc := 139) (i := .iload 6) (sr := 0) (j := 6) (by decide +kernel) rfl rfl rfl) ?_
  refine gm_sz (gm_p_const (pc := 141) (i := .iconst 1) (v := gm_vi 1) (by decide +kernel) (by decide +kernel)) ?_
  refine gm_sz (gm_p_bin (pc := 142) (i := .ishl) (f := gm_shl) (by decide +kernel) rfl) ?_
  refine gm_sz (gm_p_load (pc := 143) (i := .iload 12) (sr := 0) (j := 12) (by decide +kernel) rfl rfl rfl) ?_
  refine gm_sz (gm_p_bin (pc := 145) (i := .ior) (f := gm_or) (by decide +kernel) rfl) ?_
  refine gm_sz (gm_p_stor (pc := 146) (i := .istore 6) (sr := 0) (j := 6) (by decide +kernel) rfl (show 7 ≤ _ from Nat.le_of_ble_eq_true rfl) rfl) ?_
  show gm_Wp X LX d _ _ 41 148 [some (gm_vr 246), some (gm_vi b), some (gm_vi e), some (gm_vr 204), some (gm_vi b), some (gm_vi e), some (gm_vi (gm_or (gm_shl t 1) (F ((-2) - (C i))))), some (gm_vi l), some (gm_vi s), some (gm_vi i), some (gm_vi (C i)), some (gm_vi ((-2) - (C i))), some (gm_vi (F ((-2) - (C i)))), z13] [] n K _ _ Q
  refine gm_sz (gm_p_goto (pc := 148) (off := 142) (by decide +kernel) (by decide)) ?_
  refine gm_sz (gm_p_iinc (pc := 290) (j := 9) (z := 1) (by decide +kernel) rfl) ?_
  refine gm_sz (gm_p_goto (pc := 293) (off := (-238)) (by decide +kernel) (by decide)) ?_
  exact hq _ _ _ _
theorem ho_w4 (hE : E0 n K R) (hL : LE n K R NC) (hM : LM NC M) (hF : ∀ j : Int, 0 ≤ j → j < 10 → M 204 j = F j) (hC9 : ∀ j, M 247 j = C j) (h0 : 0 ≤ i ∧ i < (NC : Int)) (hA : C i = -12) {t l s : Int} {z10 z11 z12 z13 : Option gm_V} (hq : ∀ z10 z11 z12 z13 : Option gm_V, gm_Wp X LX d bc bs 41 55 [some (gm_vr 246), some (gm_vi b), some (gm_vi e), some (gm_vr 204), some (gm_vi b), some (gm_vi e), some (gm_vi (t)), some (gm_vi (s)), some (gm_vi (0)), some (gm_vi (i + 1)), z10, z11, z12, z13] [] n K R M Q) (hie : i < e) (heb : e ≤ (NC : Int)) : gm_Wp X LX d bc bs 41 55 [some (gm_vr 246), some (gm_vi b), some (gm_vi e), some (gm_vr 204), some (gm_vi b), some (gm_vi e), some (gm_vi t), some (gm_vi l), some (gm_vi s), some (gm_vi i), z10, z11, z12, z13] [] n K R M Q := by
  have hNC := hL.2.2
  refine gm_sz (gm_p_load (pc := 55) (i := .iload 9) (sr := 0) (j := 9) (by decide +kernel) rfl rfl rfl) ?_
  refine gm_sz (gm_p_load (pc := 57) (i := .iload 5) (sr := 0) (j := 5) (by decide +kernel) rfl rfl rfl) ?_
  refine fw_icf (cc := .ge) (pc := 59) (off := 237) (by decide +kernel) (by decide) ⟨by omega, by omega⟩ ⟨by omega, by omega⟩ (show ¬ e ≤ i by omega) ?_
  refine gm_sz (gm_p_load (pc := 62) (i := .aload_n 0) (sr := 2) (j := 0) (by decide +kernel) rfl rfl rfl) ?_
  refine gm_sz (fw_gr (pc := 63) (ix := 22) (ci := 10) (j := 1) (r := 247) (by decide +kernel) (lk6 hL) (by decide +kernel) (by decide +kernel) hL.2.1.2.1) ?_
  refine gm_sz (gm_p_load (pc := 66) (i := .iload 9) (sr := 0) (j := 9) (by decide +kernel) rfl rfl rfl) ?_
  refine gm_sz (fw_ia (pc := 68) (k := 247) (len := NC) (e0 := i) (x := C i) (by decide +kernel) (lk7 hL).1 (lk7 hL).2 (by omega) ⟨by omega, by omega⟩ (hC9 _)) ?_
  refine gm_sz (gm_p_stor (pc := 69) (i := .istore 10) (sr := 0) (j := 10) (by decide +kernel) rfl (show 11 ≤ _ from Nat.le_of_ble_eq_true rfl) rfl) ?_
  show gm_Wp X LX d _ _ 41 71 [some (gm_vr 246), some (gm_vi b), some (gm_vi e), some (gm_vr 204), some (gm_vi b), some (gm_vi e), some (gm_vi t), some (gm_vi l), some (gm_vi s), some (gm_vi i), some (gm_vi (C i)), z11, z12, z13] [] n K _ _ Q
  refine gm_sz (gm_p_const (pc := 71) (i := .bipush (-2)) (v := gm_vi (-2)) (by decide +kernel) (by decide +kernel)) ?_
  refine gm_sz (gm_p_load (pc := 73) (i := .iload 10) (sr := 0) (j := 10) (by decide +kernel) rfl rfl rfl) ?_
  refine gm_sz (gm_p_bin (pc := 75) (i := .isub) (f := fun x y => x - y) (by decide +kernel) rfl) ?_
  refine gm_sz (gm_p_stor (pc := 76) (i := .istore 11) (sr := 0) (j := 11) (by decide +kernel) rfl (show 12 ≤ _ from Nat.le_of_ble_eq_true rfl) rfl) ?_
  show gm_Wp X LX d _ _ 41 78 [some (gm_vr 246), some (gm_vi b), some (gm_vi e), some (gm_vr 204), some (gm_vi b), some (gm_vi e), some (gm_vi t), some (gm_vi l), some (gm_vi s), some (gm_vi i), some (gm_vi (C i)), some (gm_vi ((-2) - (C i))), z12, z13] [] n K _ _ Q
  refine gm_sz (gm_p_load (pc := 78) (i := .iload 11) (sr := 0) (j := 11) (by decide +kernel) rfl rfl rfl) ?_
  refine fw_iff (cc := .lt) (pc := 80) (off := 17) (by decide +kernel) (by decide) ⟨by omega, by omega⟩ (show ¬ ((-2) - (C i)) < 0 by omega) ?_
  refine gm_sz (gm_p_load (pc := 83) (i := .iload 11) (sr := 0) (j := 11) (by decide +kernel) rfl rfl rfl) ?_
  refine gm_sz (gm_p_load (pc := 85) (i := .aload_n 3) (sr := 2) (j := 3) (by decide +kernel) rfl rfl rfl) ?_
  refine gm_sz (fw_al (pc := 86) (k := 204) (len := 10) (by decide +kernel) (e0a hE (k := 204) (q := (0, 10)) (by decide +kernel)).1 (e0a hE (k := 204) (q := (0, 10)) (by decide +kernel)).2 (by decide)) ?_
  refine fw_ict (cc := .ge) (pc := 87) (off := 10) (by decide +kernel) (by decide) ⟨by omega, by omega⟩ ⟨by decide, by decide⟩ (show 10 ≤ ((-2) - (C i)) by omega) ?_
  refine gm_sz (gm_p_const (pc := 97) (i := .iconst 0) (v := gm_vi 0) (by decide +kernel) (by decide +kernel)) ?_
  refine gm_sz (gm_p_stor (pc := 98) (i := .istore 12) (sr := 0) (j := 12) (by decide +kernel) rfl (show 13 ≤ _ from Nat.le_of_ble_eq_true rfl) rfl) ?_
  show gm_Wp X LX d _ _ 41 100 [some (gm_vr 246), some (gm_vi b), some (gm_vi e), some (gm_vr 204), some (gm_vi b), some (gm_vi e), some (gm_vi t), some (gm_vi l), some (gm_vi s), some (gm_vi i), some (gm_vi (C i)), some (gm_vi ((-2) - (C i))), some (gm_vi 0), z13] [] n K _ _ Q
  refine gm_sz (gm_p_load (pc := 100) (i := .iload 10) (sr := 0) (j := 10) (by decide +kernel) rfl rfl rfl) ?_
  refine fw_ift (cc := .lt) (pc := 102) (off := 13) (by decide +kernel) (by decide) ⟨by omega, by omega⟩ (show (C i) < 0 by omega) ?_
  refine gm_sz (gm_p_load (pc := 115) (i := .iload 10) (sr := 0) (j := 10) (by decide +kernel) rfl rfl rfl) ?_
  refine gm_sz (gm_p_const (pc := 117) (i := .bipush (-10)) (v := gm_vi (-10)) (by decide +kernel) (by decide +kernel)) ?_
  refine fw_ict (cc := .le) (pc := 119) (off := 13) (by decide +kernel) (by decide) ⟨by omega, by omega⟩ ⟨by decide, by decide⟩ (show (C i) ≤ (-10) by omega) ?_
  refine gm_sz (gm_p_load (pc := 132) (i := .iload 10) (sr := 0) (j := 10) (by decide +kernel) rfl rfl rfl) ?_
  refine gm_sz (gm_p_const (pc := 134) (i := .bipush (-11)) (v := gm_vi (-11)) (by decide +kernel) (by decide +kernel)) ?_
  refine fw_ict (cc := .lt) (pc := 136) (off := 15) (by decide +kernel) (by decide) ⟨by omega, by omega⟩ ⟨by decide, by decide⟩ (show (C i) < (-11) by omega) ?_
  refine gm_sz (gm_p_load (pc := 151) (i := .iload 10) (sr := 0) (j := 10) (by decide +kernel) rfl rfl rfl) ?_
  refine gm_sz (gm_p_const (pc := 153) (i := .bipush (-12)) (v := gm_vi (-12)) (by decide +kernel) (by decide +kernel)) ?_
  refine fw_icf (cc := .ne) (pc := 155) (off := 13) (by decide +kernel) (by decide) ⟨by omega, by omega⟩ ⟨by decide, by decide⟩ (show ¬ ¬ (C i) = (-12) by omega) ?_
  refine gm_sz (gm_p_load (pc := 158) (i := .iload 8) (sr := 0) (j := 8) (by decide +kernel) rfl rfl rfl) ?_
  refine gm_sz (gm_p_stor (pc := 160) (i := .istore 7) (sr := 0) (j := 7) (by decide +kernel) rfl (show 8 ≤ _ from Nat.le_of_ble_eq_true rfl) rfl) ?_
  show gm_Wp X LX d _ _ 41 162 [some (gm_vr 246), some (gm_vi b), some (gm_vi e), some (gm_vr 204), some (gm_vi b), some (gm_vi e), some (gm_vi t), some (gm_vi s), some (gm_vi s), some (gm_vi i), some (gm_vi (C i)), some (gm_vi ((-2) - (C i))), some (gm_vi 0), z13] [] n K _ _ Q
  refine gm_sz (gm_p_const (pc := 162) (i := .iconst 0) (v := gm_vi 0) (by decide +kernel) (by decide +kernel)) ?_
  refine gm_sz (gm_p_stor (pc := 163) (i := .istore 8) (sr := 0) (j := 8) (by decide +kernel) rfl (show 9 ≤ _ from Nat.le_of_ble_eq_true rfl) rfl) ?_
  show gm_Wp X LX d _ _ 41 165 [some (gm_vr 246), some (gm_vi b), some (gm_vi e), some (gm_vr 204), some (gm_vi b), some (gm_vi e), some (gm_vi t), some (gm_vi s), some (gm_vi 0), some (gm_vi i), some (gm_vi (C i)), some (gm_vi ((-2) - (C i))), some (gm_vi 0), z13] [] n K _ _ Q
  refine gm_sz (gm_p_goto (pc := 165) (off := 125) (by decide +kernel) (by decide)) ?_
  refine gm_sz (gm_p_iinc (pc := 290) (j := 9) (z := 1) (by decide +kernel) rfl) ?_
  refine gm_sz (gm_p_goto (pc := 293) (off := (-238)) (by decide +kernel) (by decide)) ?_
  exact hq _ _ _ _
theorem ho_w5 (hE : E0 n K R) (hL : LE n K R NC) (hM : LM NC M) (hF : ∀ j : Int, 0 ≤ j → j < 10 → M 204 j = F j) (hC9 : ∀ j, M 247 j = C j) (h0 : 0 ≤ i ∧ i < (NC : Int)) (hA : C i = -13) {t l s : Int} {z10 z11 z12 z13 : Option gm_V} (hq : ∀ z10 z11 z12 z13 : Option gm_V, gm_Wp X LX d bc bs 41 55 [some (gm_vr 246), some (gm_vi b), some (gm_vi e), some (gm_vr 204), some (gm_vi b), some (gm_vi e), some (gm_vi (gm_or (gm_shl t 1) (if gm_w l < gm_w s then 1 else 0))), some (gm_vi (l)), some (gm_vi (0)), some (gm_vi (i + 1)), z10, z11, z12, z13] [] n K R M Q) (hie : i < e) (heb : e ≤ (NC : Int)) : gm_Wp X LX d bc bs 41 55 [some (gm_vr 246), some (gm_vi b), some (gm_vi e), some (gm_vr 204), some (gm_vi b), some (gm_vi e), some (gm_vi t), some (gm_vi l), some (gm_vi s), some (gm_vi i), z10, z11, z12, z13] [] n K R M Q := by
  have hNC := hL.2.2
  refine gm_sz (gm_p_load (pc := 55) (i := .iload 9) (sr := 0) (j := 9) (by decide +kernel) rfl rfl rfl) ?_
  refine gm_sz (gm_p_load (pc := 57) (i := .iload 5) (sr := 0) (j := 5) (by decide +kernel) rfl rfl rfl) ?_
  refine fw_icf (cc := .ge) (pc := 59) (off := 237) (by decide +kernel) (by decide) ⟨by omega, by omega⟩ ⟨by omega, by omega⟩ (show ¬ e ≤ i by omega) ?_
  refine gm_sz (gm_p_load (pc := 62) (i := .aload_n 0) (sr := 2) (j := 0) (by decide +kernel) rfl rfl rfl) ?_
  refine gm_sz (fw_gr (pc := 63) (ix := 22) (ci := 10) (j := 1) (r := 247) (by decide +kernel) (lk6 hL) (by decide +kernel) (by decide +kernel) hL.2.1.2.1) ?_
  refine gm_sz (gm_p_load (pc := 66) (i := .iload 9) (sr := 0) (j := 9) (by decide +kernel) rfl rfl rfl) ?_
  refine gm_sz (fw_ia (pc := 68) (k := 247) (len := NC) (e0 := i) (x := C i) (by decide +kernel) (lk7 hL).1 (lk7 hL).2 (by omega) ⟨by omega, by omega⟩ (hC9 _)) ?_
  refine gm_sz (gm_p_stor (pc := 69) (i := .istore 10) (sr := 0) (j := 10) (by decide +kernel) rfl (show 11 ≤ _ from Nat.le_of_ble_eq_true rfl) rfl) ?_
  show gm_Wp X LX d _ _ 41 71 [some (gm_vr 246), some (gm_vi b), some (gm_vi e), some (gm_vr 204), some (gm_vi b), some (gm_vi e), some (gm_vi t), some (gm_vi l), some (gm_vi s), some (gm_vi i), some (gm_vi (C i)), z11, z12, z13] [] n K _ _ Q
  refine gm_sz (gm_p_const (pc := 71) (i := .bipush (-2)) (v := gm_vi (-2)) (by decide +kernel) (by decide +kernel)) ?_
  refine gm_sz (gm_p_load (pc := 73) (i := .iload 10) (sr := 0) (j := 10) (by decide +kernel) rfl rfl rfl) ?_
  refine gm_sz (gm_p_bin (pc := 75) (i := .isub) (f := fun x y => x - y) (by decide +kernel) rfl) ?_
  refine gm_sz (gm_p_stor (pc := 76) (i := .istore 11) (sr := 0) (j := 11) (by decide +kernel) rfl (show 12 ≤ _ from Nat.le_of_ble_eq_true rfl) rfl) ?_
  show gm_Wp X LX d _ _ 41 78 [some (gm_vr 246), some (gm_vi b), some (gm_vi e), some (gm_vr 204), some (gm_vi b), some (gm_vi e), some (gm_vi t), some (gm_vi l), some (gm_vi s), some (gm_vi i), some (gm_vi (C i)), some (gm_vi ((-2) - (C i))), z12, z13] [] n K _ _ Q
  refine gm_sz (gm_p_load (pc := 78) (i := .iload 11) (sr := 0) (j := 11) (by decide +kernel) rfl rfl rfl) ?_
  refine fw_iff (cc := .lt) (pc := 80) (off := 17) (by decide +kernel) (by decide) ⟨by omega, by omega⟩ (show ¬ ((-2) - (C i)) < 0 by omega) ?_
  refine gm_sz (gm_p_load (pc := 83) (i := .iload 11) (sr := 0) (j := 11) (by decide +kernel) rfl rfl rfl) ?_
  refine gm_sz (gm_p_load (pc := 85) (i := .aload_n 3) (sr := 2) (j := 3) (by decide +kernel) rfl rfl rfl) ?_
  refine gm_sz (fw_al (pc := 86) (k := 204) (len := 10) (by decide +kernel) (e0a hE (k := 204) (q := (0, 10)) (by decide +kernel)).1 (e0a hE (k := 204) (q := (0, 10)) (by decide +kernel)).2 (by decide)) ?_
  refine fw_ict (cc := .ge) (pc := 87) (off := 10) (by decide +kernel) (by decide) ⟨by omega, by omega⟩ ⟨by decide, by decide⟩ (show 10 ≤ ((-2) - (C i)) by omega) ?_
  refine gm_sz (gm_p_const (pc := 97) (i := .iconst 0) (v := gm_vi 0) (by decide +kernel) (by decide +kernel)) ?_
  refine gm_sz (gm_p_stor (pc := 98) (i := .istore 12) (sr := 0) (j := 12) (by decide +kernel) rfl (show 13 ≤ _ from Nat.le_of_ble_eq_true rfl) rfl) ?_
  show gm_Wp X LX d _ _ 41 100 [some (gm_vr 246), some (gm_vi b), some (gm_vi e), some (gm_vr 204), some (gm_vi b), some (gm_vi e), some (gm_vi t), some (gm_vi l), some (gm_vi s), some (gm_vi i), some (gm_vi (C i)), some (gm_vi ((-2) - (C i))), some (gm_vi 0), z13] [] n K _ _ Q
  refine gm_sz (gm_p_load (pc := 100) (i := .iload 10) (sr := 0) (j := 10) (by decide +kernel) rfl rfl rfl) ?_
  refine fw_ift (cc := .lt) (pc := 102) (off := 13) (by decide +kernel) (by decide) ⟨by omega, by omega⟩ (show (C i) < 0 by omega) ?_
  refine gm_sz (gm_p_load (pc := 115) (i := .iload 10) (sr := 0) (j := 10) (by decide +kernel) rfl rfl rfl) ?_
  refine gm_sz (gm_p_const (pc := 117) (i := .bipush (-10)) (v := gm_vi (-10)) (by decide +kernel) (by decide +kernel)) ?_
  refine fw_ict (cc := .le) (pc := 119) (off := 13) (by decide +kernel) (by decide) ⟨by omega, by omega⟩ ⟨by decide, by decide⟩ (show (C i) ≤ (-10) by omega) ?_
  refine gm_sz (gm_p_load (pc := 132) (i := .iload 10) (sr := 0) (j := 10) (by decide +kernel) rfl rfl rfl) ?_
  refine gm_sz (gm_p_const (pc := 134) (i := .bipush (-11)) (v := gm_vi (-11)) (by decide +kernel) (by decide +kernel)) ?_
  refine fw_ict (cc := .lt) (pc := 136) (off := 15) (by decide +kernel) (by decide) ⟨by omega, by omega⟩ ⟨by decide, by decide⟩ (show (C i) < (-11) by omega) ?_
  refine gm_sz (gm_p_load (pc := 151) (i := .iload 10) (sr := 0) (j := 10) (by decide +kernel) rfl rfl rfl) ?_
  refine gm_sz (gm_p_const (pc := 153) (i := .bipush (-12)) (v := gm_vi (-12)) (by decide +kernel) (by decide +kernel)) ?_
  refine fw_ict (cc := .ne) (pc := 155) (off := 13) (by decide +kernel) (by decide) ⟨by omega, by omega⟩ ⟨by decide, by decide⟩ (show ¬ (C i) = (-12) by omega) ?_
  refine gm_sz (gm_p_load (pc := 168) (i := .iload 10) (sr := 0) (j := 10) (by decide +kernel) rfl rfl rfl) ?_
  refine gm_sz (gm_p_const (pc := 170) (i := .bipush (-13)) (v := gm_vi (-13)) (by decide +kernel) (by decide +kernel)) ?_
  refine fw_ict (cc := .eq) (pc := 172) (off := 10) (by decide +kernel) (by decide) ⟨by omega, by omega⟩ ⟨by decide, by decide⟩ (show (C i) = (-13) by omega) ?_
  refine gm_sz (gm_p_load (pc := 182) (i := .iload 10) (sr := 0) (j := 10) (by decide +kernel) rfl rfl rfl) ?_
  refine gm_sz (gm_p_const (pc := 184) (i := .bipush (-13)) (v := gm_vi (-13)) (by decide +kernel) (by decide +kernel)) ?_
  refine fw_icf (cc := .ne) (pc := 186) (off := 18) (by decide +kernel) (by decide) ⟨by omega, by omega⟩ ⟨by decide, by decide⟩ (show ¬ ¬ (C i) = (-13) by omega) ?_
  refine gm_sz (gm_p_load (pc := 189) (i := .iload 7) (sr := 0) (j := 7) (by decide +kernel) rfl rfl rfl) ?_
  refine gm_sz (gm_p_load (pc := 191) (i := .iload 8) (sr := 0) (j := 8) (by decide +kernel) rfl rfl rfl) ?_
  refine gm_b_ic (cc := .ge) (pc := 193) (off := 7) (by decide +kernel) (by decide) (fun h193 => ?_) (fun h193 => ?_)
  · have h193 : gm_w s ≤ gm_w l := h193
    refine gm_sz (gm_p_const (pc := 200) (i := .iconst 0) (v := gm_vi 0) (by decide +kernel) (by decide +kernel)) ?_
    refine gm_sz (gm_p_goto (pc := 201) (off := 15) (by decide +kernel) (by decide)) ?_
    refine gm_sz (gm_p_stor (pc := 216) (i := .istore 13) (sr := 0) (j := 13) (by decide +kernel) rfl (show 14 ≤ _ from Nat.le_of_ble_eq_true rfl) rfl) ?_
    show gm_Wp X LX d _ _ 41 218 [some (gm_vr 246), some (gm_vi b), some (gm_vi e), some (gm_vr 204), some (gm_vi b), some (gm_vi e), some (gm_vi t), some (gm_vi l), some (gm_vi s), some (gm_vi i), some (gm_vi (C i)), some (gm_vi ((-2) - (C i))), some (gm_vi 0), some (gm_vi 0)] [] n K _ _ Q
    refine gm_sz (gm_p_load (pc := 218) (i := .iload 6) (sr := 0) (j := 6) (by decide +kernel) rfl rfl rfl) ?_
    refine gm_sz (gm_p_const (pc := 220) (i := .iconst 1) (v := gm_vi 1) (by decide +kernel) (by decide +kernel)) ?_
    refine gm_sz (gm_p_bin (pc := 221) (i := .ishl) (f := gm_shl) (by decide +kernel) rfl) ?_
    refine gm_sz (gm_p_load (pc := 222) (i := .iload 13) (sr := 0) (j := 13) (by decide +kernel) rfl rfl rfl) ?_
    refine fw_iftd (cc := .eq) (pc := 224) (off := 7) (by decide +kernel) (by decide) ⟨by decide, by decide⟩ (by decide) ?_
    refine gm_sz (gm_p_const (pc := 231) (i := .iconst 0) (v := gm_vi 0) (by decide +kernel) (by decide +kernel)) ?_
    refine gm_sz (gm_p_bin (pc := 232) (i := .ior) (f := gm_or) (by decide +kernel) rfl) ?_
    refine gm_sz (gm_p_stor (pc := 233) (i := .istore 6) (sr := 0) (j := 6) (by decide +kernel) rfl (show 7 ≤ _ from Nat.le_of_ble_eq_true rfl) rfl) ?_
    show gm_Wp X LX d _ _ 41 235 [some (gm_vr 246), some (gm_vi b), some (gm_vi e), some (gm_vr 204), some (gm_vi b), some (gm_vi e), some (gm_vi (gm_or (gm_shl t 1) 0)), some (gm_vi l), some (gm_vi s), some (gm_vi i), some (gm_vi (C i)), some (gm_vi ((-2) - (C i))), some (gm_vi 0), some (gm_vi 0)] [] n K _ _ Q
    refine gm_sz (gm_p_const (pc := 235) (i := .iconst 0) (v := gm_vi 0) (by decide +kernel) (by decide +kernel)) ?_
    refine gm_sz (gm_p_stor (pc := 236) (i := .istore 8) (sr := 0) (j := 8) (by decide +kernel) rfl (show 9 ≤ _ from Nat.le_of_ble_eq_true rfl) rfl) ?_
    show gm_Wp X LX d _ _ 41 238 [some (gm_vr 246), some (gm_vi b), some (gm_vi e), some (gm_vr 204), some (gm_vi b), some (gm_vi e), some (gm_vi (gm_or (gm_shl t 1) 0)), some (gm_vi l), some (gm_vi 0), some (gm_vi i), some (gm_vi (C i)), some (gm_vi ((-2) - (C i))), some (gm_vi 0), some (gm_vi 0)] [] n K _ _ Q
    refine gm_sz (gm_p_goto (pc := 238) (off := 52) (by decide +kernel) (by decide)) ?_
    refine gm_sz (gm_p_iinc (pc := 290) (j := 9) (z := 1) (by decide +kernel) rfl) ?_
    refine gm_sz (gm_p_goto (pc := 293) (off := (-238)) (by decide +kernel) (by decide)) ?_
    rw [if_neg (by omega)] at hq
    exact hq _ _ _ _
  · have h193 : ¬ gm_w s ≤ gm_w l := h193
    refine gm_sz (gm_p_const (pc := 196) (i := .iconst 1) (v := gm_vi 1) (by decide +kernel) (by decide +kernel)) ?_
    refine gm_sz (gm_p_goto (pc := 197) (off := 19) (by decide +kernel) (by decide)) ?_
    refine gm_sz (gm_p_stor (pc := 216) (i := .istore 13) (sr := 0) (j := 13) (by decide +kernel) rfl (show 14 ≤ _ from Nat.le_of_ble_eq_true rfl) rfl) ?_
    show gm_Wp X LX d _ _ 41 218 [some (gm_vr 246), some (gm_vi b), some (gm_vi e), some (gm_vr 204), some (gm_vi b), some (gm_vi e), some (gm_vi t), some (gm_vi l), some (gm_vi s), some (gm_vi i), some (gm_vi (C i)), some (gm_vi ((-2) - (C i))), some (gm_vi 0), some (gm_vi 1)] [] n K _ _ Q
    refine gm_sz (gm_p_load (pc := 218) (i := .iload 6) (sr := 0) (j := 6) (by decide +kernel) rfl rfl rfl) ?_
    refine gm_sz (gm_p_const (pc := 220) (i := .iconst 1) (v := gm_vi 1) (by decide +kernel) (by decide +kernel)) ?_
    refine gm_sz (gm_p_bin (pc := 221) (i := .ishl) (f := gm_shl) (by decide +kernel) rfl) ?_
    refine gm_sz (gm_p_load (pc := 222) (i := .iload 13) (sr := 0) (j := 13) (by decide +kernel) rfl rfl rfl) ?_
    refine fw_iffd (cc := .eq) (pc := 224) (off := 7) (by decide +kernel) (by decide) ⟨by decide, by decide⟩ (by decide) ?_
    refine gm_sz (gm_p_const (pc := 227) (i := .iconst 1) (v := gm_vi 1) (by decide +kernel) (by decide +kernel)) ?_
    refine gm_sz (gm_p_goto (pc := 228) (off := 4) (by decide +kernel) (by decide)) ?_
    refine gm_sz (gm_p_bin (pc := 232) (i := .ior) (f := gm_or) (by decide +kernel) rfl) ?_
    refine gm_sz (gm_p_stor (pc := 233) (i := .istore 6) (sr := 0) (j := 6) (by decide +kernel) rfl (show 7 ≤ _ from Nat.le_of_ble_eq_true rfl) rfl) ?_
    show gm_Wp X LX d _ _ 41 235 [some (gm_vr 246), some (gm_vi b), some (gm_vi e), some (gm_vr 204), some (gm_vi b), some (gm_vi e), some (gm_vi (gm_or (gm_shl t 1) 1)), some (gm_vi l), some (gm_vi s), some (gm_vi i), some (gm_vi (C i)), some (gm_vi ((-2) - (C i))), some (gm_vi 0), some (gm_vi 1)] [] n K _ _ Q
    refine gm_sz (gm_p_const (pc := 235) (i := .iconst 0) (v := gm_vi 0) (by decide +kernel) (by decide +kernel)) ?_
    refine gm_sz (gm_p_stor (pc := 236) (i := .istore 8) (sr := 0) (j := 8) (by decide +kernel) rfl (show 9 ≤ _ from Nat.le_of_ble_eq_true rfl) rfl) ?_
    show gm_Wp X LX d _ _ 41 238 [some (gm_vr 246), some (gm_vi b), some (gm_vi e), some (gm_vr 204), some (gm_vi b), some (gm_vi e), some (gm_vi (gm_or (gm_shl t 1) 1)), some (gm_vi l), some (gm_vi 0), some (gm_vi i), some (gm_vi (C i)), some (gm_vi ((-2) - (C i))), some (gm_vi 0), some (gm_vi 1)] [] n K _ _ Q
    refine gm_sz (gm_p_goto (pc := 238) (off := 52) (by decide +kernel) (by decide)) ?_
    refine gm_sz (gm_p_iinc (pc := 290) (j := 9) (z := 1) (by decide +kernel) rfl) ?_
    refine gm_sz (gm_p_goto (pc := 293) (off := (-238)) (by decide +kernel) (by decide)) ?_
    rw [if_pos (by omega)] at hq
    exact hq _ _ _ _
theorem ho_w6 (hE : E0 n K R) (hL : LE n K R NC) (hM : LM NC M) (hF : ∀ j : Int, 0 ≤ j → j < 10 → M 204 j = F j) (hC9 : ∀ j, M 247 j = C j) (h0 : 0 ≤ i ∧ i < (NC : Int)) (hA : C i = -14) {t l s : Int} {z10 z11 z12 z13 : Option gm_V} (hq : ∀ z10 z11 z12 z13 : Option gm_V, gm_Wp X LX d bc bs 41 55 [some (gm_vr 246), some (gm_vi b), some (gm_vi e), some (gm_vr 204), some (gm_vi b), some (gm_vi e), some (gm_vi (gm_or (gm_shl t 1) (if gm_w s < gm_w l then 1 else 0))), some (gm_vi (l)), some (gm_vi (0)), some (gm_vi (i + 1)), z10, z11, z12, z13] [] n K R M Q) (hie : i < e) (heb : e ≤ (NC : Int)) : gm_Wp X LX d bc bs 41 55 [some (gm_vr 246), some (gm_vi b), some (gm_vi e), some (gm_vr 204), some (gm_vi b), some (gm_vi e), some (gm_vi t), some (gm_vi l), some (gm_vi s), some (gm_vi i), z10, z11, z12, z13] [] n K R M Q := by
  have hNC := hL.2.2
  refine gm_sz (gm_p_load (pc := 55) (i := .iload 9) (sr := 0) (j := 9) (by decide +kernel) rfl rfl rfl) ?_
  refine gm_sz (gm_p_load (pc := 57) (i := .iload 5) (sr := 0) (j := 5) (by decide +kernel) rfl rfl rfl) ?_
  refine fw_icf (cc := .ge) (pc := 59) (off := 237) (by decide +kernel) (by decide) ⟨by omega, by omega⟩ ⟨by omega, by omega⟩ (show ¬ e ≤ i by omega) ?_
  refine gm_sz (gm_p_load (pc := 62) (i := .aload_n 0) (sr := 2) (j := 0) (by decide +kernel) rfl rfl rfl) ?_
  refine gm_sz (fw_gr (pc := 63) (ix := 22) (ci := 10) (j := 1) (r := 247) (by decide +kernel) (lk6 hL) (by decide +kernel) (by decide +kernel) hL.2.1.2.1) ?_
  refine gm_sz (gm_p_load (pc := 66) (i := .iload 9) (sr := 0) (j := 9) (by decide +kernel) rfl rfl rfl) ?_
  refine gm_sz (fw_ia (pc := 68) (k := 247) (len := NC) (e0 := i) (x := C i) (by decide +kernel) (lk7 hL).1 (lk7 hL).2 (by omega) ⟨by omega, by omega⟩ (hC9 _)) ?_
  refine gm_sz (gm_p_stor (pc := 69) (i := .istore 10) (sr := 0) (j := 10) (by decide +kernel) rfl (show 11 ≤ _ from Nat.le_of_ble_eq_true rfl) rfl) ?_
  show gm_Wp X LX d _ _ 41 71 [some (gm_vr 246), some (gm_vi b), some (gm_vi e), some (gm_vr 204), some (gm_vi b), some (gm_vi e), some (gm_vi t), some (gm_vi l), some (gm_vi s), some (gm_vi i), some (gm_vi (C i)), z11, z12, z13] [] n K _ _ Q
  refine gm_sz (gm_p_const (pc := 71) (i := .bipush (-2)) (v := gm_vi (-2)) (by decide +kernel) (by decide +kernel)) ?_
  refine gm_sz (gm_p_load (pc := 73) (i := .iload 10) (sr := 0) (j := 10) (by decide +kernel) rfl rfl rfl) ?_
  refine gm_sz (gm_p_bin (pc := 75) (i := .isub) (f := fun x y => x - y) (by decide +kernel) rfl) ?_
  refine gm_sz (gm_p_stor (pc := 76) (i := .istore 11) (sr := 0) (j := 11) (by decide +kernel) rfl (show 12 ≤ _ from Nat.le_of_ble_eq_true rfl) rfl) ?_
  show gm_Wp X LX d _ _ 41 78 [some (gm_vr 246), some (gm_vi b), some (gm_vi e), some (gm_vr 204), some (gm_vi b), some (gm_vi e), some (gm_vi t), some (gm_vi l), some (gm_vi s), some (gm_vi i), some (gm_vi (C i)), some (gm_vi ((-2) - (C i))), z12, z13] [] n K _ _ Q
  refine gm_sz (gm_p_load (pc := 78) (i := .iload 11) (sr := 0) (j := 11) (by decide +kernel) rfl rfl rfl) ?_
  refine fw_iff (cc := .lt) (pc := 80) (off := 17) (by decide +kernel) (by decide) ⟨by omega, by omega⟩ (show ¬ ((-2) - (C i)) < 0 by omega) ?_
  refine gm_sz (gm_p_load (pc := 83) (i := .iload 11) (sr := 0) (j := 11) (by decide +kernel) rfl rfl rfl) ?_
  refine gm_sz (gm_p_load (pc := 85) (i := .aload_n 3) (sr := 2) (j := 3) (by decide +kernel) rfl rfl rfl) ?_
  refine gm_sz (fw_al (pc := 86) (k := 204) (len := 10) (by decide +kernel) (e0a hE (k := 204) (q := (0, 10)) (by decide +kernel)).1 (e0a hE (k := 204) (q := (0, 10)) (by decide +kernel)).2 (by decide)) ?_
  refine fw_ict (cc := .ge) (pc := 87) (off := 10) (by decide +kernel) (by decide) ⟨by omega, by omega⟩ ⟨by decide, by decide⟩ (show 10 ≤ ((-2) - (C i)) by omega) ?_
  refine gm_sz (gm_p_const (pc := 97) (i := .iconst 0) (v := gm_vi 0) (by decide +kernel) (by decide +kernel)) ?_
  refine gm_sz (gm_p_stor (pc := 98) (i := .istore 12) (sr := 0) (j := 12) (by decide +kernel) rfl (show 13 ≤ _ from Nat.le_of_ble_eq_true rfl) rfl) ?_
  show gm_Wp X LX d _ _ 41 100 [some (gm_vr 246), some (gm_vi b), some (gm_vi e), some (gm_vr 204), some (gm_vi b), some (gm_vi e), some (gm_vi t), some (gm_vi l), some (gm_vi s), some (gm_vi i), some (gm_vi (C i)), some (gm_vi ((-2) - (C i))), some (gm_vi 0), z13] [] n K _ _ Q
  refine gm_sz (gm_p_load (pc := 100) (i := .iload 10) (sr := 0) (j := 10) (by decide +kernel) rfl rfl rfl) ?_
  refine fw_ift (cc := .lt) (pc := 102) (off := 13) (by decide +kernel) (by decide) ⟨by omega, by omega⟩ (show (C i) < 0 by omega) ?_
  refine gm_sz (gm_p_load (pc := 115) (i := .iload 10) (sr := 0) (j := 10) (by decide +kernel) rfl rfl rfl) ?_
  refine gm_sz (gm_p_const (pc := 117) (i := .bipush (-10)) (v := gm_vi (-10)) (by decide +kernel) (by decide +kernel)) ?_
  refine fw_ict (cc := .le) (pc := 119) (off := 13) (by decide +kernel) (by decide) ⟨by omega, by omega⟩ ⟨by decide, by decide⟩ (show (C i) ≤ (-10) by omega) ?_
  refine gm_sz (gm_p_load (pc := 132) (i := .iload 10) (sr := 0) (j := 10) (by decide +kernel) rfl rfl rfl) ?_
  refine gm_sz (gm_p_const (pc := 134) (i := .bipush (-11)) (v := gm_vi (-11)) (by decide +kernel) (by decide +kernel)) ?_
  refine fw_ict (cc := .lt) (pc := 136) (off := 15) (by decide +kernel) (by decide) ⟨by omega, by omega⟩ ⟨by decide, by decide⟩ (show (C i) < (-11) by omega) ?_
  refine gm_sz (gm_p_load (pc := 151) (i := .iload 10) (sr := 0) (j := 10) (by decide +kernel) rfl rfl rfl) ?_
  refine gm_sz (gm_p_const (pc := 153) (i := .bipush (-12)) (v := gm_vi (-12)) (by decide +kernel) (by decide +kernel)) ?_
  refine fw_ict (cc := .ne) (pc := 155) (off := 13) (by decide +kernel) (by decide) ⟨by omega, by omega⟩ ⟨by decide, by decide⟩ (show ¬ (C i) = (-12) by omega) ?_
  refine gm_sz (gm_p_load (pc := 168) (i := .iload 10) (sr := 0) (j := 10) (by decide +kernel) rfl rfl rfl) ?_
  refine gm_sz (gm_p_const (pc := 170) (i := .bipush (-13)) (v := gm_vi (-13)) (by decide +kernel) (by decide +kernel)) ?_
  refine fw_icf (cc := .eq) (pc := 172) (off := 10) (by decide +kernel) (by decide) ⟨by omega, by omega⟩ ⟨by decide, by decide⟩ (show ¬ (C i) = (-13) by omega) ?_
  refine gm_sz (gm_p_load (pc := 175) (i := .iload 10) (sr := 0) (j := 10) (by decide +kernel) rfl rfl rfl) ?_
  refine gm_sz (gm_p_const (pc := 177) (i := .bipush (-14)) (v := gm_vi (-14)) (by decide +kernel) (by decide +kernel)) ?_
  refine fw_icf (cc := .ne) (pc := 179) (off := 62) (by decide +kernel) (by decide) ⟨by omega, by omega⟩ ⟨by decide, by decide⟩ (show ¬ ¬ (C i) = (-14) by omega) ?_
  refine gm_sz (gm_p_load (pc := 182) (i := .iload 10) (sr := 0) (j := 10) (by decide +kernel) rfl rfl rfl) ?_
  refine gm_sz (gm_p_const (pc := 184) (i := .bipush (-13)) (v := gm_vi (-13)) (by decide +kernel) (by decide +kernel)) ?_
  refine fw_ict (cc := .ne) (pc := 186) (off := 18) (by decide +kernel) (by decide) ⟨by omega, by omega⟩ ⟨by decide, by decide⟩ (show ¬ (C i) = (-13) by omega) ?_
  refine gm_sz (gm_p_load (pc := 204) (i := .iload 7) (sr := 0) (j := 7) (by decide +kernel) rfl rfl rfl) ?_
  refine gm_sz (gm_p_load (pc := 206) (i := .iload 8) (sr := 0) (j := 8) (by decide +kernel) rfl rfl rfl) ?_
  refine gm_b_ic (cc := .le) (pc := 208) (off := 7) (by decide +kernel) (by decide) (fun h208 => ?_) (fun h208 => ?_)
  · have h208 : gm_w l ≤ gm_w s := h208
    refine gm_sz (gm_p_const (pc := 215) (i := .iconst 0) (v := gm_vi 0) (by decide +kernel) (by decide +kernel)) ?_
    refine gm_sz (gm_p_stor (pc := 216) (i := .istore 13) (sr := 0) (j := 13) (by decide +kernel) rfl (show 14 ≤ _ from Nat.le_of_ble_eq_true rfl) rfl) ?_
    show gm_Wp X LX d _ _ 41 218 [some (gm_vr 246), some (gm_vi b), some (gm_vi e), some (gm_vr 204), some (gm_vi b), some (gm_vi e), some (gm_vi t), some (gm_vi l), some (gm_vi s), some (gm_vi i), some (gm_vi (C i)), some (gm_vi ((-2) - (C i))), some (gm_vi 0), some (gm_vi 0)] [] n K _ _ Q
    refine gm_sz (gm_p_load (pc := 218) (i := .iload 6) (sr := 0) (j := 6) (by decide +kernel) rfl rfl rfl) ?_
    refine gm_sz (gm_p_const (pc := 220) (i := .iconst 1) (v := gm_vi 1) (by decide +kernel) (by decide +kernel)) ?_
    refine gm_sz (gm_p_bin (pc := 221) (i := .ishl) (f := gm_shl) (by decide +kernel) rfl) ?_
    refine gm_sz (gm_p_load (pc := 222) (i := .iload 13) (sr := 0) (j := 13) (by decide +kernel) rfl rfl rfl) ?_
    refine fw_iftd (cc := .eq) (pc := 224) (off := 7) (by decide +kernel) (by decide) ⟨by decide, by decide⟩ (by decide) ?_
    refine gm_sz (gm_p_const (pc := 231) (i := .iconst 0) (v := gm_vi 0) (by decide +kernel) (by decide +kernel)) ?_
    refine gm_sz (gm_p_bin (pc := 232) (i := .ior) (f := gm_or) (by decide +kernel) rfl) ?_
    refine gm_sz (gm_p_stor (pc := 233) (i := .istore 6) (sr := 0) (j := 6) (by decide +kernel) rfl (show 7 ≤ _ from Nat.le_of_ble_eq_true rfl) rfl) ?_
    show gm_Wp X LX d _ _ 41 235 [some (gm_vr 246), some (gm_vi b), some (gm_vi e), some (gm_vr 204), some (gm_vi b), some (gm_vi e), some (gm_vi (gm_or (gm_shl t 1) 0)), some (gm_vi l), some (gm_vi s), some (gm_vi i), some (gm_vi (C i)), some (gm_vi ((-2) - (C i))), some (gm_vi 0), some (gm_vi 0)] [] n K _ _ Q
    refine gm_sz (gm_p_const (pc := 235) (i := .iconst 0) (v := gm_vi 0) (by decide +kernel) (by decide +kernel)) ?_
    refine gm_sz (gm_p_stor (pc := 236) (i := .istore 8) (sr := 0) (j := 8) (by decide +kernel) rfl (show 9 ≤ _ from Nat.le_of_ble_eq_true rfl) rfl) ?_
    show gm_Wp X LX d _ _ 41 238 [some (gm_vr 246), some (gm_vi b), some (gm_vi e), some (gm_vr 204), some (gm_vi b), some (gm_vi e), some (gm_vi (gm_or (gm_shl t 1) 0)), some (gm_vi l), some (gm_vi 0), some (gm_vi i), some (gm_vi (C i)), some (gm_vi ((-2) - (C i))), some (gm_vi 0), some (gm_vi 0)] [] n K _ _ Q
    refine gm_sz (gm_p_goto (pc := 238) (off := 52) (by decide +kernel) (by decide)) ?_
    refine gm_sz (gm_p_iinc (pc := 290) (j := 9) (z := 1) (by decide +kernel) rfl) ?_
    refine gm_sz (gm_p_goto (pc := 293) (off := (-238)) (by decide +kernel) (by decide)) ?_
    rw [if_neg (by omega)] at hq
    exact hq _ _ _ _
  · have h208 : ¬ gm_w l ≤ gm_w s := h208
    refine gm_sz (gm_p_const (pc := 211) (i := .iconst 1) (v := gm_vi 1) (by decide +kernel) (by decide +kernel)) ?_
    refine gm_sz (gm_p_goto (pc := 212) (off := 4) (by decide +kernel) (by decide)) ?_
    refine gm_sz (gm_p_stor (pc := 216) (i := .istore 13) (sr := 0) (j := 13) (by decide +kernel) rfl (show 14 ≤ _ from Nat.le_of_ble_eq_true rfl) rfl) ?_
    show gm_Wp X LX d _ _ 41 218 [some (gm_vr 246), some (gm_vi b), some (gm_vi e), some (gm_vr 204), some (gm_vi b), some (gm_vi e), some (gm_vi t), some (gm_vi l), some (gm_vi s), some (gm_vi i), some (gm_vi (C i)), some (gm_vi ((-2) - (C i))), some (gm_vi 0), some (gm_vi 1)] [] n K _ _ Q
    refine gm_sz (gm_p_load (pc := 218) (i := .iload 6) (sr := 0) (j := 6) (by decide +kernel) rfl rfl rfl) ?_
    refine gm_sz (gm_p_const (pc := 220) (i := .iconst 1) (v := gm_vi 1) (by decide +kernel) (by decide +kernel)) ?_
    refine gm_sz (gm_p_bin (pc := 221) (i := .ishl) (f := gm_shl) (by decide +kernel) rfl) ?_
    refine gm_sz (gm_p_load (pc := 222) (i := .iload 13) (sr := 0) (j := 13) (by decide +kernel) rfl rfl rfl) ?_
    refine fw_iffd (cc := .eq) (pc := 224) (off := 7) (by decide +kernel) (by decide) ⟨by decide, by decide⟩ (by decide) ?_
    refine gm_sz (gm_p_const (pc := 227) (i := .iconst 1) (v := gm_vi 1) (by decide +kernel) (by decide +kernel)) ?_
    refine gm_sz (gm_p_goto (pc := 228) (off := 4) (by decide +kernel) (by decide)) ?_
    refine gm_sz (gm_p_bin (pc := 232) (i := .ior) (f := gm_or) (by decide +kernel) rfl) ?_
    refine gm_sz (gm_p_stor (pc := 233) (i := .istore 6) (sr := 0) (j := 6) (by decide +kernel) rfl (show 7 ≤ _ from Nat.le_of_ble_eq_true rfl) rfl) ?_
    show gm_Wp X LX d _ _ 41 235 [some (gm_vr 246), some (gm_vi b), some (gm_vi e), some (gm_vr 204), some (gm_vi b), some (gm_vi e), some (gm_vi (gm_or (gm_shl t 1) 1)), some (gm_vi l), some (gm_vi s), some (gm_vi i), some (gm_vi (C i)), some (gm_vi ((-2) - (C i))), some (gm_vi 0), some (gm_vi 1)] [] n K _ _ Q
    refine gm_sz (gm_p_const (pc := 235) (i := .iconst 0) (v := gm_vi 0) (by decide +kernel) (by decide +kernel)) ?_
    refine gm_sz (gm_p_stor (pc := 236) (i := .istore 8) (sr := 0) (j := 8) (by decide +kernel) rfl (show 9 ≤ _ from Nat.le_of_ble_eq_true rfl) rfl) ?_
    show gm_Wp X LX d _ _ 41 238 [some (gm_vr 246), some (gm_vi b), some (gm_vi e), some (gm_vr 204), some (gm_vi b), some (gm_vi e), some (gm_vi (gm_or (gm_shl t 1) 1)), some (gm_vi l), some (gm_vi 0), some (gm_vi i), some (gm_vi (C i)), some (gm_vi ((-2) - (C i))), some (gm_vi 0), some (gm_vi 1)] [] n K _ _ Q
    refine gm_sz (gm_p_goto (pc := 238) (off := 52) (by decide +kernel) (by decide)) ?_
    refine gm_sz (gm_p_iinc (pc := 290) (j := 9) (z := 1) (by decide +kernel) rfl) ?_
    refine gm_sz (gm_p_goto (pc := 293) (off := (-238)) (by decide +kernel) (by decide)) ?_
    rw [if_pos (by omega)] at hq
    exact hq _ _ _ _
theorem ho_w7 (hE : E0 n K R) (hL : LE n K R NC) (hM : LM NC M) (hF : ∀ j : Int, 0 ≤ j → j < 10 → M 204 j = F j) (hC9 : ∀ j, M 247 j = C j) (h0 : 0 ≤ i ∧ i < (NC : Int)) (hA : C i = -15) {t l s : Int} {z10 z11 z12 z13 : Option gm_V} (hq : ∀ z10 z11 z12 z13 : Option gm_V, gm_Wp X LX d bc bs 41 55 [some (gm_vr 246), some (gm_vi b), some (gm_vi e), some (gm_vr 204), some (gm_vi b), some (gm_vi e), some (gm_vi (gm_xor t 1)), some (gm_vi (l)), some (gm_vi (s)), some (gm_vi (i + 1)), z10, z11, z12, z13] [] n K R M Q) (hie : i < e) (heb : e ≤ (NC : Int)) : gm_Wp X LX d bc bs 41 55 [some (gm_vr 246), some (gm_vi b), some (gm_vi e), some (gm_vr 204), some (gm_vi b), some (gm_vi e), some (gm_vi t), some (gm_vi l), some (gm_vi s), some (gm_vi i), z10, z11, z12, z13] [] n K R M Q := by
  have hNC := hL.2.2
  refine gm_sz (gm_p_load (pc := 55) (i := .iload 9) (sr := 0) (j := 9) (by decide +kernel) rfl rfl rfl) ?_
  refine gm_sz (gm_p_load (pc := 57) (i := .iload 5) (sr := 0) (j := 5) (by decide +kernel) rfl rfl rfl) ?_
  refine fw_icf (cc := .ge) (pc := 59) (off := 237) (by decide +kernel) (by decide) ⟨by omega, by omega⟩ ⟨by omega, by omega⟩ (show ¬ e ≤ i by omega) ?_
  refine gm_sz (gm_p_load (pc := 62) (i := .aload_n 0) (sr := 2) (j := 0) (by decide +kernel) rfl rfl rfl) ?_
  refine gm_sz (fw_gr (pc := 63) (ix := 22) (ci := 10) (j := 1) (r := 247) (by decide +kernel) (lk6 hL) (by decide +kernel) (by decide +kernel) hL.2.1.2.1) ?_
  refine gm_sz (gm_p_load (pc := 66) (i := .iload 9) (sr := 0) (j := 9) (by decide +kernel) rfl rfl rfl) ?_
  refine gm_sz (fw_ia (pc := 68) (k := 247) (len := NC) (e0 := i) (x := C i) (by decide +kernel) (lk7 hL).1 (lk7 hL).2 (by omega) ⟨by omega, by omega⟩ (hC9 _)) ?_
  refine gm_sz (gm_p_stor (pc := 69) (i := .istore 10) (sr := 0) (j := 10) (by decide +kernel) rfl (show 11 ≤ _ from Nat.le_of_ble_eq_true rfl) rfl) ?_
  show gm_Wp X LX d _ _ 41 71 [some (gm_vr 246), some (gm_vi b), some (gm_vi e), some (gm_vr 204), some (gm_vi b), some (gm_vi e), some (gm_vi t), some (gm_vi l), some (gm_vi s), some (gm_vi i), some (gm_vi (C i)), z11, z12, z13] [] n K _ _ Q
  refine gm_sz (gm_p_const (pc := 71) (i := .bipush (-2)) (v := gm_vi (-2)) (by decide +kernel) (by decide +kernel)) ?_
  refine gm_sz (gm_p_load (pc := 73) (i := .iload 10) (sr := 0) (j := 10) (by decide +kernel) rfl rfl rfl) ?_
  refine gm_sz (gm_p_bin (pc := 75) (i := .isub) (f := fun x y => x - y) (by decide +kernel) rfl) ?_
  refine gm_sz (gm_p_stor (pc := 76) (i := .istore 11) (sr := 0) (j := 11) (by decide +kernel) rfl (show 12 ≤ _ from Nat.le_of_ble_eq_true rfl) rfl) ?_
  show gm_Wp X LX d _ _ 41 78 [some (gm_vr 246), some (gm_vi b), some (gm_vi e), some (gm_vr 204), some (gm_vi b), some (gm_vi e), some (gm_vi t), some (gm_vi l), some (gm_vi s), some (gm_vi i), some (gm_vi (C i)), some (gm_vi ((-2) - (C i))), z12, z13] [] n K _ _ Q
  refine gm_sz (gm_p_load (pc := 78) (i := .iload 11) (sr := 0) (j := 11) (by decide +kernel) rfl rfl rfl) ?_
  refine fw_iff (cc := .lt) (pc := 80) (off := 17) (by decide +kernel) (by decide) ⟨by omega, by omega⟩ (show ¬ ((-2) - (C i)) < 0 by omega) ?_
  refine gm_sz (gm_p_load (pc := 83) (i := .iload 11) (sr := 0) (j := 11) (by decide +kernel) rfl rfl rfl) ?_
  refine gm_sz (gm_p_load (pc := 85) (i := .aload_n 3) (sr := 2) (j := 3) (by decide +kernel) rfl rfl rfl) ?_
  refine gm_sz (fw_al (pc := 86) (k := 204) (len := 10) (by decide +kernel) (e0a hE (k := 204) (q := (0, 10)) (by decide +kernel)).1 (e0a hE (k := 204) (q := (0, 10)) (by decide +kernel)).2 (by decide)) ?_
  refine fw_ict (cc := .ge) (pc := 87) (off := 10) (by decide +kernel) (by decide) ⟨by omega, by omega⟩ ⟨by decide, by decide⟩ (show 10 ≤ ((-2) - (C i)) by omega) ?_
  refine gm_sz (gm_p_const (pc := 97) (i := .iconst 0) (v := gm_vi 0) (by decide +kernel) (by decide +kernel)) ?_
  refine gm_sz (gm_p_stor (pc := 98) (i := .istore 12) (sr := 0) (j := 12) (by decide +kernel) rfl (show 13 ≤ _ from Nat.le_of_ble_eq_true rfl) rfl) ?_
  show gm_Wp X LX d _ _ 41 100 [some (gm_vr 246), some (gm_vi b), some (gm_vi e), some (gm_vr 204), some (gm_vi b), some (gm_vi e), some (gm_vi t), some (gm_vi l), some (gm_vi s), some (gm_vi i), some (gm_vi (C i)), some (gm_vi ((-2) - (C i))), some (gm_vi 0), z13] [] n K _ _ Q
  refine gm_sz (gm_p_load (pc := 100) (i := .iload 10) (sr := 0) (j := 10) (by decide +kernel) rfl rfl rfl) ?_
  refine fw_ift (cc := .lt) (pc := 102) (off := 13) (by decide +kernel) (by decide) ⟨by omega, by omega⟩ (show (C i) < 0 by omega) ?_
  refine gm_sz (gm_p_load (pc := 115) (i := .iload 10) (sr := 0) (j := 10) (by decide +kernel) rfl rfl rfl) ?_
  refine gm_sz (gm_p_const (pc := 117) (i := .bipush (-10)) (v := gm_vi (-10)) (by decide +kernel) (by decide +kernel)) ?_
  refine fw_ict (cc := .le) (pc := 119) (off := 13) (by decide +kernel) (by decide) ⟨by omega, by omega⟩ ⟨by decide, by decide⟩ (show (C i) ≤ (-10) by omega) ?_
  refine gm_sz (gm_p_load (pc := 132) (i := .iload 10) (sr := 0) (j := 10) (by decide +kernel) rfl rfl rfl) ?_
  refine gm_sz (gm_p_const (pc := 134) (i := .bipush (-11)) (v := gm_vi (-11)) (by decide +kernel) (by decide +kernel)) ?_
  refine fw_ict (cc := .lt) (pc := 136) (off := 15) (by decide +kernel) (by decide) ⟨by omega, by omega⟩ ⟨by decide, by decide⟩ (show (C i) < (-11) by omega) ?_
  refine gm_sz (gm_p_load (pc := 151) (i := .iload 10) (sr := 0) (j := 10) (by decide +kernel) rfl rfl rfl) ?_
  refine gm_sz (gm_p_const (pc := 153) (i := .bipush (-12)) (v := gm_vi (-12)) (by decide +kernel) (by decide +kernel)) ?_
  refine fw_ict (cc := .ne) (pc := 155) (off := 13) (by decide +kernel) (by decide) ⟨by omega, by omega⟩ ⟨by decide, by decide⟩ (show ¬ (C i) = (-12) by omega) ?_
  refine gm_sz (gm_p_load (pc := 168) (i := .iload 10) (sr := 0) (j := 10) (by decide +kernel) rfl rfl rfl) ?_
  refine gm_sz (gm_p_const (pc := 170) (i := .bipush (-13)) (v := gm_vi (-13)) (by decide +kernel) (by decide +kernel)) ?_
  refine fw_icf (cc := .eq) (pc := 172) (off := 10) (by decide +kernel) (by decide) ⟨by omega, by omega⟩ ⟨by decide, by decide⟩ (show ¬ (C i) = (-13) by omega) ?_
  refine gm_sz (gm_p_load (pc := 175) (i := .iload 10) (sr := 0) (j := 10) (by decide +kernel) rfl rfl rfl) ?_
  refine gm_sz (gm_p_const (pc := 177) (i := .bipush (-14)) (v := gm_vi (-14)) (by decide +kernel) (by decide +kernel)) ?_
  refine fw_ict (cc := .ne) (pc := 179) (off := 62) (by decide +kernel) (by decide) ⟨by omega, by omega⟩ ⟨by decide, by decide⟩ (show ¬ (C i) = (-14) by omega) ?_
  refine gm_sz (gm_p_load (pc := 241) (i := .iload 10) (sr := 0) (j := 10) (by decide +kernel) rfl rfl rfl) ?_
  refine gm_sz (gm_p_const (pc := 243) (i := .bipush (-15)) (v := gm_vi (-15)) (by decide +kernel) (by decide +kernel)) ?_
  refine fw_icf (cc := .ne) (pc := 245) (off := 12) (by decide +kernel) (by decide) ⟨by omega, by omega⟩ ⟨by decide, by decide⟩ (show ¬ ¬ (C i) = (-15) by omega) ?_
  refine gm_sz (gm_p_load (pc := 248) (i := .iload 6) (sr := 0) (j := 6) (by decide +kernel) rfl rfl rfl) ?_
  refine gm_sz (gm_p_const (pc := 250) (i := .iconst 1) (v := gm_vi 1) (by decide +kernel) (by decide +kernel)) ?_
  refine gm_sz (gm_p_bin (pc := 251) (i := .ixor) (f := gm_xor) (by decide +kernel) rfl) ?_
  refine gm_sz (gm_p_stor (pc := 252) (i := .istore 6) (sr := 0) (j := 6) (by decide +kernel) rfl (show 7 ≤ _ from Nat.le_of_ble_eq_true rfl) rfl) ?_
  show gm_Wp X LX d _ _ 41 254 [some (gm_vr 246), some (gm_vi b), some (gm_vi e), some (gm_vr 204), some (gm_vi b), some (gm_vi e), some (gm_vi (gm_xor t 1)), some (gm_vi l), some (gm_vi s), some (gm_vi i), some (gm_vi (C i)), some (gm_vi ((-2) - (C i))), some (gm_vi 0), z13] [] n K _ _ Q
  refine gm_sz (gm_p_goto (pc := 254) (off := 36) (by decide +kernel) (by decide)) ?_
  refine gm_sz (gm_p_iinc (pc := 290) (j := 9) (z := 1) (by decide +kernel) rfl) ?_
  refine gm_sz (gm_p_goto (pc := 293) (off := (-238)) (by decide +kernel) (by decide)) ?_
  exact hq _ _ _ _
theorem ho_w8 (hE : E0 n K R) (hL : LE n K R NC) (hM : LM NC M) (hF : ∀ j : Int, 0 ≤ j → j < 10 → M 204 j = F j) (hC9 : ∀ j, M 247 j = C j) (h0 : 0 ≤ i ∧ i < (NC : Int)) (hA : C i = -16) {t l s : Int} {z10 z11 z12 z13 : Option gm_V} (hq : ∀ z10 z11 z12 z13 : Option gm_V, gm_Wp X LX d bc bs 41 55 [some (gm_vr 246), some (gm_vi b), some (gm_vi e), some (gm_vr 204), some (gm_vi b), some (gm_vi e), some (gm_vi (gm_and (gm_shr t 1) (gm_or t (-2)))), some (gm_vi (l)), some (gm_vi (s)), some (gm_vi (i + 1)), z10, z11, z12, z13] [] n K R M Q) (hie : i < e) (heb : e ≤ (NC : Int)) : gm_Wp X LX d bc bs 41 55 [some (gm_vr 246), some (gm_vi b), some (gm_vi e), some (gm_vr 204), some (gm_vi b), some (gm_vi e), some (gm_vi t), some (gm_vi l), some (gm_vi s), some (gm_vi i), z10, z11, z12, z13] [] n K R M Q := by
  have hNC := hL.2.2
  refine gm_sz (gm_p_load (pc := 55) (i := .iload 9) (sr := 0) (j := 9) (by decide +kernel) rfl rfl rfl) ?_
  refine gm_sz (gm_p_load (pc := 57) (i := .iload 5) (sr := 0) (j := 5) (by decide +kernel) rfl rfl rfl) ?_
  refine fw_icf (cc := .ge) (pc := 59) (off := 237) (by decide +kernel) (by decide) ⟨by omega, by omega⟩ ⟨by omega, by omega⟩ (show ¬ e ≤ i by omega) ?_
  refine gm_sz (gm_p_load (pc := 62) (i := .aload_n 0) (sr := 2) (j := 0) (by decide +kernel) rfl rfl rfl) ?_
  refine gm_sz (fw_gr (pc := 63) (ix := 22) (ci := 10) (j := 1) (r := 247) (by decide +kernel) (lk6 hL) (by decide +kernel) (by decide +kernel) hL.2.1.2.1) ?_
  refine gm_sz (gm_p_load (pc := 66) (i := .iload 9) (sr := 0) (j := 9) (by decide +kernel) rfl rfl rfl) ?_
  refine gm_sz (fw_ia (pc := 68) (k := 247) (len := NC) (e0 := i) (x := C i) (by decide +kernel) (lk7 hL).1 (lk7 hL).2 (by omega) ⟨by omega, by omega⟩ (hC9 _)) ?_
  refine gm_sz (gm_p_stor (pc := 69) (i := .istore 10) (sr := 0) (j := 10) (by decide +kernel) rfl (show 11 ≤ _ from Nat.le_of_ble_eq_true rfl) rfl) ?_
  show gm_Wp X LX d _ _ 41 71 [some (gm_vr 246), some (gm_vi b), some (gm_vi e), some (gm_vr 204), some (gm_vi b), some (gm_vi e), some (gm_vi t), some (gm_vi l), some (gm_vi s), some (gm_vi i), some (gm_vi (C i)), z11, z12, z13] [] n K _ _ Q
  refine gm_sz (gm_p_const (pc := 71) (i := .bipush (-2)) (v := gm_vi (-2)) (by decide +kernel) (by decide +kernel)) ?_
  refine gm_sz (gm_p_load (pc := 73) (i := .iload 10) (sr := 0) (j := 10) (by decide +kernel) rfl rfl rfl) ?_
  refine gm_sz (gm_p_bin (pc := 75) (i := .isub) (f := fun x y => x - y) (by decide +kernel) rfl) ?_
  refine gm_sz (gm_p_stor (pc := 76) (i := .istore 11) (sr := 0) (j := 11) (by decide +kernel) rfl (show 12 ≤ _ from Nat.le_of_ble_eq_true rfl) rfl) ?_
  show gm_Wp X LX d _ _ 41 78 [some (gm_vr 246), some (gm_vi b), some (gm_vi e), some (gm_vr 204), some (gm_vi b), some (gm_vi e), some (gm_vi t), some (gm_vi l), some (gm_vi s), some (gm_vi i), some (gm_vi (C i)), some (gm_vi ((-2) - (C i))), z12, z13] [] n K _ _ Q
  refine gm_sz (gm_p_load (pc := 78) (i := .iload 11) (sr := 0) (j := 11) (by decide +kernel) rfl rfl rfl) ?_
  refine fw_iff (cc := .lt) (pc := 80) (off := 17) (by decide +kernel) (by decide) ⟨by omega, by omega⟩ (show ¬ ((-2) - (C i)) < 0 by omega) ?_
  refine gm_sz (gm_p_load (pc := 83) (i := .iload 11) (sr := 0) (j := 11) (by decide +kernel) rfl rfl rfl) ?_
  refine gm_sz (gm_p_load (pc := 85) (i := .aload_n 3) (sr := 2) (j := 3) (by decide +kernel) rfl rfl rfl) ?_
  refine gm_sz (fw_al (pc := 86) (k := 204) (len := 10) (by decide +kernel) (e0a hE (k := 204) (q := (0, 10)) (by decide +kernel)).1 (e0a hE (k := 204) (q := (0, 10)) (by decide +kernel)).2 (by decide)) ?_
  refine fw_ict (cc := .ge) (pc := 87) (off := 10) (by decide +kernel) (by decide) ⟨by omega, by omega⟩ ⟨by decide, by decide⟩ (show 10 ≤ ((-2) - (C i)) by omega) ?_
  refine gm_sz (gm_p_const (pc := 97) (i := .iconst 0) (v := gm_vi 0) (by decide +kernel) (by decide +kernel)) ?_
  refine gm_sz (gm_p_stor (pc := 98) (i := .istore 12) (sr := 0) (j := 12) (by decide +kernel) rfl (show 13 ≤ _ from Nat.le_of_ble_eq_true rfl) rfl) ?_
  show gm_Wp X LX d _ _ 41 100 [some (gm_vr 246), some (gm_vi b), some (gm_vi e), some (gm_vr 204), some (gm_vi b), some (gm_vi e), some (gm_vi t), some (gm_vi l), some (gm_vi s), some (gm_vi i), some (gm_vi (C i)), some (gm_vi ((-2) - (C i))), some (gm_vi 0), z13] [] n K _ _ Q
  refine gm_sz (gm_p_load (pc := 100) (i := .iload 10) (sr := 0) (j := 10) (by decide +kernel) rfl rfl rfl) ?_
  refine fw_ift (cc := .lt) (pc := 102) (off := 13) (by decide +kernel) (by decide) ⟨by omega, by omega⟩ (show (C i) < 0 by omega) ?_
  refine gm_sz (gm_p_load (pc := 115) (i := .iload 10) (sr := 0) (j := 10) (by decide +kernel) rfl rfl rfl) ?_
  refine gm_sz (gm_p_const (pc := 117) (i := .bipush (-10)) (v := gm_vi (-10)) (by decide +kernel) (by decide +kernel)) ?_
  refine fw_ict (cc := .le) (pc := 119) (off := 13) (by decide +kernel) (by decide) ⟨by omega, by omega⟩ ⟨by decide, by decide⟩ (show (C i) ≤ (-10) by omega) ?_
  refine gm_sz (gm_p_load (pc := 132) (i := .iload 10) (sr := 0) (j := 10) (by decide +kernel) rfl rfl rfl) ?_
  refine gm_sz (gm_p_const (pc := 134) (i := .bipush (-11)) (v := gm_vi (-11)) (by decide +kernel) (by decide +kernel)) ?_
  refine fw_ict (cc := .lt) (pc := 136) (off := 15) (by decide +kernel) (by decide) ⟨by omega, by omega⟩ ⟨by decide, by decide⟩ (show (C i) < (-11) by omega) ?_
  refine gm_sz (gm_p_load (pc := 151) (i := .iload 10) (sr := 0) (j := 10) (by decide +kernel) rfl rfl rfl) ?_
  refine gm_sz (gm_p_const (pc := 153) (i := .bipush (-12)) (v := gm_vi (-12)) (by decide +kernel) (by decide +kernel)) ?_
  refine fw_ict (cc := .ne) (pc := 155) (off := 13) (by decide +kernel) (by decide) ⟨by omega, by omega⟩ ⟨by decide, by decide⟩ (show ¬ (C i) = (-12) by omega) ?_
  refine gm_sz (gm_p_load (pc := 168) (i := .iload 10) (sr := 0) (j := 10) (by decide +kernel) rfl rfl rfl) ?_
  refine gm_sz (gm_p_const (pc := 170) (i := .bipush (-13)) (v := gm_vi (-13)) (by decide +kernel) (by decide +kernel)) ?_
  refine fw_icf (cc := .eq) (pc := 172) (off := 10) (by decide +kernel) (by decide) ⟨by omega, by omega⟩ ⟨by decide, by decide⟩ (show ¬ (C i) = (-13) by omega) ?_
  refine gm_sz (gm_p_load (pc := 175) (i := .iload 10) (sr := 0) (j := 10) (by decide +kernel) rfl rfl rfl) ?_
  refine gm_sz (gm_p_const (pc := 177) (i := .bipush (-14)) (v := gm_vi (-14)) (by decide +kernel) (by decide +kernel)) ?_
  refine fw_ict (cc := .ne) (pc := 179) (off := 62) (by decide +kernel) (by decide) ⟨by omega, by omega⟩ ⟨by decide, by decide⟩ (show ¬ (C i) = (-14) by omega) ?_
  refine gm_sz (gm_p_load (pc := 241) (i := .iload 10) (sr := 0) (j := 10) (by decide +kernel) rfl rfl rfl) ?_
  refine gm_sz (gm_p_const (pc := 243) (i := .bipush (-15)) (v := gm_vi (-15)) (by decide +kernel) (by decide +kernel)) ?_
  refine fw_ict (cc := .ne) (pc := 245) (off := 12) (by decide +kernel) (by decide) ⟨by omega, by omega⟩ ⟨by decide, by decide⟩ (show ¬ (C i) = (-15) by omega) ?_
  refine gm_sz (gm_p_load (pc := 257) (i := .iload 10) (sr := 0) (j := 10) (by decide +kernel) rfl rfl rfl) ?_
  refine gm_sz (gm_p_const (pc := 259) (i := .bipush (-16)) (v := gm_vi (-16)) (by decide +kernel) (by decide +kernel)) ?_
  refine fw_icf (cc := .ne) (pc := 261) (off := 18) (by decide +kernel) (by decide) ⟨by omega, by omega⟩ ⟨by decide, by decide⟩ (show ¬ ¬ (C i) = (-16) by omega) ?_
  refine gm_sz (gm_p_load (pc := 264) (i := .iload 6) (sr := 0) (j := 6) (by decide +kernel) rfl rfl rfl) ?_
  refine gm_sz (gm_p_const (pc := 266) (i := .iconst 1) (v := gm_vi 1) (by decide +kernel) (by decide +kernel)) ?_
  refine gm_sz (gm_p_bin (pc := 267) (i := .ishr) (f := gm_shr) (by decide +kernel) rfl) ?_
  refine gm_sz (gm_p_load (pc := 268) (i := .iload 6) (sr := 0) (j := 6) (by decide +kernel) rfl rfl rfl) ?_
  refine gm_sz (gm_p_const (pc := 270) (i := .bipush (-2)) (v := gm_vi (-2)) (by decide +kernel) (by decide +kernel)) ?_
  refine gm_sz (gm_p_bin (pc := 272) (i := .ior) (f := gm_or) (by decide +kernel) rfl) ?_
  refine gm_sz (gm_p_bin (pc := 273) (i := .iand) (f := gm_and) (by decide +kernel) rfl) ?_
  refine gm_sz (gm_p_stor (pc := 274) (i := .istore 6) (sr := 0) (j := 6) (by decide +kernel) rfl (show 7 ≤ _ from Nat.le_of_ble_eq_true rfl) rfl) ?_
  show gm_Wp X LX d _ _ 41 276 [some (gm_vr 246), some (gm_vi b), some (gm_vi e), some (gm_vr 204), some (gm_vi b), some (gm_vi e), some (gm_vi (gm_and (gm_shr t 1) (gm_or t (-2)))), some (gm_vi l), some (gm_vi s), some (gm_vi i), some (gm_vi (C i)), some (gm_vi ((-2) - (C i))), some (gm_vi 0), z13] [] n K _ _ Q
  refine gm_sz (gm_p_goto (pc := 276) (off := 14) (by decide +kernel) (by decide)) ?_
  refine gm_sz (gm_p_iinc (pc := 290) (j := 9) (z := 1) (by decide +kernel) rfl) ?_
  refine gm_sz (gm_p_goto (pc := 293) (off := (-238)) (by decide +kernel) (by decide)) ?_
  exact hq _ _ _ _
theorem ho_w9 (hE : E0 n K R) (hL : LE n K R NC) (hM : LM NC M) (hF : ∀ j : Int, 0 ≤ j → j < 10 → M 204 j = F j) (hC9 : ∀ j, M 247 j = C j) (h0 : 0 ≤ i ∧ i < (NC : Int)) (hA : C i = -17) {t l s : Int} {z10 z11 z12 z13 : Option gm_V} (hq : ∀ z10 z11 z12 z13 : Option gm_V, gm_Wp X LX d bc bs 41 55 [some (gm_vr 246), some (gm_vi b), some (gm_vi e), some (gm_vr 204), some (gm_vi b), some (gm_vi e), some (gm_vi (gm_or (gm_shr t 1) (gm_and t 1))), some (gm_vi (l)), some (gm_vi (s)), some (gm_vi (i + 1)), z10, z11, z12, z13] [] n K R M Q) (hie : i < e) (heb : e ≤ (NC : Int)) : gm_Wp X LX d bc bs 41 55 [some (gm_vr 246), some (gm_vi b), some (gm_vi e), some (gm_vr 204), some (gm_vi b), some (gm_vi e), some (gm_vi t), some (gm_vi l), some (gm_vi s), some (gm_vi i), z10, z11, z12, z13] [] n K R M Q := by
  have hNC := hL.2.2
  refine gm_sz (gm_p_load (pc := 55) (i := .iload 9) (sr := 0) (j := 9) (by decide +kernel) rfl rfl rfl) ?_
  refine gm_sz (gm_p_load (pc := 57) (i := .iload 5) (sr := 0) (j := 5) (by decide +kernel) rfl rfl rfl) ?_
  refine fw_icf (cc := .ge) (pc := 59) (off := 237) (by decide +kernel) (by decide) ⟨by omega, by omega⟩ ⟨by omega, by omega⟩ (show ¬ e ≤ i by omega) ?_
  refine gm_sz (gm_p_load (pc := 62) (i := .aload_n 0) (sr := 2) (j := 0) (by decide +kernel) rfl rfl rfl) ?_
  refine gm_sz (fw_gr (pc := 63) (ix := 22) (ci := 10) (j := 1) (r := 247) (by decide +kernel) (lk6 hL) (by decide +kernel) (by decide +kernel) hL.2.1.2.1) ?_
  refine gm_sz (gm_p_load (pc := 66) (i := .iload 9) (sr := 0) (j := 9) (by decide +kernel) rfl rfl rfl) ?_
  refine gm_sz (fw_ia (pc := 68) (k := 247) (len := NC) (e0 := i) (x := C i) (by decide +kernel) (lk7 hL).1 (lk7 hL).2 (by omega) ⟨by omega, by omega⟩ (hC9 _)) ?_
  refine gm_sz (gm_p_stor (pc := 69) (i := .istore 10) (sr := 0) (j := 10) (by decide +kernel) rfl (show 11 ≤ _ from Nat.le_of_ble_eq_true rfl) rfl) ?_
  show gm_Wp X LX d _ _ 41 71 [some (gm_vr 246), some (gm_vi b), some (gm_vi e), some (gm_vr 204), some (gm_vi b), some (gm_vi e), some (gm_vi t), some (gm_vi l), some (gm_vi s), some (gm_vi i), some (gm_vi (C i)), z11, z12, z13] [] n K _ _ Q
  refine gm_sz (gm_p_const (pc := 71) (i := .bipush (-2)) (v := gm_vi (-2)) (by decide +kernel) (by decide +kernel)) ?_
  refine gm_sz (gm_p_load (pc := 73) (i := .iload 10) (sr := 0) (j := 10) (by decide +kernel) rfl rfl rfl) ?_
  refine gm_sz (gm_p_bin (pc := 75) (i := .isub) (f := fun x y => x - y) (by decide +kernel) rfl) ?_
  refine gm_sz (gm_p_stor (pc := 76) (i := .istore 11) (sr := 0) (j := 11) (by decide +kernel) rfl (show 12 ≤ _ from Nat.le_of_ble_eq_true rfl) rfl) ?_
  show gm_Wp X LX d _ _ 41 78 [some (gm_vr 246), some (gm_vi b), some (gm_vi e), some (gm_vr 204), some (gm_vi b), some (gm_vi e), some (gm_vi t), some (gm_vi l), some (gm_vi s), some (gm_vi i), some (gm_vi (C i)), some (gm_vi ((-2) - (C i))), z12, z13] [] n K _ _ Q
  refine gm_sz (gm_p_load (pc := 78) (i := .iload 11) (sr := 0) (j := 11) (by decide +kernel) rfl rfl rfl) ?_
  refine fw_iff (cc := .lt) (pc := 80) (off := 17) (by decide +kernel) (by decide) ⟨by omega, by omega⟩ (show ¬ ((-2) - (C i)) < 0 by omega) ?_
  refine gm_sz (gm_p_load (pc := 83) (i := .iload 11) (sr := 0) (j := 11) (by decide +kernel) rfl rfl rfl) ?_
  refine gm_sz (gm_p_load (pc := 85) (i := .aload_n 3) (sr := 2) (j := 3) (by decide +kernel) rfl rfl rfl) ?_
  refine gm_sz (fw_al (pc := 86) (k := 204) (len := 10) (by decide +kernel) (e0a hE (k := 204) (q := (0, 10)) (by decide +kernel)).1 (e0a hE (k := 204) (q := (0, 10)) (by decide +kernel)).2 (by decide)) ?_
  refine fw_ict (cc := .ge) (pc := 87) (off := 10) (by decide +kernel) (by decide) ⟨by omega, by omega⟩ ⟨by decide, by decide⟩ (show 10 ≤ ((-2) - (C i)) by omega) ?_
  refine gm_sz (gm_p_const (pc := 97) (i := .iconst 0) (v := gm_vi 0) (by decide +kernel) (by decide +kernel)) ?_
  refine gm_sz (gm_p_stor (pc := 98) (i := .istore 12) (sr := 0) (j := 12) (by decide +kernel) rfl (show 13 ≤ _ from Nat.le_of_ble_eq_true rfl) rfl) ?_
  show gm_Wp X LX d _ _ 41 100 [some (gm_vr 246), some (gm_vi b), some (gm_vi e), some (gm_vr 204), some (gm_vi b), some (gm_vi e), some (gm_vi t), some (gm_vi l), some (gm_vi s), some (gm_vi i), some (gm_vi (C i)), some (gm_vi ((-2) - (C i))), some (gm_vi 0), z13] [] n K _ _ Q
  refine gm_sz (gm_p_load (pc := 100) (i := .iload 10) (sr := 0) (j := 10) (by decide +kernel) rfl rfl rfl) ?_
  refine fw_ift (cc := .lt) (pc := 102) (off := 13) (by decide +kernel) (by decide) ⟨by omega, by omega⟩ (show (C i) < 0 by omega) ?_
  refine gm_sz (gm_p_load (pc := 115) (i := .iload 10) (sr := 0) (j := 10) (by decide +kernel) rfl rfl rfl) ?_
  refine gm_sz (gm_p_const (pc := 117) (i := .bipush (-10)) (v := gm_vi (-10)) (by decide +kernel) (by decide +kernel)) ?_
  refine fw_ict (cc := .le) (pc := 119) (off := 13) (by decide +kernel) (by decide) ⟨by omega, by omega⟩ ⟨by decide, by decide⟩ (show (C i) ≤ (-10) by omega) ?_
  refine gm_sz (gm_p_load (pc := 132) (i := .iload 10) (sr := 0) (j := 10) (by decide +kernel) rfl rfl rfl) ?_
  refine gm_sz (gm_p_const (pc := 134) (i := .bipush (-11)) (v := gm_vi (-11)) (by decide +kernel) (by decide +kernel)) ?_
  refine fw_ict (cc := .lt) (pc := 136) (off := 15) (by decide +kernel) (by decide) ⟨by omega, by omega⟩ ⟨by decide, by decide⟩ (show (C i) < (-11) by omega) ?_
  refine gm_sz (gm_p_load (pc := 151) (i := .iload 10) (sr := 0) (j := 10) (by decide +kernel) rfl rfl rfl) ?_
  refine gm_sz (gm_p_const (pc := 153) (i := .bipush (-12)) (v := gm_vi (-12)) (by decide +kernel) (by decide +kernel)) ?_
  refine fw_ict (cc := .ne) (pc := 155) (off := 13) (by decide +kernel) (by decide) ⟨by omega, by omega⟩ ⟨by decide, by decide⟩ (show ¬ (C i) = (-12) by omega) ?_
  refine gm_sz (gm_p_load (pc := 168) (i := .iload 10) (sr := 0) (j := 10) (by decide +kernel) rfl rfl rfl) ?_
  refine gm_sz (gm_p_const (pc := 170) (i := .bipush (-13)) (v := gm_vi (-13)) (by decide +kernel) (by decide +kernel)) ?_
  refine fw_icf (cc := .eq) (pc := 172) (off := 10) (by decide +kernel) (by decide) ⟨by omega, by omega⟩ ⟨by decide, by decide⟩ (show ¬ (C i) = (-13) by omega) ?_
  refine gm_sz (gm_p_load (pc := 175) (i := .iload 10) (sr := 0) (j := 10) (by decide +kernel) rfl rfl rfl) ?_
  refine gm_sz (gm_p_const (pc := 177) (i := .bipush (-14)) (v := gm_vi (-14)) (by decide +kernel) (by decide +kernel)) ?_
  refine fw_ict (cc := .ne) (pc := 179) (off := 62) (by decide +kernel) (by decide) ⟨by omega, by omega⟩ ⟨by decide, by decide⟩ (show ¬ (C i) = (-14) by omega) ?_
  refine gm_sz (gm_p_load (pc := 241) (i := .iload 10) (sr := 0) (j := 10) (by decide +kernel) rfl rfl rfl) ?_
  refine gm_sz (gm_p_const (pc := 243) (i := .bipush (-15)) (v := gm_vi (-15)) (by decide +kernel) (by decide +kernel)) ?_
  refine fw_ict (cc := .ne) (pc := 245) (off := 12) (by decide +kernel) (by decide) ⟨by omega, by omega⟩ ⟨by decide, by decide⟩ (show ¬ (C i) = (-15) by omega) ?_
  refine gm_sz (gm_p_load (pc := 257) (i := .iload 10) (sr := 0) (j := 10) (by decide +kernel) rfl rfl rfl) ?_
  refine gm_sz (gm_p_const (pc := 259) (i := .bipush (-16)) (v := gm_vi (-16)) (by decide +kernel) (by decide +kernel)) ?_
  refine fw_ict (cc := .ne) (pc := 261) (off := 18) (by decide +kernel) (by decide) ⟨by omega, by omega⟩ ⟨by decide, by decide⟩ (show ¬ (C i) = (-16) by omega) ?_
  refine gm_sz (gm_p_load (pc := 279) (i := .iload 6) (sr := 0) (j := 6) (by decide +kernel) rfl rfl rfl) ?_
  refine gm_sz (gm_p_const (pc := 281) (i := .iconst 1) (v := gm_vi 1) (by decide +kernel) (by decide +kernel)) ?_
  refine gm_sz (gm_p_bin (pc := 282) (i := .ishr) (f := gm_shr) (by decide +kernel) rfl) ?_
  refine gm_sz (gm_p_load (pc := 283) (i := .iload 6) (sr := 0) (j := 6) (by decide +kernel) rfl rfl rfl) ?_
  refine gm_sz (gm_p_const (pc := 285) (i := .iconst 1) (v := gm_vi 1) (by decide +kernel) (by decide +kernel)) ?_
  refine gm_sz (gm_p_bin (pc := 286) (i := .iand) (f := gm_and) (by decide +kernel) rfl) ?_
  refine gm_sz (gm_p_bin (pc := 287) (i := .ior) (f := gm_or) (by decide +kernel) rfl) ?_
  refine gm_sz (gm_p_stor (pc := 288) (i := .istore 6) (sr := 0) (j := 6) (by decide +kernel) rfl (show 7 ≤ _ from Nat.le_of_ble_eq_true rfl) rfl) ?_
  show gm_Wp X LX d _ _ 41 290 [some (gm_vr 246), some (gm_vi b), some (gm_vi e), some (gm_vr 204), some (gm_vi b), some (gm_vi e), some (gm_vi (gm_or (gm_shr t 1) (gm_and t 1))), some (gm_vi l), some (gm_vi s), some (gm_vi i), some (gm_vi (C i)), some (gm_vi ((-2) - (C i))), some (gm_vi 0), z13] [] n K _ _ Q
  refine gm_sz (gm_p_iinc (pc := 290) (j := 9) (z := 1) (by decide +kernel) rfl) ?_
  refine gm_sz (gm_p_goto (pc := 293) (off := (-238)) (by decide +kernel) (by decide)) ?_
  exact hq _ _ _ _
theorem ho_l (hE : E0 n K R) (hL : LE n K R NC) (hM : LM NC M) (hF : ∀ j : Int, 0 ≤ j → j < 10 → M 204 j = F j) (hC9 : ∀ j, M 247 j = C j) (h0 : 0 ≤ b) (he : e ≤ (NC : Int)) {fin : Int × Int × Int} (q1 : gm_and fin.1 1 = 1 → Q (.inl (some (gm_vi 1))) n K R M) (q0 : ¬ gm_and fin.1 1 = 1 → Q (.inl (some (gm_vi 0))) n K R M) : ∀ (u : Nat) (i t l s : Int) (z10 z11 z12 z13 : Option gm_V), i + (u : Int) = e → b ≤ i → evr F C u i (t, l, s) = fin → gm_Wp X LX d bc bs 41 55 [some (gm_vr 246), some (gm_vi b), some (gm_vi e), some (gm_vr 204), some (gm_vi b), some (gm_vi e), some (gm_vi t), some (gm_vi l), some (gm_vi s), some (gm_vi i), z10, z11, z12, z13] [] n K R M Q := by
  have hNC := hL.2.2
  intro u
  induction u with
  | zero =>
    intro i t l s z10 z11 z12 z13 hi hb9 hev
    have hev : (t, l, s) = fin := hev
    subst hev
    refine gm_sz (gm_p_load (pc := 55) (i := .iload 9) (sr := 0) (j := 9) (by decide +kernel) rfl rfl rfl) ?_
    refine gm_sz (gm_p_load (pc := 57) (i := .iload 5) (sr := 0) (j := 5) (by decide +kernel) rfl rfl rfl) ?_
    refine fw_ict (cc := .ge) (pc := 59) (off := 237) (by decide +kernel) (by decide) ⟨by omega, by omega⟩ ⟨by omega, by omega⟩ (show e ≤ i by omega) ?_
    refine gm_sz (gm_p_load (pc := 296) (i := .iload 6) (sr := 0) (j := 6) (by decide +kernel) rfl rfl rfl) ?_
    refine gm_sz (gm_p_const (pc := 298) (i := .iconst 1) (v := gm_vi 1) (by decide +kernel) (by decide +kernel)) ?_
    refine gm_sz (gm_p_bin (pc := 299) (i := .iand) (f := gm_and) (by decide +kernel) rfl) ?_
    refine gm_sz (gm_p_const (pc := 300) (i := .iconst 1) (v := gm_vi 1) (by decide +kernel) (by decide +kernel)) ?_
    refine fw_ic (cc := .ne) (pc := 301) (off := 7) (by decide +kernel) (by decide) and_ir ⟨by decide, by decide⟩ (fun h301 => ?_) (fun h301 => ?_)
    · have h301 : ¬ (gm_and t 1) = 1 := h301
      refine gm_sz (gm_p_const (pc := 308) (i := .iconst 0) (v := gm_vi 0) (by decide +kernel) (by decide +kernel)) ?_
      exact gm_r_int (pc := 309) (by decide +kernel) (Or.inr ⟨(by decide +kernel), Or.inl rfl⟩) (q0 h301)
    · have h301 : (gm_and t 1) = 1 := Classical.not_not.mp h301
      refine gm_sz (gm_p_const (pc := 304) (i := .iconst 1) (v := gm_vi 1) (by decide +kernel) (by decide +kernel)) ?_
      refine gm_sz (gm_p_goto (pc := 305) (off := 4) (by decide +kernel) (by decide)) ?_
      exact gm_r_int (pc := 309) (by decide +kernel) (Or.inr ⟨(by decide +kernel), Or.inr rfl⟩) (q1 h301)
  | succ u ih =>
    intro i t l s z10 z11 z12 z13 hi hb9 hev
    have hev : evr F C u (i + 1) (ev1 F (C i) (t, l, s)) = fin := hev
    have hc := hM.2.1 i (by omega) (by omega)
    rw [hC9 i] at hc
    obtain ⟨hc1, hc2⟩ := hc
    rcases (show (0 ≤ C i ∧ C i ≤ 999) ∨ (C i = -1) ∨ (-9 ≤ C i ∧ C i ≤ -2) ∨ (-11 ≤ C i ∧ C i ≤ -10) ∨ (C i = -12) ∨ (C i = -13) ∨ (C i = -14) ∨ (C i = -15) ∨ (C i = -16) ∨ (C i = -17) by omega) with hA | hA | hA | hA | hA | hA | hA | hA | hA | hA
    · have e9 : ev1 F (C i) (t, l, s) = (t, l, s + (C i)) := by
        unfold ev1
        dsimp only
        rw [if_pos (show (0 ≤ C i) by omega)]
      rw [e9] at hev
      exact ho_w0 hE hL hM hF hC9 ⟨by omega, by omega⟩ hA (fun z10 z11 z12 z13 => ih (i + 1) _ _ _ z10 z11 z12 z13 (by omega) (by omega) hev) (by omega) he
    · have e9 : ev1 F (C i) (t, l, s) = (t, l, s + 0) := by
        unfold ev1 evk
        dsimp only
        rw [if_neg (show ¬ (0 ≤ C i) by omega), if_pos (show (-10 < C i) by omega), if_neg (show ¬ (0 ≤ -2 - C i ∧ -2 - C i < 10) by omega)]
      rw [e9] at hev
      exact ho_w1 hE hL hM hF hC9 ⟨by omega, by omega⟩ hA (fun z10 z11 z12 z13 => ih (i + 1) _ _ _ z10 z11 z12 z13 (by omega) (by omega) hev) (by omega) he
    · have e9 : ev1 F (C i) (t, l, s) = (t, l, s + (F ((-2) - (C i)))) := by
        unfold ev1 evk
        dsimp only
        rw [if_neg (show ¬ (0 ≤ C i) by omega), if_pos (show (-10 < C i) by omega), if_pos (show (0 ≤ -2 - C i ∧ -2 - C i < 10) by omega)]
      rw [e9] at hev
      exact ho_w2 hE hL hM hF hC9 ⟨by omega, by omega⟩ hA (fun z10 z11 z12 z13 => ih (i + 1) _ _ _ z10 z11 z12 z13 (by omega) (by omega) hev) (by omega) he
    · have e9 : ev1 F (C i) (t, l, s) = (gm_or (gm_shl t 1) (F ((-2) - (C i))), l, s) := by
        unfold ev1 evk
        dsimp only
        rw [if_neg (show ¬ (0 ≤ C i) by omega), if_neg (show ¬ (-10 < C i) by omega), if_pos (show (-11 ≤ C i) by omega), if_pos (show (0 ≤ -2 - C i ∧ -2 - C i < 10) by omega)]
      rw [e9] at hev
      exact ho_w3 hE hL hM hF hC9 ⟨by omega, by omega⟩ hA (fun z10 z11 z12 z13 => ih (i + 1) _ _ _ z10 z11 z12 z13 (by omega) (by omega) hev) (by omega) he
    · have e9 : ev1 F (C i) (t, l, s) = (t, s, 0) := by
        unfold ev1
        dsimp only
        rw [if_neg (show ¬ (0 ≤ C i) by omega), if_neg (show ¬ (-10 < C i) by omega), if_neg (show ¬ (-11 ≤ C i) by omega), if_pos (show (C i = -12) by omega)]
      rw [e9] at hev
      exact ho_w4 hE hL hM hF hC9 ⟨by omega, by omega⟩ hA (fun z10 z11 z12 z13 => ih (i + 1) _ _ _ z10 z11 z12 z13 (by omega) (by omega) hev) (by omega) he
    · have e9 : ev1 F (C i) (t, l, s) = (gm_or (gm_shl t 1) (if gm_w l < gm_w s then 1 else 0), l, 0) := by
        unfold ev1
        dsimp only
        rw [if_neg (show ¬ (0 ≤ C i) by omega), if_neg (show ¬ (-10 < C i) by omega), if_neg (show ¬ (-11 ≤ C i) by omega), if_neg (show ¬ (C i = -12) by omega), if_pos (show (C i = -13) by omega)]
      rw [e9] at hev
      exact ho_w5 hE hL hM hF hC9 ⟨by omega, by omega⟩ hA (fun z10 z11 z12 z13 => ih (i + 1) _ _ _ z10 z11 z12 z13 (by omega) (by omega) hev) (by omega) he
    · have e9 : ev1 F (C i) (t, l, s) = (gm_or (gm_shl t 1) (if gm_w s < gm_w l then 1 else 0), l, 0) := by
        unfold ev1
        dsimp only
        rw [if_neg (show ¬ (0 ≤ C i) by omega), if_neg (show ¬ (-10 < C i) by omega), if_neg (show ¬ (-11 ≤ C i) by omega), if_neg (show ¬ (C i = -12) by omega), if_neg (show ¬ (C i = -13) by omega), if_pos (show (C i = -14) by omega)]
      rw [e9] at hev
      exact ho_w6 hE hL hM hF hC9 ⟨by omega, by omega⟩ hA (fun z10 z11 z12 z13 => ih (i + 1) _ _ _ z10 z11 z12 z13 (by omega) (by omega) hev) (by omega) he
    · have e9 : ev1 F (C i) (t, l, s) = (gm_xor t 1, l, s) := by
        unfold ev1
        dsimp only
        rw [if_neg (show ¬ (0 ≤ C i) by omega), if_neg (show ¬ (-10 < C i) by omega), if_neg (show ¬ (-11 ≤ C i) by omega), if_neg (show ¬ (C i = -12) by omega), if_neg (show ¬ (C i = -13) by omega), if_neg (show ¬ (C i = -14) by omega), if_pos (show (C i = -15) by omega)]
      rw [e9] at hev
      exact ho_w7 hE hL hM hF hC9 ⟨by omega, by omega⟩ hA (fun z10 z11 z12 z13 => ih (i + 1) _ _ _ z10 z11 z12 z13 (by omega) (by omega) hev) (by omega) he
    · have e9 : ev1 F (C i) (t, l, s) = (gm_and (gm_shr t 1) (gm_or t (-2)), l, s) := by
        unfold ev1
        dsimp only
        rw [if_neg (show ¬ (0 ≤ C i) by omega), if_neg (show ¬ (-10 < C i) by omega), if_neg (show ¬ (-11 ≤ C i) by omega), if_neg (show ¬ (C i = -12) by omega), if_neg (show ¬ (C i = -13) by omega), if_neg (show ¬ (C i = -14) by omega), if_neg (show ¬ (C i = -15) by omega), if_pos (show (C i = -16) by omega)]
      rw [e9] at hev
      exact ho_w8 hE hL hM hF hC9 ⟨by omega, by omega⟩ hA (fun z10 z11 z12 z13 => ih (i + 1) _ _ _ z10 z11 z12 z13 (by omega) (by omega) hev) (by omega) he
    · have e9 : ev1 F (C i) (t, l, s) = (gm_or (gm_shr t 1) (gm_and t 1), l, s) := by
        unfold ev1
        dsimp only
        rw [if_neg (show ¬ (0 ≤ C i) by omega), if_neg (show ¬ (-10 < C i) by omega), if_neg (show ¬ (-11 ≤ C i) by omega), if_neg (show ¬ (C i = -12) by omega), if_neg (show ¬ (C i = -13) by omega), if_neg (show ¬ (C i = -14) by omega), if_neg (show ¬ (C i = -15) by omega), if_neg (show ¬ (C i = -16) by omega)]
      rw [e9] at hev
      exact ho_w9 hE hL hM hF hC9 ⟨by omega, by omega⟩ hA (fun z10 z11 z12 z13 => ih (i + 1) _ _ _ z10 z11 z12 z13 (by omega) (by omega) hev) (by omega) he
theorem ho_c41 (hE : E0 n K R) (hL : LE n K R NC) (hM : LM NC M) (hF : ∀ j : Int, 0 ≤ j → j < 10 → M 204 j = F j) (hC9 : ∀ j, M 247 j = C j) (h0 : 0 ≤ b) (hbe : b ≤ e) (he : e ≤ (NC : Int)) (q1 : evh F C b e → Q (.inl (some (gm_vi 1))) n K R M) (q0 : ¬ evh F C b e → Q (.inl (some (gm_vi 0))) n K R M) : gm_Wp X LX d bc bs 41 0 (gm_ent 41 [gm_vr 246, gm_vi b, gm_vi e, gm_vr 204]) [] n K R M Q := by
  have hNC := hL.2.2
  unfold evh at q1 q0
  refine gm_sz (gm_p_load (pc := 0) (i := .iload_n 1) (sr := 0) (j := 1) (by decide +kernel) rfl rfl rfl) ?_
  refine fw_if (cc := .le) (pc := 1) (off := 7) (by decide +kernel) (by decide) ⟨by omega, by omega⟩ (fun h1 => ?_) (fun h1 => ?_)
  · have h1 : b ≤ 0 := h1
    refine gm_sz (gm_p_const (pc := 8) (i := .iconst 0) (v := gm_vi 0) (by decide +kernel) (by decide +kernel)) ?_
    refine gm_sz (gm_p_stor (pc := 9) (i := .istore 4) (sr := 0) (j := 4) (by decide +kernel) rfl (show 5 ≤ _ from Nat.le_of_ble_eq_true rfl) rfl) ?_
    show gm_Wp X LX d _ _ 41 11 [some (gm_vr 246), some (gm_vi b), some (gm_vi e), some (gm_vr 204), some (gm_vi 0), none, none, none, none, none, none, none, none, none] [] n K _ _ Q
    refine gm_sz (gm_p_load (pc := 11) (i := .iload_n 2) (sr := 0) (j := 2) (by decide +kernel) rfl rfl rfl) ?_
    refine gm_sz (gm_p_load (pc := 12) (i := .aload_n 0) (sr := 2) (j := 0) (by decide +kernel) rfl rfl rfl) ?_
    refine gm_sz (fw_gr (pc := 13) (ix := 22) (ci := 10) (j := 1) (r := 247) (by decide +kernel) (lk6 hL) (by decide +kernel) (by decide +kernel) hL.2.1.2.1) ?_
    refine gm_sz (fw_al (pc := 16) (k := 247) (len := NC) (by decide +kernel) (lk7 hL).1 (lk7 hL).2 (by decide)) ?_
    refine fw_ic (cc := .ge) (pc := 17) (off := 7) (by decide +kernel) (by decide) ⟨by omega, by omega⟩ ⟨by omega, by omega⟩ (fun h17 => ?_) (fun h17 => ?_)
    · have h17 : (NC : Int) ≤ e := h17
      refine gm_sz (gm_p_load (pc := 24) (i := .aload_n 0) (sr := 2) (j := 0) (by decide +kernel) rfl rfl rfl) ?_
      refine gm_sz (fw_gr (pc := 25) (ix := 22) (ci := 10) (j := 1) (r := 247) (by decide +kernel) (lk6 hL) (by decide +kernel) (by decide +kernel) hL.2.1.2.1) ?_
      refine gm_sz (fw_al (pc := 28) (k := 247) (len := NC) (by decide +kernel) (lk7 hL).1 (lk7 hL).2 (by decide)) ?_
      refine gm_sz (gm_p_stor (pc := 29) (i := .istore 5) (sr := 0) (j := 5) (by decide +kernel) rfl (show 6 ≤ _ from Nat.le_of_ble_eq_true rfl) rfl) ?_
      show gm_Wp X LX d _ _ 41 31 [some (gm_vr 246), some (gm_vi b), some (gm_vi e), some (gm_vr 204), some (gm_vi 0), some (gm_vi (NC : Int)), none, none, none, none, none, none, none, none] [] n K _ _ Q
      refine gm_sz (gm_p_load (pc := 31) (i := .iload 4) (sr := 0) (j := 4) (by decide +kernel) rfl rfl rfl) ?_
      refine gm_sz (gm_p_load (pc := 33) (i := .iload 5) (sr := 0) (j := 5) (by decide +kernel) rfl rfl rfl) ?_
      refine fw_ic (cc := .ge) (pc := 35) (off := 7) (by decide +kernel) (by decide) ⟨by decide, by decide⟩ ⟨by omega, by omega⟩ (fun h35 => ?_) (fun h35 => ?_)
      · have h35 : (NC : Int) ≤ 0 := h35
        refine gm_sz (gm_p_const (pc := 42) (i := .iconst 1) (v := gm_vi 1) (by decide +kernel) (by decide +kernel)) ?_
        refine gm_sz (gm_p_stor (pc := 43) (i := .istore 6) (sr := 0) (j := 6) (by decide +kernel) rfl (show 7 ≤ _ from Nat.le_of_ble_eq_true rfl) rfl) ?_
        show gm_Wp X LX d _ _ 41 45 [some (gm_vr 246), some (gm_vi b), some (gm_vi e), some (gm_vr 204), some (gm_vi 0), some (gm_vi (NC : Int)), some (gm_vi 1), none, none, none, none, none, none, none] [] n K _ _ Q
        refine gm_sz (gm_p_const (pc := 45) (i := .iconst 0) (v := gm_vi 0) (by decide +kernel) (by decide +kernel)) ?_
        refine gm_sz (gm_p_stor (pc := 46) (i := .istore 7) (sr := 0) (j := 7) (by decide +kernel) rfl (show 8 ≤ _ from Nat.le_of_ble_eq_true rfl) rfl) ?_
        show gm_Wp X LX d _ _ 41 48 [some (gm_vr 246), some (gm_vi b), some (gm_vi e), some (gm_vr 204), some (gm_vi 0), some (gm_vi (NC : Int)), some (gm_vi 1), some (gm_vi 0), none, none, none, none, none, none] [] n K _ _ Q
        refine gm_sz (gm_p_const (pc := 48) (i := .iconst 0) (v := gm_vi 0) (by decide +kernel) (by decide +kernel)) ?_
        refine gm_sz (gm_p_stor (pc := 49) (i := .istore 8) (sr := 0) (j := 8) (by decide +kernel) rfl (show 9 ≤ _ from Nat.le_of_ble_eq_true rfl) rfl) ?_
        show gm_Wp X LX d _ _ 41 51 [some (gm_vr 246), some (gm_vi b), some (gm_vi e), some (gm_vr 204), some (gm_vi 0), some (gm_vi (NC : Int)), some (gm_vi 1), some (gm_vi 0), some (gm_vi 0), none, none, none, none, none] [] n K _ _ Q
        refine gm_sz (gm_p_load (pc := 51) (i := .iload 4) (sr := 0) (j := 4) (by decide +kernel) rfl rfl rfl) ?_
        refine gm_sz (gm_p_stor (pc := 53) (i := .istore 9) (sr := 0) (j := 9) (by decide +kernel) rfl (show 10 ≤ _ from Nat.le_of_ble_eq_true rfl) rfl) ?_
        show gm_Wp X LX d _ _ 41 55 [some (gm_vr 246), some (gm_vi b), some (gm_vi e), some (gm_vr 204), some (gm_vi 0), some (gm_vi (NC : Int)), some (gm_vi 1), some (gm_vi 0), some (gm_vi 0), some (gm_vi 0), none, none, none, none] [] n K _ _ Q
        have eb : b = 0 := by omega
        subst eb
        have ee : e = (NC : Int) := by omega
        subst ee
        rw [if_neg (show ¬ 0 < (NC : Int) by omega)] at q1 q0
        exact ho_l hE hL hM hF hC9 (by omega) (by omega) q1 q0 ((NC : Int) - 0).toNat 0 _ _ _ _ _ _ _ (by omega) (Int.le_refl _) rfl
      · have h35 : ¬ (NC : Int) ≤ 0 := h35
        refine gm_sz (gm_p_const (pc := 38) (i := .iconst 0) (v := gm_vi 0) (by decide +kernel) (by decide +kernel)) ?_
        refine gm_sz (gm_p_goto (pc := 39) (off := 4) (by decide +kernel) (by decide)) ?_
        refine gm_sz (gm_p_stor (pc := 43) (i := .istore 6) (sr := 0) (j := 6) (by decide +kernel) rfl (show 7 ≤ _ from Nat.le_of_ble_eq_true rfl) rfl) ?_
        show gm_Wp X LX d _ _ 41 45 [some (gm_vr 246), some (gm_vi b), some (gm_vi e), some (gm_vr 204), some (gm_vi 0), some (gm_vi (NC : Int)), some (gm_vi 0), none, none, none, none, none, none, none] [] n K _ _ Q
        refine gm_sz (gm_p_const (pc := 45) (i := .iconst 0) (v := gm_vi 0) (by decide +kernel) (by decide +kernel)) ?_
        refine gm_sz (gm_p_stor (pc := 46) (i := .istore 7) (sr := 0) (j := 7) (by decide +kernel) rfl (show 8 ≤ _ from Nat.le_of_ble_eq_true rfl) rfl) ?_
        show gm_Wp X LX d _ _ 41 48 [some (gm_vr 246), some (gm_vi b), some (gm_vi e), some (gm_vr 204), some (gm_vi 0), some (gm_vi (NC : Int)), some (gm_vi 0), some (gm_vi 0), none, none, none, none, none, none] [] n K _ _ Q
        refine gm_sz (gm_p_const (pc := 48) (i := .iconst 0) (v := gm_vi 0) (by decide +kernel) (by decide +kernel)) ?_
        refine gm_sz (gm_p_stor (pc := 49) (i := .istore 8) (sr := 0) (j := 8) (by decide +kernel) rfl (show 9 ≤ _ from Nat.le_of_ble_eq_true rfl) rfl) ?_
        show gm_Wp X LX d _ _ 41 51 [some (gm_vr 246), some (gm_vi b), some (gm_vi e), some (gm_vr 204), some (gm_vi 0), some (gm_vi (NC : Int)), some (gm_vi 0), some (gm_vi 0), some (gm_vi 0), none, none, none, none, none] [] n K _ _ Q
        refine gm_sz (gm_p_load (pc := 51) (i := .iload 4) (sr := 0) (j := 4) (by decide +kernel) rfl rfl rfl) ?_
        refine gm_sz (gm_p_stor (pc := 53) (i := .istore 9) (sr := 0) (j := 9) (by decide +kernel) rfl (show 10 ≤ _ from Nat.le_of_ble_eq_true rfl) rfl) ?_
        show gm_Wp X LX d _ _ 41 55 [some (gm_vr 246), some (gm_vi b), some (gm_vi e), some (gm_vr 204), some (gm_vi 0), some (gm_vi (NC : Int)), some (gm_vi 0), some (gm_vi 0), some (gm_vi 0), some (gm_vi 0), none, none, none, none] [] n K _ _ Q
        have eb : b = 0 := by omega
        subst eb
        have ee : e = (NC : Int) := by omega
        subst ee
        rw [if_pos (show 0 < (NC : Int) by omega)] at q1 q0
        exact ho_l hE hL hM hF hC9 (by omega) (by omega) q1 q0 ((NC : Int) - 0).toNat 0 _ _ _ _ _ _ _ (by omega) (Int.le_refl _) rfl
    · have h17 : ¬ (NC : Int) ≤ e := h17
      refine gm_sz (gm_p_load (pc := 20) (i := .iload_n 2) (sr := 0) (j := 2) (by decide +kernel) rfl rfl rfl) ?_
      refine gm_sz (gm_p_goto (pc := 21) (off := 8) (by decide +kernel) (by decide)) ?_
      refine gm_sz (gm_p_stor (pc := 29) (i := .istore 5) (sr := 0) (j := 5) (by decide +kernel) rfl (show 6 ≤ _ from Nat.le_of_ble_eq_true rfl) rfl) ?_
      show gm_Wp X LX d _ _ 41 31 [some (gm_vr 246), some (gm_vi b), some (gm_vi e), some (gm_vr 204), some (gm_vi 0), some (gm_vi e), none, none, none, none, none, none, none, none] [] n K _ _ Q
      refine gm_sz (gm_p_load (pc := 31) (i := .iload 4) (sr := 0) (j := 4) (by decide +kernel) rfl rfl rfl) ?_
      refine gm_sz (gm_p_load (pc := 33) (i := .iload 5) (sr := 0) (j := 5) (by decide +kernel) rfl rfl rfl) ?_
      refine fw_ic (cc := .ge) (pc := 35) (off := 7) (by decide +kernel) (by decide) ⟨by decide, by decide⟩ ⟨by omega, by omega⟩ (fun h35 => ?_) (fun h35 => ?_)
      · have h35 : e ≤ 0 := h35
        refine gm_sz (gm_p_const (pc := 42) (i := .iconst 1) (v := gm_vi 1) (by decide +kernel) (by decide +kernel)) ?_
        refine gm_sz (gm_p_stor (pc := 43) (i := .istore 6) (sr := 0) (j := 6) (by decide +kernel) rfl (show 7 ≤ _ from Nat.le_of_ble_eq_true rfl) rfl) ?_
        show gm_Wp X LX d _ _ 41 45 [some (gm_vr 246), some (gm_vi b), some (gm_vi e), some (gm_vr 204), some (gm_vi 0), some (gm_vi e), some (gm_vi 1), none, none, none, none, none, none, none] [] n K _ _ Q
        refine gm_sz (gm_p_const (pc := 45) (i := .iconst 0) (v := gm_vi 0) (by decide +kernel) (by decide +kernel)) ?_
        refine gm_sz (gm_p_stor (pc := 46) (i := .istore 7) (sr := 0) (j := 7) (by decide +kernel) rfl (show 8 ≤ _ from Nat.le_of_ble_eq_true rfl) rfl) ?_
        show gm_Wp X LX d _ _ 41 48 [some (gm_vr 246), some (gm_vi b), some (gm_vi e), some (gm_vr 204), some (gm_vi 0), some (gm_vi e), some (gm_vi 1), some (gm_vi 0), none, none, none, none, none, none] [] n K _ _ Q
        refine gm_sz (gm_p_const (pc := 48) (i := .iconst 0) (v := gm_vi 0) (by decide +kernel) (by decide +kernel)) ?_
        refine gm_sz (gm_p_stor (pc := 49) (i := .istore 8) (sr := 0) (j := 8) (by decide +kernel) rfl (show 9 ≤ _ from Nat.le_of_ble_eq_true rfl) rfl) ?_
        show gm_Wp X LX d _ _ 41 51 [some (gm_vr 246), some (gm_vi b), some (gm_vi e), some (gm_vr 204), some (gm_vi 0), some (gm_vi e), some (gm_vi 1), some (gm_vi 0), some (gm_vi 0), none, none, none, none, none] [] n K _ _ Q
        refine gm_sz (gm_p_load (pc := 51) (i := .iload 4) (sr := 0) (j := 4) (by decide +kernel) rfl rfl rfl) ?_
        refine gm_sz (gm_p_stor (pc := 53) (i := .istore 9) (sr := 0) (j := 9) (by decide +kernel) rfl (show 10 ≤ _ from Nat.le_of_ble_eq_true rfl) rfl) ?_
        show gm_Wp X LX d _ _ 41 55 [some (gm_vr 246), some (gm_vi b), some (gm_vi e), some (gm_vr 204), some (gm_vi 0), some (gm_vi e), some (gm_vi 1), some (gm_vi 0), some (gm_vi 0), some (gm_vi 0), none, none, none, none] [] n K _ _ Q
        have eb : b = 0 := by omega
        subst eb
        rw [if_neg (show ¬ 0 < e by omega)] at q1 q0
        exact ho_l hE hL hM hF hC9 (by omega) (by omega) q1 q0 (e - 0).toNat 0 _ _ _ _ _ _ _ (by omega) (Int.le_refl _) rfl
      · have h35 : ¬ e ≤ 0 := h35
        refine gm_sz (gm_p_const (pc := 38) (i := .iconst 0) (v := gm_vi 0) (by decide +kernel) (by decide +kernel)) ?_
        refine gm_sz (gm_p_goto (pc := 39) (off := 4) (by decide +kernel) (by decide)) ?_
        refine gm_sz (gm_p_stor (pc := 43) (i := .istore 6) (sr := 0) (j := 6) (by decide +kernel) rfl (show 7 ≤ _ from Nat.le_of_ble_eq_true rfl) rfl) ?_
        show gm_Wp X LX d _ _ 41 45 [some (gm_vr 246), some (gm_vi b), some (gm_vi e), some (gm_vr 204), some (gm_vi 0), some (gm_vi e), some (gm_vi 0), none, none, none, none, none, none, none] [] n K _ _ Q
        refine gm_sz (gm_p_const (pc := 45) (i := .iconst 0) (v := gm_vi 0) (by decide +kernel) (by decide +kernel)) ?_
        refine gm_sz (gm_p_stor (pc := 46) (i := .istore 7) (sr := 0) (j := 7) (by decide +kernel) rfl (show 8 ≤ _ from Nat.le_of_ble_eq_true rfl) rfl) ?_
        show gm_Wp X LX d _ _ 41 48 [some (gm_vr 246), some (gm_vi b), some (gm_vi e), some (gm_vr 204), some (gm_vi 0), some (gm_vi e), some (gm_vi 0), some (gm_vi 0), none, none, none, none, none, none] [] n K _ _ Q
        refine gm_sz (gm_p_const (pc := 48) (i := .iconst 0) (v := gm_vi 0) (by decide +kernel) (by decide +kernel)) ?_
        refine gm_sz (gm_p_stor (pc := 49) (i := .istore 8) (sr := 0) (j := 8) (by decide +kernel) rfl (show 9 ≤ _ from Nat.le_of_ble_eq_true rfl) rfl) ?_
        show gm_Wp X LX d _ _ 41 51 [some (gm_vr 246), some (gm_vi b), some (gm_vi e), some (gm_vr 204), some (gm_vi 0), some (gm_vi e), some (gm_vi 0), some (gm_vi 0), some (gm_vi 0), none, none, none, none, none] [] n K _ _ Q
        refine gm_sz (gm_p_load (pc := 51) (i := .iload 4) (sr := 0) (j := 4) (by decide +kernel) rfl rfl rfl) ?_
        refine gm_sz (gm_p_stor (pc := 53) (i := .istore 9) (sr := 0) (j := 9) (by decide +kernel) rfl (show 10 ≤ _ from Nat.le_of_ble_eq_true rfl) rfl) ?_
        show gm_Wp X LX d _ _ 41 55 [some (gm_vr 246), some (gm_vi b), some (gm_vi e), some (gm_vr 204), some (gm_vi 0), some (gm_vi e), some (gm_vi 0), some (gm_vi 0), some (gm_vi 0), some (gm_vi 0), none, none, none, none] [] n K _ _ Q
        have eb : b = 0 := by omega
        subst eb
        rw [if_pos (show 0 < e by omega)] at q1 q0
        exact ho_l hE hL hM hF hC9 (by omega) (by omega) q1 q0 (e - 0).toNat 0 _ _ _ _ _ _ _ (by omega) (Int.le_refl _) rfl
  · have h1 : ¬ b ≤ 0 := h1
    refine gm_sz (gm_p_load (pc := 4) (i := .iload_n 1) (sr := 0) (j := 1) (by decide +kernel) rfl rfl rfl) ?_
    refine gm_sz (gm_p_goto (pc := 5) (off := 4) (by decide +kernel) (by decide)) ?_
    refine gm_sz (gm_p_stor (pc := 9) (i := .istore 4) (sr := 0) (j := 4) (by decide +kernel) rfl (show 5 ≤ _ from Nat.le_of_ble_eq_true rfl) rfl) ?_
    show gm_Wp X LX d _ _ 41 11 [some (gm_vr 246), some (gm_vi b), some (gm_vi e), some (gm_vr 204), some (gm_vi b), none, none, none, none, none, none, none, none, none] [] n K _ _ Q
    refine gm_sz (gm_p_load (pc := 11) (i := .iload_n 2) (sr := 0) (j := 2) (by decide +kernel) rfl rfl rfl) ?_
    refine gm_sz (gm_p_load (pc := 12) (i := .aload_n 0) (sr := 2) (j := 0) (by decide +kernel) rfl rfl rfl) ?_
    refine gm_sz (fw_gr (pc := 13) (ix := 22) (ci := 10) (j := 1) (r := 247) (by decide +kernel) (lk6 hL) (by decide +kernel) (by decide +kernel) hL.2.1.2.1) ?_
    refine gm_sz (fw_al (pc := 16) (k := 247) (len := NC) (by decide +kernel) (lk7 hL).1 (lk7 hL).2 (by decide)) ?_
    refine fw_ic (cc := .ge) (pc := 17) (off := 7) (by decide +kernel) (by decide) ⟨by omega, by omega⟩ ⟨by omega, by omega⟩ (fun h17 => ?_) (fun h17 => ?_)
    · have h17 : (NC : Int) ≤ e := h17
      refine gm_sz (gm_p_load (pc := 24) (i := .aload_n 0) (sr := 2) (j := 0) (by decide +kernel) rfl rfl rfl) ?_
      refine gm_sz (fw_gr (pc := 25) (ix := 22) (ci := 10) (j := 1) (r := 247) (by decide +kernel) (lk6 hL) (by decide +kernel) (by decide +kernel) hL.2.1.2.1) ?_
      refine gm_sz (fw_al (pc := 28) (k := 247) (len := NC) (by decide +kernel) (lk7 hL).1 (lk7 hL).2 (by decide)) ?_
      refine gm_sz (gm_p_stor (pc := 29) (i := .istore 5) (sr := 0) (j := 5) (by decide +kernel) rfl (show 6 ≤ _ from Nat.le_of_ble_eq_true rfl) rfl) ?_
      show gm_Wp X LX d _ _ 41 31 [some (gm_vr 246), some (gm_vi b), some (gm_vi e), some (gm_vr 204), some (gm_vi b), some (gm_vi (NC : Int)), none, none, none, none, none, none, none, none] [] n K _ _ Q
      refine gm_sz (gm_p_load (pc := 31) (i := .iload 4) (sr := 0) (j := 4) (by decide +kernel) rfl rfl rfl) ?_
      refine gm_sz (gm_p_load (pc := 33) (i := .iload 5) (sr := 0) (j := 5) (by decide +kernel) rfl rfl rfl) ?_
      refine fw_ic (cc := .ge) (pc := 35) (off := 7) (by decide +kernel) (by decide) ⟨by omega, by omega⟩ ⟨by omega, by omega⟩ (fun h35 => ?_) (fun h35 => ?_)
      · have h35 : (NC : Int) ≤ b := h35
        refine gm_sz (gm_p_const (pc := 42) (i := .iconst 1) (v := gm_vi 1) (by decide +kernel) (by decide +kernel)) ?_
        refine gm_sz (gm_p_stor (pc := 43) (i := .istore 6) (sr := 0) (j := 6) (by decide +kernel) rfl (show 7 ≤ _ from Nat.le_of_ble_eq_true rfl) rfl) ?_
        show gm_Wp X LX d _ _ 41 45 [some (gm_vr 246), some (gm_vi b), some (gm_vi e), some (gm_vr 204), some (gm_vi b), some (gm_vi (NC : Int)), some (gm_vi 1), none, none, none, none, none, none, none] [] n K _ _ Q
        refine gm_sz (gm_p_const (pc := 45) (i := .iconst 0) (v := gm_vi 0) (by decide +kernel) (by decide +kernel)) ?_
        refine gm_sz (gm_p_stor (pc := 46) (i := .istore 7) (sr := 0) (j := 7) (by decide +kernel) rfl (show 8 ≤ _ from Nat.le_of_ble_eq_true rfl) rfl) ?_
        show gm_Wp X LX d _ _ 41 48 [some (gm_vr 246), some (gm_vi b), some (gm_vi e), some (gm_vr 204), some (gm_vi b), some (gm_vi (NC : Int)), some (gm_vi 1), some (gm_vi 0), none, none, none, none, none, none] [] n K _ _ Q
        refine gm_sz (gm_p_const (pc := 48) (i := .iconst 0) (v := gm_vi 0) (by decide +kernel) (by decide +kernel)) ?_
        refine gm_sz (gm_p_stor (pc := 49) (i := .istore 8) (sr := 0) (j := 8) (by decide +kernel) rfl (show 9 ≤ _ from Nat.le_of_ble_eq_true rfl) rfl) ?_
        show gm_Wp X LX d _ _ 41 51 [some (gm_vr 246), some (gm_vi b), some (gm_vi e), some (gm_vr 204), some (gm_vi b), some (gm_vi (NC : Int)), some (gm_vi 1), some (gm_vi 0), some (gm_vi 0), none, none, none, none, none] [] n K _ _ Q
        refine gm_sz (gm_p_load (pc := 51) (i := .iload 4) (sr := 0) (j := 4) (by decide +kernel) rfl rfl rfl) ?_
        refine gm_sz (gm_p_stor (pc := 53) (i := .istore 9) (sr := 0) (j := 9) (by decide +kernel) rfl (show 10 ≤ _ from Nat.le_of_ble_eq_true rfl) rfl) ?_
        show gm_Wp X LX d _ _ 41 55 [some (gm_vr 246), some (gm_vi b), some (gm_vi e), some (gm_vr 204), some (gm_vi b), some (gm_vi (NC : Int)), some (gm_vi 1), some (gm_vi 0), some (gm_vi 0), some (gm_vi b), none, none, none, none] [] n K _ _ Q
        have ee : e = (NC : Int) := by omega
        subst ee
        rw [if_neg (show ¬ b < (NC : Int) by omega)] at q1 q0
        exact ho_l hE hL hM hF hC9 (by omega) (by omega) q1 q0 ((NC : Int) - b).toNat b _ _ _ _ _ _ _ (by omega) (Int.le_refl _) rfl
      · have h35 : ¬ (NC : Int) ≤ b := h35
        refine gm_sz (gm_p_const (pc := 38) (i := .iconst 0) (v := gm_vi 0) (by decide +kernel) (by decide +kernel)) ?_
        refine gm_sz (gm_p_goto (pc := 39) (off := 4) (by decide +kernel) (by decide)) ?_
        refine gm_sz (gm_p_stor (pc := 43) (i := .istore 6) (sr := 0) (j := 6) (by decide +kernel) rfl (show 7 ≤ _ from Nat.le_of_ble_eq_true rfl) rfl) ?_
        show gm_Wp X LX d _ _ 41 45 [some (gm_vr 246), some (gm_vi b), some (gm_vi e), some (gm_vr 204), some (gm_vi b), some (gm_vi (NC : Int)), some (gm_vi 0), none, none, none, none, none, none, none] [] n K _ _ Q
        refine gm_sz (gm_p_const (pc := 45) (i := .iconst 0) (v := gm_vi 0) (by decide +kernel) (by decide +kernel)) ?_
        refine gm_sz (gm_p_stor (pc := 46) (i := .istore 7) (sr := 0) (j := 7) (by decide +kernel) rfl (show 8 ≤ _ from Nat.le_of_ble_eq_true rfl) rfl) ?_
        show gm_Wp X LX d _ _ 41 48 [some (gm_vr 246), some (gm_vi b), some (gm_vi e), some (gm_vr 204), some (gm_vi b), some (gm_vi (NC : Int)), some (gm_vi 0), some (gm_vi 0), none, none, none, none, none, none] [] n K _ _ Q
        refine gm_sz (gm_p_const (pc := 48) (i := .iconst 0) (v := gm_vi 0) (by decide +kernel) (by decide +kernel)) ?_
        refine gm_sz (gm_p_stor (pc := 49) (i := .istore 8) (sr := 0) (j := 8) (by decide +kernel) rfl (show 9 ≤ _ from Nat.le_of_ble_eq_true rfl) rfl) ?_
        show gm_Wp X LX d _ _ 41 51 [some (gm_vr 246), some (gm_vi b), some (gm_vi e), some (gm_vr 204), some (gm_vi b), some (gm_vi (NC : Int)), some (gm_vi 0), some (gm_vi 0), some (gm_vi 0), none, none, none, none, none] [] n K _ _ Q
        refine gm_sz (gm_p_load (pc := 51) (i := .iload 4) (sr := 0) (j := 4) (by decide +kernel) rfl rfl rfl) ?_
        refine gm_sz (gm_p_stor (pc := 53) (i := .istore 9) (sr := 0) (j := 9) (by decide +kernel) rfl (show 10 ≤ _ from Nat.le_of_ble_eq_true rfl) rfl) ?_
        show gm_Wp X LX d _ _ 41 55 [some (gm_vr 246), some (gm_vi b), some (gm_vi e), some (gm_vr 204), some (gm_vi b), some (gm_vi (NC : Int)), some (gm_vi 0), some (gm_vi 0), some (gm_vi 0), some (gm_vi b), none, none, none, none] [] n K _ _ Q
        have ee : e = (NC : Int) := by omega
        subst ee
        rw [if_pos (show b < (NC : Int) by omega)] at q1 q0
        exact ho_l hE hL hM hF hC9 (by omega) (by omega) q1 q0 ((NC : Int) - b).toNat b _ _ _ _ _ _ _ (by omega) (Int.le_refl _) rfl
    · have h17 : ¬ (NC : Int) ≤ e := h17
      refine gm_sz (gm_p_load (pc := 20) (i := .iload_n 2) (sr := 0) (j := 2) (by decide +kernel) rfl rfl rfl) ?_
      refine gm_sz (gm_p_goto (pc := 21) (off := 8) (by decide +kernel) (by decide)) ?_
      refine gm_sz (gm_p_stor (pc := 29) (i := .istore 5) (sr := 0) (j := 5) (by decide +kernel) rfl (show 6 ≤ _ from Nat.le_of_ble_eq_true rfl) rfl) ?_
      show gm_Wp X LX d _ _ 41 31 [some (gm_vr 246), some (gm_vi b), some (gm_vi e), some (gm_vr 204), some (gm_vi b), some (gm_vi e), none, none, none, none, none, none, none, none] [] n K _ _ Q
      refine gm_sz (gm_p_load (pc := 31) (i := .iload 4) (sr := 0) (j := 4) (by decide +kernel) rfl rfl rfl) ?_
      refine gm_sz (gm_p_load (pc := 33) (i := .iload 5) (sr := 0) (j := 5) (by decide +kernel) rfl rfl rfl) ?_
      refine fw_ic (cc := .ge) (pc := 35) (off := 7) (by decide +kernel) (by decide) ⟨by omega, by omega⟩ ⟨by omega, by omega⟩ (fun h35 => ?_) (fun h35 => ?_)
      · have h35 : e ≤ b := h35
        refine gm_sz (gm_p_const (pc := 42) (i := .iconst 1) (v := gm_vi 1) (by decide +kernel) (by decide +kernel)) ?_
        refine gm_sz (gm_p_stor (pc := 43) (i := .istore 6) (sr := 0) (j := 6) (by decide +kernel) rfl (show 7 ≤ _ from Nat.le_of_ble_eq_true rfl) rfl) ?_
        show gm_Wp X LX d _ _ 41 45 [some (gm_vr 246), some (gm_vi b), some (gm_vi e), some (gm_vr 204), some (gm_vi b), some (gm_vi e), some (gm_vi 1), none, none, none, none, none, none, none] [] n K _ _ Q
        refine gm_sz (gm_p_const (pc := 45) (i := .iconst 0) (v := gm_vi 0) (by decide +kernel) (by decide +kernel)) ?_
        refine gm_sz (gm_p_stor (pc := 46) (i := .istore 7) (sr := 0) (j := 7) (by decide +kernel) rfl (show 8 ≤ _ from Nat.le_of_ble_eq_true rfl) rfl) ?_
        show gm_Wp X LX d _ _ 41 48 [some (gm_vr 246), some (gm_vi b), some (gm_vi e), some (gm_vr 204), some (gm_vi b), some (gm_vi e), some (gm_vi 1), some (gm_vi 0), none, none, none, none, none, none] [] n K _ _ Q
        refine gm_sz (gm_p_const (pc := 48) (i := .iconst 0) (v := gm_vi 0) (by decide +kernel) (by decide +kernel)) ?_
        refine gm_sz (gm_p_stor (pc := 49) (i := .istore 8) (sr := 0) (j := 8) (by decide +kernel) rfl (show 9 ≤ _ from Nat.le_of_ble_eq_true rfl) rfl) ?_
        show gm_Wp X LX d _ _ 41 51 [some (gm_vr 246), some (gm_vi b), some (gm_vi e), some (gm_vr 204), some (gm_vi b), some (gm_vi e), some (gm_vi 1), some (gm_vi 0), some (gm_vi 0), none, none, none, none, none] [] n K _ _ Q
        refine gm_sz (gm_p_load (pc := 51) (i := .iload 4) (sr := 0) (j := 4) (by decide +kernel) rfl rfl rfl) ?_
        refine gm_sz (gm_p_stor (pc := 53) (i := .istore 9) (sr := 0) (j := 9) (by decide +kernel) rfl (show 10 ≤ _ from Nat.le_of_ble_eq_true rfl) rfl) ?_
        show gm_Wp X LX d _ _ 41 55 [some (gm_vr 246), some (gm_vi b), some (gm_vi e), some (gm_vr 204), some (gm_vi b), some (gm_vi e), some (gm_vi 1), some (gm_vi 0), some (gm_vi 0), some (gm_vi b), none, none, none, none] [] n K _ _ Q
        rw [if_neg (show ¬ b < e by omega)] at q1 q0
        exact ho_l hE hL hM hF hC9 (by omega) (by omega) q1 q0 (e - b).toNat b _ _ _ _ _ _ _ (by omega) (Int.le_refl _) rfl
      · have h35 : ¬ e ≤ b := h35
        refine gm_sz (gm_p_const (pc := 38) (i := .iconst 0) (v := gm_vi 0) (by decide +kernel) (by decide +kernel)) ?_
        refine gm_sz (gm_p_goto (pc := 39) (off := 4) (by decide +kernel) (by decide)) ?_
        refine gm_sz (gm_p_stor (pc := 43) (i := .istore 6) (sr := 0) (j := 6) (by decide +kernel) rfl (show 7 ≤ _ from Nat.le_of_ble_eq_true rfl) rfl) ?_
        show gm_Wp X LX d _ _ 41 45 [some (gm_vr 246), some (gm_vi b), some (gm_vi e), some (gm_vr 204), some (gm_vi b), some (gm_vi e), some (gm_vi 0), none, none, none, none, none, none, none] [] n K _ _ Q
        refine gm_sz (gm_p_const (pc := 45) (i := .iconst 0) (v := gm_vi 0) (by decide +kernel) (by decide +kernel)) ?_
        refine gm_sz (gm_p_stor (pc := 46) (i := .istore 7) (sr := 0) (j := 7) (by decide +kernel) rfl (show 8 ≤ _ from Nat.le_of_ble_eq_true rfl) rfl) ?_
        show gm_Wp X LX d _ _ 41 48 [some (gm_vr 246), some (gm_vi b), some (gm_vi e), some (gm_vr 204), some (gm_vi b), some (gm_vi e), some (gm_vi 0), some (gm_vi 0), none, none, none, none, none, none] [] n K _ _ Q
        refine gm_sz (gm_p_const (pc := 48) (i := .iconst 0) (v := gm_vi 0) (by decide +kernel) (by decide +kernel)) ?_
        refine gm_sz (gm_p_stor (pc := 49) (i := .istore 8) (sr := 0) (j := 8) (by decide +kernel) rfl (show 9 ≤ _ from Nat.le_of_ble_eq_true rfl) rfl) ?_
        show gm_Wp X LX d _ _ 41 51 [some (gm_vr 246), some (gm_vi b), some (gm_vi e), some (gm_vr 204), some (gm_vi b), some (gm_vi e), some (gm_vi 0), some (gm_vi 0), some (gm_vi 0), none, none, none, none, none] [] n K _ _ Q
        refine gm_sz (gm_p_load (pc := 51) (i := .iload 4) (sr := 0) (j := 4) (by decide +kernel) rfl rfl rfl) ?_
        refine gm_sz (gm_p_stor (pc := 53) (i := .istore 9) (sr := 0) (j := 9) (by decide +kernel) rfl (show 10 ≤ _ from Nat.le_of_ble_eq_true rfl) rfl) ?_
        show gm_Wp X LX d _ _ 41 55 [some (gm_vr 246), some (gm_vi b), some (gm_vi e), some (gm_vr 204), some (gm_vi b), some (gm_vi e), some (gm_vi 0), some (gm_vi 0), some (gm_vi 0), some (gm_vi b), none, none, none, none] [] n K _ _ Q
        rw [if_pos (show b < e by omega)] at q1 q0
        exact ho_l hE hL hM hF hC9 (by omega) (by omega) q1 q0 (e - b).toNat b _ _ _ _ _ _ _ (by omega) (Int.le_refl _) rfl
/-- how much faster by k LINES -/
noncomputable def lfas (F C L : Int → Int) : Nat → Int
  | 0 => 0
  | k + 1 => lfas F C L k + (if ¬ L ((k : Int) * 4 + 0) = 2 then (@ite Int (evh F C (L ((k : Int) * 4 + 2)) (L ((k : Int) * 4 + 3))) (Classical.propDecidable _) (if L ((k : Int) * 4 + 0) = 0 then L ((k : Int) * 4 + 1) else -L ((k : Int) * 4 + 1)) 0) else 0)
/-- whether a LINE lets open -/
noncomputable def lopn (F C L : Int → Int) (n : Int) : Prop := ∃ k : Int, (0 ≤ k ∧ k < n) ∧ L (k * 4 + 0) = 2 ∧ evh F C (L (k * 4 + 2)) (L (k * 4 + 3))
theorem fa_l (hd : 1 ≤ d) (hE : E0 n K R) (hL : LE n K R NC) (hM : LM NC M) (hF : ∀ j : Int, 0 ≤ j → j < 10 → M 204 j = F j) (hC9 : ∀ j, M 247 j = C j) {L : Int → Int} {m : Int} (hL9 : ∀ j, M 249 j = L j) (hm9 : M 248 3 = m) (hq : Q (.inl (some (gm_vi (lfas F C L m.toNat)))) n K R M) : ∀ (u k : Nat) (f : Int) (z : Option gm_V), (k : Int) + (u : Int) = m → f = lfas F C L k → (-20 * (k : Int) ≤ f ∧ f ≤ 20 * (k : Int)) → gm_Wp X LX d bc bs 40 4 [some (gm_vr 246), some (gm_vr 204), some (gm_vi f), some (gm_vi (k : Int)), z] [] n K R M Q := by
  have hm1 := hM.1.2.2
  rw [hm9] at hm1
  intro u
  induction u with
  | zero =>
    intro k f z hk hf hb
    have ek : m.toNat = k := by omega
    rw [ek, ← hf] at hq
    refine gm_sz (gm_p_load (pc := 4) (i := .iload_n 3) (sr := 0) (j := 3) (by decide +kernel) rfl rfl rfl) ?_
    refine gm_sz (gm_p_load (pc := 5) (i := .aload_n 0) (sr := 2) (j := 0) (by decide +kernel) rfl rfl rfl) ?_
    refine gm_sz (fw_gr (pc := 6) (ix := 14) (ci := 10) (j := 0) (r := 248) (by decide +kernel) (lk6 hL) (by decide +kernel) (by decide +kernel) hL.2.1.1) ?_
    refine gm_c_virt (k := 248) (ci := 2) (mj := 9) (ix := 26) (pc := 9) (as := []) (st := [gm_vi (k : Int)]) (d' := d - 1) (bc' := 0) (bs' := 0) (by decide +kernel) (by decide +kernel) (by decide +kernel) (by decide +kernel) (lk8 hL).1 (lk8 hL).2 (by decide) (by decide +kernel) (show 0 = gm_na 9 by decide +kernel) fw_c0 (show 1 ≤ gm_ml 9 by decide +kernel) (Nat.le_of_ble_eq_true rfl) (by omega) (Nat.zero_le _) (Nat.zero_le _) ?_
    refine rw_size (s := m) (lk8 hL) hm9 ?_
    show gm_Wp X LX d _ _ 40 12 _ [gm_vi m, gm_vi (k : Int)] n K _ _ Q
    refine fw_ict (cc := .ge) (pc := 12) (off := 82) (by decide +kernel) (by decide) ⟨by omega, by omega⟩ ⟨by omega, by omega⟩ (show m ≤ (k : Int) by omega) ?_
    refine gm_sz (gm_p_load (pc := 94) (i := .iload_n 2) (sr := 0) (j := 2) (by decide +kernel) rfl rfl rfl) ?_
    exact gm_r_int (pc := 95) (by decide +kernel) (Or.inl (by decide +kernel)) hq
  | succ u ih =>
    intro k f z hk hf hb
    have hl := hM.2.2 (k : Int) (by omega) (by omega)
    rw [hL9, hL9, hL9, hL9] at hl
    obtain ⟨⟨l1, l2⟩, ⟨l3, l4⟩, l5, l6, l7⟩ := hl
    refine gm_sz (gm_p_load (pc := 4) (i := .iload_n 3) (sr := 0) (j := 3) (by decide +kernel) rfl rfl rfl) ?_
    refine gm_sz (gm_p_load (pc := 5) (i := .aload_n 0) (sr := 2) (j := 0) (by decide +kernel) rfl rfl rfl) ?_
    refine gm_sz (fw_gr (pc := 6) (ix := 14) (ci := 10) (j := 0) (r := 248) (by decide +kernel) (lk6 hL) (by decide +kernel) (by decide +kernel) hL.2.1.1) ?_
    refine gm_c_virt (k := 248) (ci := 2) (mj := 9) (ix := 26) (pc := 9) (as := []) (st := [gm_vi (k : Int)]) (d' := d - 1) (bc' := 0) (bs' := 0) (by decide +kernel) (by decide +kernel) (by decide +kernel) (by decide +kernel) (lk8 hL).1 (lk8 hL).2 (by decide) (by decide +kernel) (show 0 = gm_na 9 by decide +kernel) fw_c0 (show 1 ≤ gm_ml 9 by decide +kernel) (Nat.le_of_ble_eq_true rfl) (by omega) (Nat.zero_le _) (Nat.zero_le _) ?_
    refine rw_size (s := m) (lk8 hL) hm9 ?_
    show gm_Wp X LX d _ _ 40 12 _ [gm_vi m, gm_vi (k : Int)] n K _ _ Q
    refine fw_icf (cc := .ge) (pc := 12) (off := 82) (by decide +kernel) (by decide) ⟨by omega, by omega⟩ ⟨by omega, by omega⟩ (show ¬ m ≤ (k : Int) by omega) ?_
    refine gm_sz (gm_p_load (pc := 15) (i := .aload_n 0) (sr := 2) (j := 0) (by decide +kernel) rfl rfl rfl) ?_
    refine gm_sz (fw_gr (pc := 16) (ix := 14) (ci := 10) (j := 0) (r := 248) (by decide +kernel) (lk6 hL) (by decide +kernel) (by decide +kernel) hL.2.1.1) ?_
    refine gm_sz (gm_p_load (pc := 19) (i := .iload_n 3) (sr := 0) (j := 3) (by decide +kernel) rfl rfl rfl) ?_
    refine gm_sz (gm_p_const (pc := 20) (i := .iconst 0) (v := gm_vi 0) (by decide +kernel) (by decide +kernel)) ?_
    refine gm_c_virt (k := 248) (ci := 2) (mj := 10) (ix := 30) (pc := 21) (as := [gm_vi (k : Int), gm_vi 0]) (st := []) (d' := d - 1) (bc' := 0) (bs' := 0) (by decide +kernel) (by decide +kernel) (by decide +kernel) (by decide +kernel) (lk8 hL).1 (lk8 hL).2 (by decide) (by decide +kernel) (show 2 = gm_na 10 by decide +kernel) (fw_c2 fw_si fw_si) (show 3 ≤ gm_ml 10 by decide +kernel) (Nat.le_of_ble_eq_true rfl) (by omega) (Nat.zero_le _) (Nat.zero_le _) ?_
    refine rw_get (s := m) (w := 4) (x := L ((k : Int) * 4 + 0)) (lk8 hL) (lk9 hL) hL.2.1.2.2 (by decide) hm9 hM.1.2.1 ⟨by omega, by omega⟩ ⟨by omega, by omega⟩ ⟨by omega, by omega⟩ ⟨by omega, by omega⟩ (hL9 _) ?_
    show gm_Wp X LX d _ _ 40 24 _ [gm_vi (L ((k : Int) * 4 + 0))] n K _ _ Q
    refine gm_sz (gm_p_stor (pc := 24) (i := .istore 4) (sr := 0) (j := 4) (by decide +kernel) rfl (show 5 ≤ _ from Nat.le_of_ble_eq_true rfl) rfl) ?_
    refine gm_sz (gm_p_load (pc := 26) (i := .iload 4) (sr := 0) (j := 4) (by decide +kernel) rfl rfl rfl) ?_
    refine gm_sz (gm_p_const (pc := 28) (i := .iconst 2) (v := gm_vi 2) (by decide +kernel) (by decide +kernel)) ?_
    refine fw_ic (cc := .eq) (pc := 29) (off := 59) (by decide +kernel) (by decide) ⟨by omega, by omega⟩ ⟨by decide, by decide⟩ (fun h29 => ?_) (fun h29 => ?_)
    · have h29 : (L ((k : Int) * 4 + 0)) = 2 := h29
      refine gm_sz (gm_p_iinc (pc := 88) (j := 3) (z := 1) (by decide +kernel) rfl) ?_
      refine gm_sz (gm_p_goto (pc := 91) (off := (-87)) (by decide +kernel) (by decide)) ?_
      have e9 : lfas F C L (k + 1) = f := by
        show lfas F C L k + _ = _
        rw [← hf]
        first | rw [if_pos h29, if_pos v52, if_pos h61] | rw [if_pos h29, if_pos v52, if_neg h61] | rw [if_pos h29, if_neg v52] | rw [if_neg (Classical.not_not.mpr h29)]
        try omega
      exact ih (k + 1) _ _ (by omega) e9.symm ⟨by omega, by omega⟩
    · have h29 : ¬ (L ((k : Int) * 4 + 0)) = 2 := h29
      refine gm_sz (gm_p_load (pc := 32) (i := .aload_n 0) (sr := 2) (j := 0) (by decide +kernel) rfl rfl rfl) ?_
      refine gm_sz (gm_p_load (pc := 33) (i := .aload_n 0) (sr := 2) (j := 0) (by decide +kernel) rfl rfl rfl) ?_
      refine gm_sz (fw_gr (pc := 34) (ix := 14) (ci := 10) (j := 0) (r := 248) (by decide +kernel) (lk6 hL) (by decide +kernel) (by decide +kernel) hL.2.1.1) ?_
      refine gm_sz (gm_p_load (pc := 37) (i := .iload_n 3) (sr := 0) (j := 3) (by decide +kernel) rfl rfl rfl) ?_
      refine gm_sz (gm_p_const (pc := 38) (i := .iconst 2) (v := gm_vi 2) (by decide +kernel) (by decide +kernel)) ?_
      refine gm_c_virt (k := 248) (ci := 2) (mj := 10) (ix := 30) (pc := 39) (as := [gm_vi (k : Int), gm_vi 2]) (st := [gm_vr 246]) (d' := d - 1) (bc' := 0) (bs' := 0) (by decide +kernel) (by decide +kernel) (by decide +kernel) (by decide +kernel) (lk8 hL).1 (lk8 hL).2 (by decide) (by decide +kernel) (show 2 = gm_na 10 by decide +kernel) (fw_c2 fw_si fw_si) (show 3 ≤ gm_ml 10 by decide +kernel) (Nat.le_of_ble_eq_true rfl) (by omega) (Nat.zero_le _) (Nat.zero_le _) ?_
      refine rw_get (s := m) (w := 4) (x := L ((k : Int) * 4 + 2)) (lk8 hL) (lk9 hL) hL.2.1.2.2 (by decide) hm9 hM.1.2.1 ⟨by omega, by omega⟩ ⟨by omega, by omega⟩ ⟨by omega, by omega⟩ ⟨by omega, by omega⟩ (hL9 _) ?_
      show gm_Wp X LX d _ _ 40 42 _ [gm_vi (L ((k : Int) * 4 + 2)), gm_vr 246] n K _ _ Q
      refine gm_sz (gm_p_load (pc := 42) (i := .aload_n 0) (sr := 2) (j := 0) (by decide +kernel) rfl rfl rfl) ?_
      refine gm_sz (fw_gr (pc := 43) (ix := 14) (ci := 10) (j := 0) (r := 248) (by decide +kernel) (lk6 hL) (by decide +kernel) (by decide +kernel) hL.2.1.1) ?_
      refine gm_sz (gm_p_load (pc := 46) (i := .iload_n 3) (sr := 0) (j := 3) (by decide +kernel) rfl rfl rfl) ?_
      refine gm_sz (gm_p_const (pc := 47) (i := .iconst 3) (v := gm_vi 3) (by decide +kernel) (by decide +kernel)) ?_
      refine gm_c_virt (k := 248) (ci := 2) (mj := 10) (ix := 30) (pc := 48) (as := [gm_vi (k : Int), gm_vi 3]) (st := [gm_vi (L ((k : Int) * 4 + 2)), gm_vr 246]) (d' := d - 1) (bc' := 0) (bs' := 0) (by decide +kernel) (by decide +kernel) (by decide +kernel) (by decide +kernel) (lk8 hL).1 (lk8 hL).2 (by decide) (by decide +kernel) (show 2 = gm_na 10 by decide +kernel) (fw_c2 fw_si fw_si) (show 3 ≤ gm_ml 10 by decide +kernel) (Nat.le_of_ble_eq_true rfl) (by omega) (Nat.zero_le _) (Nat.zero_le _) ?_
      refine rw_get (s := m) (w := 4) (x := L ((k : Int) * 4 + 3)) (lk8 hL) (lk9 hL) hL.2.1.2.2 (by decide) hm9 hM.1.2.1 ⟨by omega, by omega⟩ ⟨by omega, by omega⟩ ⟨by omega, by omega⟩ ⟨by omega, by omega⟩ (hL9 _) ?_
      show gm_Wp X LX d _ _ 40 51 _ [gm_vi (L ((k : Int) * 4 + 3)), gm_vi (L ((k : Int) * 4 + 2)), gm_vr 246] n K _ _ Q
      refine gm_sz (gm_p_load (pc := 51) (i := .aload_n 1) (sr := 2) (j := 1) (by decide +kernel) rfl rfl rfl) ?_
      refine gm_c_virt (k := 246) (ci := 10) (mj := 41) (ix := 34) (pc := 52) (as := [gm_vi (L ((k : Int) * 4 + 2)), gm_vi (L ((k : Int) * 4 + 3)), gm_vr 204]) (st := []) (d' := d - 1) (bc' := 0) (bs' := 0) (by decide +kernel) (by decide +kernel) (by decide +kernel) (by decide +kernel) (lk6 hL).1 (lk6 hL).2 (by decide) (by decide +kernel) (show 3 = gm_na 41 by decide +kernel) (fw_c3 fw_si fw_si fw_sr) (show 4 ≤ gm_ml 41 by decide +kernel) (Nat.le_of_ble_eq_true rfl) (by omega) (Nat.zero_le _) (Nat.zero_le _) ?_
      refine ho_c41 (b := L ((k : Int) * 4 + 2)) (e := L ((k : Int) * 4 + 3)) hE hL hM hF hC9 (by omega) (by omega) (by omega) (fun v52 => ?_) (fun v52 => ?_)
      · show gm_Wp X LX d _ _ 40 55 _ [gm_vi 1] n K _ _ Q
        have v52 : evh F C (L ((k : Int) * 4 + 2)) (L ((k : Int) * 4 + 3)) := v52
        refine fw_iffd (cc := .eq) (pc := 55) (off := 33) (by decide +kernel) (by decide) ⟨by decide, by decide⟩ (by decide) ?_
        refine gm_sz (gm_p_load (pc := 58) (i := .iload_n 2) (sr := 0) (j := 2) (by decide +kernel) rfl rfl rfl) ?_
        refine gm_sz (gm_p_load (pc := 59) (i := .iload 4) (sr := 0) (j := 4) (by decide +kernel) rfl rfl rfl) ?_
        refine fw_if (cc := .ne) (pc := 61) (off := 15) (by decide +kernel) (by decide) ⟨by omega, by omega⟩ (fun h61 => ?_) (fun h61 => ?_)
        · have h61 : ¬ (L ((k : Int) * 4 + 0)) = 0 := h61
          refine gm_sz (gm_p_load (pc := 76) (i := .aload_n 0) (sr := 2) (j := 0) (by decide +kernel) rfl rfl rfl) ?_
          refine gm_sz (fw_gr (pc := 77) (ix := 14) (ci := 10) (j := 0) (r := 248) (by decide +kernel) (lk6 hL) (by decide +kernel) (by decide +kernel) hL.2.1.1) ?_
          refine gm_sz (gm_p_load (pc := 80) (i := .iload_n 3) (sr := 0) (j := 3) (by decide +kernel) rfl rfl rfl) ?_
          refine gm_sz (gm_p_const (pc := 81) (i := .iconst 1) (v := gm_vi 1) (by decide +kernel) (by decide +kernel)) ?_
          refine gm_c_virt (k := 248) (ci := 2) (mj := 10) (ix := 30) (pc := 82) (as := [gm_vi (k : Int), gm_vi 1]) (st := [gm_vi f]) (d' := d - 1) (bc' := 0) (bs' := 0) (by decide +kernel) (by decide +kernel) (by decide +kernel) (by decide +kernel) (lk8 hL).1 (lk8 hL).2 (by decide) (by decide +kernel) (show 2 = gm_na 10 by decide +kernel) (fw_c2 fw_si fw_si) (show 3 ≤ gm_ml 10 by decide +kernel) (Nat.le_of_ble_eq_true rfl) (by omega) (Nat.zero_le _) (Nat.zero_le _) ?_
          refine rw_get (s := m) (w := 4) (x := L ((k : Int) * 4 + 1)) (lk8 hL) (lk9 hL) hL.2.1.2.2 (by decide) hm9 hM.1.2.1 ⟨by omega, by omega⟩ ⟨by omega, by omega⟩ ⟨by omega, by omega⟩ ⟨by omega, by omega⟩ (hL9 _) ?_
          show gm_Wp X LX d _ _ 40 85 _ [gm_vi (L ((k : Int) * 4 + 1)), gm_vi f] n K _ _ Q
          refine gm_sz (gm_p_un (pc := 85) (i := .ineg) (f := fun x => - x) (by decide +kernel) rfl) ?_
          refine gm_sz (gm_p_bin (pc := 86) (i := .iadd) (f := fun x y => x + y) (by decide +kernel) rfl) ?_
          refine gm_sz (gm_p_stor (pc := 87) (i := .istore_n 2) (sr := 0) (j := 2) (by decide +kernel) rfl (show 3 ≤ _ from Nat.le_of_ble_eq_true rfl) rfl) ?_
          refine gm_sz (gm_p_iinc (pc := 88) (j := 3) (z := 1) (by decide +kernel) rfl) ?_
          refine gm_sz (gm_p_goto (pc := 91) (off := (-87)) (by decide +kernel) (by decide)) ?_
          have e9 : lfas F C L (k + 1) = f + (-(L ((k : Int) * 4 + 1))) := by
            show lfas F C L k + _ = _
            rw [← hf]
            first | rw [if_pos h29, if_pos v52, if_pos h61] | rw [if_pos h29, if_pos v52, if_neg h61] | rw [if_pos h29, if_neg v52] | rw [if_neg (Classical.not_not.mpr h29)]
            try omega
          exact ih (k + 1) _ _ (by omega) e9.symm ⟨by omega, by omega⟩
        · have h61 : (L ((k : Int) * 4 + 0)) = 0 := Classical.not_not.mp h61
          refine gm_sz (gm_p_load (pc := 64) (i := .aload_n 0) (sr := 2) (j := 0) (by decide +kernel) rfl rfl rfl) ?_
          refine gm_sz (fw_gr (pc := 65) (ix := 14) (ci := 10) (j := 0) (r := 248) (by decide +kernel) (lk6 hL) (by decide +kernel) (by decide +kernel) hL.2.1.1) ?_
          refine gm_sz (gm_p_load (pc := 68) (i := .iload_n 3) (sr := 0) (j := 3) (by decide +kernel) rfl rfl rfl) ?_
          refine gm_sz (gm_p_const (pc := 69) (i := .iconst 1) (v := gm_vi 1) (by decide +kernel) (by decide +kernel)) ?_
          refine gm_c_virt (k := 248) (ci := 2) (mj := 10) (ix := 30) (pc := 70) (as := [gm_vi (k : Int), gm_vi 1]) (st := [gm_vi f]) (d' := d - 1) (bc' := 0) (bs' := 0) (by decide +kernel) (by decide +kernel) (by decide +kernel) (by decide +kernel) (lk8 hL).1 (lk8 hL).2 (by decide) (by decide +kernel) (show 2 = gm_na 10 by decide +kernel) (fw_c2 fw_si fw_si) (show 3 ≤ gm_ml 10 by decide +kernel) (Nat.le_of_ble_eq_true rfl) (by omega) (Nat.zero_le _) (Nat.zero_le _) ?_
          refine rw_get (s := m) (w := 4) (x := L ((k : Int) * 4 + 1)) (lk8 hL) (lk9 hL) hL.2.1.2.2 (by decide) hm9 hM.1.2.1 ⟨by omega, by omega⟩ ⟨by omega, by omega⟩ ⟨by omega, by omega⟩ ⟨by omega, by omega⟩ (hL9 _) ?_
          show gm_Wp X LX d _ _ 40 73 _ [gm_vi (L ((k : Int) * 4 + 1)), gm_vi f] n K _ _ Q
          refine gm_sz (gm_p_goto (pc := 73) (off := 13) (by decide +kernel) (by decide)) ?_
          refine gm_sz (gm_p_bin (pc := 86) (i := .iadd) (f := fun x y => x + y) (by decide +kernel) rfl) ?_
          refine gm_sz (gm_p_stor (pc := 87) (i := .istore_n 2) (sr := 0) (j := 2) (by decide +kernel) rfl (show 3 ≤ _ from Nat.le_of_ble_eq_true rfl) rfl) ?_
          refine gm_sz (gm_p_iinc (pc := 88) (j := 3) (z := 1) (by decide +kernel) rfl) ?_
          refine gm_sz (gm_p_goto (pc := 91) (off := (-87)) (by decide +kernel) (by decide)) ?_
          have e9 : lfas F C L (k + 1) = f + (L ((k : Int) * 4 + 1)) := by
            show lfas F C L k + _ = _
            rw [← hf]
            first | rw [if_pos h29, if_pos v52, if_pos h61] | rw [if_pos h29, if_pos v52, if_neg h61] | rw [if_pos h29, if_neg v52] | rw [if_neg (Classical.not_not.mpr h29)]
            try omega
          exact ih (k + 1) _ _ (by omega) e9.symm ⟨by omega, by omega⟩
      · show gm_Wp X LX d _ _ 40 55 _ [gm_vi 0] n K _ _ Q
        have v52 : ¬ evh F C (L ((k : Int) * 4 + 2)) (L ((k : Int) * 4 + 3)) := v52
        refine fw_iftd (cc := .eq) (pc := 55) (off := 33) (by decide +kernel) (by decide) ⟨by decide, by decide⟩ (by decide) ?_
        refine gm_sz (gm_p_iinc (pc := 88) (j := 3) (z := 1) (by decide +kernel) rfl) ?_
        refine gm_sz (gm_p_goto (pc := 91) (off := (-87)) (by decide +kernel) (by decide)) ?_
        have e9 : lfas F C L (k + 1) = f := by
          show lfas F C L k + _ = _
          rw [← hf]
          first | rw [if_pos h29, if_pos v52, if_pos h61] | rw [if_pos h29, if_pos v52, if_neg h61] | rw [if_pos h29, if_neg v52] | rw [if_neg (Classical.not_not.mpr h29)]
          try omega
        exact ih (k + 1) _ _ (by omega) e9.symm ⟨by omega, by omega⟩
theorem fa_c40 (hd : 1 ≤ d) (hE : E0 n K R) (hL : LE n K R NC) (hM : LM NC M) (hF : ∀ j : Int, 0 ≤ j → j < 10 → M 204 j = F j) (hC9 : ∀ j, M 247 j = C j) {L : Int → Int} {m : Int} (hL9 : ∀ j, M 249 j = L j) (hm9 : M 248 3 = m) (hq : Q (.inl (some (gm_vi (lfas F C L m.toNat)))) n K R M) : gm_Wp X LX d bc bs 40 0 (gm_ent 40 [gm_vr 246, gm_vr 204]) [] n K R M Q := by
  have hm1 := hM.1.2.2
  rw [hm9] at hm1
  refine gm_sz (gm_p_const (pc := 0) (i := .iconst 0) (v := gm_vi 0) (by decide +kernel) (by decide +kernel)) ?_
  refine gm_sz (gm_p_stor (pc := 1) (i := .istore_n 2) (sr := 0) (j := 2) (by decide +kernel) rfl (show 3 ≤ _ from Nat.le_of_ble_eq_true rfl) rfl) ?_
  refine gm_sz (gm_p_const (pc := 2) (i := .iconst 0) (v := gm_vi 0) (by decide +kernel) (by decide +kernel)) ?_
  refine gm_sz (gm_p_stor (pc := 3) (i := .istore_n 3) (sr := 0) (j := 3) (by decide +kernel) rfl (show 4 ≤ _ from Nat.le_of_ble_eq_true rfl) rfl) ?_
  exact fa_l hd hE hL hM hF hC9 hL9 hm9 hq m.toNat 0 0 _ (by omega) rfl ⟨by omega, by omega⟩
theorem lo_l (hd : 1 ≤ d) (hE : E0 n K R) (hL : LE n K R NC) (hM : LM NC M) (hF : ∀ j : Int, 0 ≤ j → j < 10 → M 204 j = F j) (hC9 : ∀ j, M 247 j = C j) {L : Int → Int} {m : Int} (hL9 : ∀ j, M 249 j = L j) (hm9 : M 248 3 = m) (q1 : lopn F C L m → Q (.inl (some (gm_vi 1))) n K R M) (q0 : ¬ lopn F C L m → Q (.inl (some (gm_vi 0))) n K R M) : ∀ (u k : Nat) (z : Option gm_V), (k : Int) + (u : Int) = m → (∀ i : Int, 0 ≤ i → i < (k : Int) → ¬ (L (i * 4 + 0) = 2 ∧ evh F C (L (i * 4 + 2)) (L (i * 4 + 3)))) → gm_Wp X LX d bc bs 165 2 [some (gm_vr 246), some (gm_vr 204), some (gm_vi (k : Int)), z] [] n K R M Q := by
  have hm1 := hM.1.2.2
  rw [hm9] at hm1
  intro u
  induction u with
  | zero =>
    intro k z hk hb
    refine gm_sz (gm_p_load (pc := 2) (i := .iload_n 2) (sr := 0) (j := 2) (by decide +kernel) rfl rfl rfl) ?_
    refine gm_sz (gm_p_load (pc := 3) (i := .aload_n 0) (sr := 2) (j := 0) (by decide +kernel) rfl rfl rfl) ?_
    refine gm_sz (fw_gr (pc := 4) (ix := 14) (ci := 10) (j := 0) (r := 248) (by decide +kernel) (lk6 hL) (by decide +kernel) (by decide +kernel) hL.2.1.1) ?_
    refine gm_c_virt (k := 248) (ci := 2) (mj := 9) (ix := 26) (pc := 7) (as := []) (st := [gm_vi (k : Int)]) (d' := d - 1) (bc' := 0) (bs' := 0) (by decide +kernel) (by decide +kernel) (by decide +kernel) (by decide +kernel) (lk8 hL).1 (lk8 hL).2 (by decide) (by decide +kernel) (show 0 = gm_na 9 by decide +kernel) fw_c0 (show 1 ≤ gm_ml 9 by decide +kernel) (Nat.le_of_ble_eq_true rfl) (by omega) (Nat.zero_le _) (Nat.zero_le _) ?_
    refine rw_size (s := m) (lk8 hL) hm9 ?_
    show gm_Wp X LX d _ _ 165 10 _ [gm_vi m, gm_vi (k : Int)] n K _ _ Q
    refine fw_ict (cc := .ge) (pc := 10) (off := 60) (by decide +kernel) (by decide) ⟨by omega, by omega⟩ ⟨by omega, by omega⟩ (show m ≤ (k : Int) by omega) ?_
    refine gm_sz (gm_p_const (pc := 70) (i := .iconst 0) (v := gm_vi 0) (by decide +kernel) (by decide +kernel)) ?_
    exact gm_r_int (pc := 71) (by decide +kernel) (Or.inr ⟨(by decide +kernel), Or.inl rfl⟩) (q0 (fun ⟨i, h1, h2⟩ => hb i h1.1 (by omega) h2))
  | succ u ih =>
    intro k z hk hb
    have hl := hM.2.2 (k : Int) (by omega) (by omega)
    rw [hL9, hL9, hL9, hL9] at hl
    obtain ⟨⟨l1, l2⟩, ⟨l3, l4⟩, l5, l6, l7⟩ := hl
    refine gm_sz (gm_p_load (pc := 2) (i := .iload_n 2) (sr := 0) (j := 2) (by decide +kernel) rfl rfl rfl) ?_
    refine gm_sz (gm_p_load (pc := 3) (i := .aload_n 0) (sr := 2) (j := 0) (by decide +kernel) rfl rfl rfl) ?_
    refine gm_sz (fw_gr (pc := 4) (ix := 14) (ci := 10) (j := 0) (r := 248) (by decide +kernel) (lk6 hL) (by decide +kernel) (by decide +kernel) hL.2.1.1) ?_
    refine gm_c_virt (k := 248) (ci := 2) (mj := 9) (ix := 26) (pc := 7) (as := []) (st := [gm_vi (k : Int)]) (d' := d - 1) (bc' := 0) (bs' := 0) (by decide +kernel) (by decide +kernel) (by decide +kernel) (by decide +kernel) (lk8 hL).1 (lk8 hL).2 (by decide) (by decide +kernel) (show 0 = gm_na 9 by decide +kernel) fw_c0 (show 1 ≤ gm_ml 9 by decide +kernel) (Nat.le_of_ble_eq_true rfl) (by omega) (Nat.zero_le _) (Nat.zero_le _) ?_
    refine rw_size (s := m) (lk8 hL) hm9 ?_
    show gm_Wp X LX d _ _ 165 10 _ [gm_vi m, gm_vi (k : Int)] n K _ _ Q
    refine fw_icf (cc := .ge) (pc := 10) (off := 60) (by decide +kernel) (by decide) ⟨by omega, by omega⟩ ⟨by omega, by omega⟩ (show ¬ m ≤ (k : Int) by omega) ?_
    refine gm_sz (gm_p_load (pc := 13) (i := .aload_n 0) (sr := 2) (j := 0) (by decide +kernel) rfl rfl rfl) ?_
    refine gm_sz (fw_gr (pc := 14) (ix := 14) (ci := 10) (j := 0) (r := 248) (by decide +kernel) (lk6 hL) (by decide +kernel) (by decide +kernel) hL.2.1.1) ?_
    refine gm_sz (gm_p_load (pc := 17) (i := .iload_n 2) (sr := 0) (j := 2) (by decide +kernel) rfl rfl rfl) ?_
    refine gm_sz (gm_p_const (pc := 18) (i := .iconst 0) (v := gm_vi 0) (by decide +kernel) (by decide +kernel)) ?_
    refine gm_c_virt (k := 248) (ci := 2) (mj := 10) (ix := 30) (pc := 19) (as := [gm_vi (k : Int), gm_vi 0]) (st := []) (d' := d - 1) (bc' := 0) (bs' := 0) (by decide +kernel) (by decide +kernel) (by decide +kernel) (by decide +kernel) (lk8 hL).1 (lk8 hL).2 (by decide) (by decide +kernel) (show 2 = gm_na 10 by decide +kernel) (fw_c2 fw_si fw_si) (show 3 ≤ gm_ml 10 by decide +kernel) (Nat.le_of_ble_eq_true rfl) (by omega) (Nat.zero_le _) (Nat.zero_le _) ?_
    refine rw_get (s := m) (w := 4) (x := L ((k : Int) * 4 + 0)) (lk8 hL) (lk9 hL) hL.2.1.2.2 (by decide) hm9 hM.1.2.1 ⟨by omega, by omega⟩ ⟨by omega, by omega⟩ ⟨by omega, by omega⟩ ⟨by omega, by omega⟩ (hL9 _) ?_
    show gm_Wp X LX d _ _ 165 22 _ [gm_vi (L ((k : Int) * 4 + 0))] n K _ _ Q
    refine gm_sz (gm_p_const (pc := 22) (i := .iconst 2) (v := gm_vi 2) (by decide +kernel) (by decide +kernel)) ?_
    refine fw_ic (cc := .ne) (pc := 23) (off := 7) (by decide +kernel) (by decide) ⟨by omega, by omega⟩ ⟨by decide, by decide⟩ (fun h23 => ?_) (fun h23 => ?_)
    · have h23 : ¬ (L ((k : Int) * 4 + 0)) = 2 := h23
      refine gm_sz (gm_p_const (pc := 30) (i := .iconst 0) (v := gm_vi 0) (by decide +kernel) (by decide +kernel)) ?_
      refine gm_sz (gm_p_stor (pc := 31) (i := .istore_n 3) (sr := 0) (j := 3) (by decide +kernel) rfl (show 4 ≤ _ from Nat.le_of_ble_eq_true rfl) rfl) ?_
      refine gm_sz (gm_p_load (pc := 32) (i := .iload_n 3) (sr := 0) (j := 3) (by decide +kernel) rfl rfl rfl) ?_
      refine fw_iftd (cc := .eq) (pc := 33) (off := 31) (by decide +kernel) (by decide) ⟨by decide, by decide⟩ (by decide) ?_
      refine gm_sz (gm_p_iinc (pc := 64) (j := 2) (z := 1) (by decide +kernel) rfl) ?_
      refine gm_sz (gm_p_goto (pc := 67) (off := (-65)) (by decide +kernel) (by decide)) ?_
      refine ih (k + 1) _ (by omega) (fun i i1 i2 hh => ?_)
      by_cases e : i = (k : Int)
      · subst e
        first | exact h23 hh.1 | exact v56 hh.2
      · exact hb i i1 (by omega) hh
    · have h23 : (L ((k : Int) * 4 + 0)) = 2 := Classical.not_not.mp h23
      refine gm_sz (gm_p_const (pc := 26) (i := .iconst 1) (v := gm_vi 1) (by decide +kernel) (by decide +kernel)) ?_
      refine gm_sz (gm_p_goto (pc := 27) (off := 4) (by decide +kernel) (by decide)) ?_
      refine gm_sz (gm_p_stor (pc := 31) (i := .istore_n 3) (sr := 0) (j := 3) (by decide +kernel) rfl (show 4 ≤ _ from Nat.le_of_ble_eq_true rfl) rfl) ?_
      refine gm_sz (gm_p_load (pc := 32) (i := .iload_n 3) (sr := 0) (j := 3) (by decide +kernel) rfl rfl rfl) ?_
      refine fw_iffd (cc := .eq) (pc := 33) (off := 31) (by decide +kernel) (by decide) ⟨by decide, by decide⟩ (by decide) ?_
      refine gm_sz (gm_p_load (pc := 36) (i := .aload_n 0) (sr := 2) (j := 0) (by decide +kernel) rfl rfl rfl) ?_
      refine gm_sz (gm_p_load (pc := 37) (i := .aload_n 0) (sr := 2) (j := 0) (by decide +kernel) rfl rfl rfl) ?_
      refine gm_sz (fw_gr (pc := 38) (ix := 14) (ci := 10) (j := 0) (r := 248) (by decide +kernel) (lk6 hL) (by decide +kernel) (by decide +kernel) hL.2.1.1) ?_
      refine gm_sz (gm_p_load (pc := 41) (i := .iload_n 2) (sr := 0) (j := 2) (by decide +kernel) rfl rfl rfl) ?_
      refine gm_sz (gm_p_const (pc := 42) (i := .iconst 2) (v := gm_vi 2) (by decide +kernel) (by decide +kernel)) ?_
      refine gm_c_virt (k := 248) (ci := 2) (mj := 10) (ix := 30) (pc := 43) (as := [gm_vi (k : Int), gm_vi 2]) (st := [gm_vr 246]) (d' := d - 1) (bc' := 0) (bs' := 0) (by decide +kernel) (by decide +kernel) (by decide +kernel) (by decide +kernel) (lk8 hL).1 (lk8 hL).2 (by decide) (by decide +kernel) (show 2 = gm_na 10 by decide +kernel) (fw_c2 fw_si fw_si) (show 3 ≤ gm_ml 10 by decide +kernel) (Nat.le_of_ble_eq_true rfl) (by omega) (Nat.zero_le _) (Nat.zero_le _) ?_
      refine rw_get (s := m) (w := 4) (x := L ((k : Int) * 4 + 2)) (lk8 hL) (lk9 hL) hL.2.1.2.2 (by decide) hm9 hM.1.2.1 ⟨by omega, by omega⟩ ⟨by omega, by omega⟩ ⟨by omega, by omega⟩ ⟨by omega, by omega⟩ (hL9 _) ?_
      show gm_Wp X LX d _ _ 165 46 _ [gm_vi (L ((k : Int) * 4 + 2)), gm_vr 246] n K _ _ Q
      refine gm_sz (gm_p_load (pc := 46) (i := .aload_n 0) (sr := 2) (j := 0) (by decide +kernel) rfl rfl rfl) ?_
      refine gm_sz (fw_gr (pc := 47) (ix := 14) (ci := 10) (j := 0) (r := 248) (by decide +kernel) (lk6 hL) (by decide +kernel) (by decide +kernel) hL.2.1.1) ?_
      refine gm_sz (gm_p_load (pc := 50) (i := .iload_n 2) (sr := 0) (j := 2) (by decide +kernel) rfl rfl rfl) ?_
      refine gm_sz (gm_p_const (pc := 51) (i := .iconst 3) (v := gm_vi 3) (by decide +kernel) (by decide +kernel)) ?_
      refine gm_c_virt (k := 248) (ci := 2) (mj := 10) (ix := 30) (pc := 52) (as := [gm_vi (k : Int), gm_vi 3]) (st := [gm_vi (L ((k : Int) * 4 + 2)), gm_vr 246]) (d' := d - 1) (bc' := 0) (bs' := 0) (by decide +kernel) (by decide +kernel) (by decide +kernel) (by decide +kernel) (lk8 hL).1 (lk8 hL).2 (by decide) (by decide +kernel) (show 2 = gm_na 10 by decide +kernel) (fw_c2 fw_si fw_si) (show 3 ≤ gm_ml 10 by decide +kernel) (Nat.le_of_ble_eq_true rfl) (by omega) (Nat.zero_le _) (Nat.zero_le _) ?_
      refine rw_get (s := m) (w := 4) (x := L ((k : Int) * 4 + 3)) (lk8 hL) (lk9 hL) hL.2.1.2.2 (by decide) hm9 hM.1.2.1 ⟨by omega, by omega⟩ ⟨by omega, by omega⟩ ⟨by omega, by omega⟩ ⟨by omega, by omega⟩ (hL9 _) ?_
      show gm_Wp X LX d _ _ 165 55 _ [gm_vi (L ((k : Int) * 4 + 3)), gm_vi (L ((k : Int) * 4 + 2)), gm_vr 246] n K _ _ Q
      refine gm_sz (gm_p_load (pc := 55) (i := .aload_n 1) (sr := 2) (j := 1) (by decide +kernel) rfl rfl rfl) ?_
      refine gm_c_virt (k := 246) (ci := 10) (mj := 41) (ix := 34) (pc := 56) (as := [gm_vi (L ((k : Int) * 4 + 2)), gm_vi (L ((k : Int) * 4 + 3)), gm_vr 204]) (st := []) (d' := d - 1) (bc' := 0) (bs' := 0) (by decide +kernel) (by decide +kernel) (by decide +kernel) (by decide +kernel) (lk6 hL).1 (lk6 hL).2 (by decide) (by decide +kernel) (show 3 = gm_na 41 by decide +kernel) (fw_c3 fw_si fw_si fw_sr) (show 4 ≤ gm_ml 41 by decide +kernel) (Nat.le_of_ble_eq_true rfl) (by omega) (Nat.zero_le _) (Nat.zero_le _) ?_
      refine ho_c41 (b := L ((k : Int) * 4 + 2)) (e := L ((k : Int) * 4 + 3)) hE hL hM hF hC9 (by omega) (by omega) (by omega) (fun v56 => ?_) (fun v56 => ?_)
      · show gm_Wp X LX d _ _ 165 59 _ [gm_vi 1] n K _ _ Q
        have v56 : evh F C (L ((k : Int) * 4 + 2)) (L ((k : Int) * 4 + 3)) := v56
        refine fw_iffd (cc := .eq) (pc := 59) (off := 5) (by decide +kernel) (by decide) ⟨by decide, by decide⟩ (by decide) ?_
        refine gm_sz (gm_p_const (pc := 62) (i := .iconst 1) (v := gm_vi 1) (by decide +kernel) (by decide +kernel)) ?_
        exact gm_r_int (pc := 63) (by decide +kernel) (Or.inr ⟨(by decide +kernel), Or.inr rfl⟩) (q1 ⟨(k : Int), ⟨by omega, by omega⟩, h23, v56⟩)
      · show gm_Wp X LX d _ _ 165 59 _ [gm_vi 0] n K _ _ Q
        have v56 : ¬ evh F C (L ((k : Int) * 4 + 2)) (L ((k : Int) * 4 + 3)) := v56
        refine fw_iftd (cc := .eq) (pc := 59) (off := 5) (by decide +kernel) (by decide) ⟨by decide, by decide⟩ (by decide) ?_
        refine gm_sz (gm_p_iinc (pc := 64) (j := 2) (z := 1) (by decide +kernel) rfl) ?_
        refine gm_sz (gm_p_goto (pc := 67) (off := (-65)) (by decide +kernel) (by decide)) ?_
        refine ih (k + 1) _ (by omega) (fun i i1 i2 hh => ?_)
        by_cases e : i = (k : Int)
        · subst e
          first | exact h23 hh.1 | exact v56 hh.2
        · exact hb i i1 (by omega) hh
theorem lo_c165 (hd : 1 ≤ d) (hE : E0 n K R) (hL : LE n K R NC) (hM : LM NC M) (hF : ∀ j : Int, 0 ≤ j → j < 10 → M 204 j = F j) (hC9 : ∀ j, M 247 j = C j) {L : Int → Int} {m : Int} (hL9 : ∀ j, M 249 j = L j) (hm9 : M 248 3 = m) (q1 : lopn F C L m → Q (.inl (some (gm_vi 1))) n K R M) (q0 : ¬ lopn F C L m → Q (.inl (some (gm_vi 0))) n K R M) : gm_Wp X LX d bc bs 165 0 (gm_ent 165 [gm_vr 246, gm_vr 204]) [] n K R M Q := by
  have hm1 := hM.1.2.2
  rw [hm9] at hm1
  refine gm_sz (gm_p_const (pc := 0) (i := .iconst 0) (v := gm_vi 0) (by decide +kernel) (by decide +kernel)) ?_
  refine gm_sz (gm_p_stor (pc := 1) (i := .istore_n 2) (sr := 0) (j := 2) (by decide +kernel) rfl (show 3 ≤ _ from Nat.le_of_ble_eq_true rfl) rfl) ?_
  exact lo_l hd hE hL hM hF hC9 hL9 hm9 q1 q0 m.toNat 0 _ (by omega) (fun i h1 h2 => absurd h2 (by omega))
end LEV
