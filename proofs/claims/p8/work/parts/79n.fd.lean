/-! 79n.fd -/
section
/-! FEED: the bytes that both lay behind the TAPE (laid by wip/pp/p5f.py). -/
theorem fw_div {a b : Int} (h : 0 ≤ a) (h2 : a < 2147483648) (hb : 0 < b ∧ b < 2147483648) : gm_div a b = a / b := by
  unfold gm_div
  rw [gm_w_id (by omega) h2, gm_w_id (by omega) hb.2, Int.tdiv_eq_ediv_of_nonneg h]
theorem fw_rem {a b : Int} (h : 0 ≤ a) (h2 : a < 2147483648) (hb : 0 < b ∧ b < 2147483648) : gm_rem a b = a % b := by
  unfold gm_rem
  rw [gm_w_id (by omega) h2, gm_w_id (by omega) hb.2, Int.tmod_eq_emod_of_nonneg h]
/-- the byte r of an int, the highest first -/
noncomputable def fb (x r : Int) : Int := gm_wb (gm_w x / (if r = 0 then 16777216 else if r = 1 then 65536 else if r = 2 then 256 else 1))
theorem wb_wb {x : Int} : gm_wb (gm_wb x) = gm_wb x := by unfold gm_wb; omega
theorem fb_ir {x r : Int} : -128 ≤ fb x r ∧ fb x r ≤ 127 := by unfold fb gm_wb; omega
theorem fb_sh {x s p : Int} {k : Nat} (hs : ((Int32.ofInt s &&& 31).toBitVec.smod 32).toNat = k) (hp : (2 : Int) ^ k = p) : gm_shr x s = gm_w x / p := by
  unfold gm_shr
  rw [pk_shr _ _ k hs, Int.shiftRight_eq_div_pow, gm_w_toInt]
  congr 1
theorem fb_us {x s p : Int} {k : Nat} (hs : (((Int32.ofInt s).toUInt32 &&& Int32.toUInt32 31).toBitVec % 32).toNat = k) (hp : 2 ^ k = p.toNat) (hp0 : 0 ≤ p) : ∃ N : Int, (N = gm_w x ∨ N = gm_w x + 4294967296) ∧ (gm_ushr x s = N / p ∨ gm_ushr x s = N / p - 4294967296) := by
  have h1 := pk_ushr (Int32.ofInt x) (Int32.ofInt s) k hs
  refine ⟨((Int32.ofInt x).toBitVec.toNat : Int), ?_, ?_⟩
  · rw [← gm_w_toInt]
    show _ = (Int32.ofInt x).toBitVec.toInt ∨ _ = (Int32.ofInt x).toBitVec.toInt + 4294967296
    rw [BitVec.toInt_eq_toNat_cond]
    split <;> omega
  · unfold gm_ushr
    generalize ((Int32.ofInt x).toUInt32 >>> ((Int32.ofInt s).toUInt32 &&& Int32.toUInt32 31)).toInt32 = y at h1 ⊢
    have h2 : ((y.toBitVec.toNat : Nat) : Int) = ((Int32.ofInt x).toBitVec.toNat : Int) / p := by
      rw [h1, hp, Int.natCast_ediv, Int.toNat_of_nonneg hp0]
    show y.toBitVec.toInt = _ ∨ y.toBitVec.toInt = _
    rw [BitVec.toInt_eq_toNat_cond]
    split <;> omega
theorem fb0s {x : Int} : gm_wb (gm_shr x 24) = fb x 0 := by
  rw [fb_sh (s := 24) (p := 16777216) (k := 24) (by decide) (by decide)]
  rfl
theorem fb0u {x : Int} : gm_wb (gm_ushr x 24) = fb x 0 := by
  rw [← fb0s, fb_sh (s := 24) (p := 16777216) (k := 24) (by decide) (by decide)]
  obtain ⟨N, h1, h2⟩ := fb_us (x := x) (s := 24) (p := 16777216) (k := 24) (by decide) (by decide) (by decide)
  have := gm_w_lo x
  have := gm_w_hi x
  unfold gm_wb
  rcases h1 with h1 | h1 <;> rcases h2 with h2 | h2 <;> rw [h2] <;> subst h1 <;> omega
theorem fb1s {x : Int} : gm_wb (gm_shr x 16) = fb x 1 := by
  rw [fb_sh (s := 16) (p := 65536) (k := 16) (by decide) (by decide)]
  rfl
theorem fb1u {x : Int} : gm_wb (gm_ushr x 16) = fb x 1 := by
  rw [← fb1s, fb_sh (s := 16) (p := 65536) (k := 16) (by decide) (by decide)]
  obtain ⟨N, h1, h2⟩ := fb_us (x := x) (s := 16) (p := 65536) (k := 16) (by decide) (by decide) (by decide)
  have := gm_w_lo x
  have := gm_w_hi x
  unfold gm_wb
  rcases h1 with h1 | h1 <;> rcases h2 with h2 | h2 <;> rw [h2] <;> subst h1 <;> omega
theorem fb2s {x : Int} : gm_wb (gm_shr x 8) = fb x 2 := by
  rw [fb_sh (s := 8) (p := 256) (k := 8) (by decide) (by decide)]
  rfl
theorem fb2u {x : Int} : gm_wb (gm_ushr x 8) = fb x 2 := by
  rw [← fb2s, fb_sh (s := 8) (p := 256) (k := 8) (by decide) (by decide)]
  obtain ⟨N, h1, h2⟩ := fb_us (x := x) (s := 8) (p := 256) (k := 8) (by decide) (by decide) (by decide)
  have := gm_w_lo x
  have := gm_w_hi x
  unfold gm_wb
  rcases h1 with h1 | h1 <;> rcases h2 with h2 | h2 <;> rw [h2] <;> subst h1 <;> omega
theorem fb3s {x : Int} : gm_wb (gm_shr x 0) = fb x 3 := by
  rw [fb_sh (s := 0) (p := 1) (k := 0) (by decide) (by decide)]
  rfl
theorem fb3u {x : Int} : gm_wb (gm_ushr x 0) = fb x 3 := by
  rw [← fb3s, fb_sh (s := 0) (p := 1) (k := 0) (by decide) (by decide)]
  obtain ⟨N, h1, h2⟩ := fb_us (x := x) (s := 0) (p := 1) (k := 0) (by decide) (by decide) (by decide)
  have := gm_w_lo x
  have := gm_w_hi x
  unfold gm_wb
  rcases h1 with h1 | h1 <;> rcases h2 with h2 | h2 <;> rw [h2] <;> subst h1 <;> omega
/-- k bytes of the numbers a behind t -/
noncomputable def fdc (a : Int → Int) (t k : Int) (f : Int → Int) : Int → Int := fun i => if t ≤ i ∧ i < t + k then fb (a ((i - t) / 4)) ((i - t) % 4) else f i
theorem fdc_0 {a f : Int → Int} {t : Int} : fdc a t 0 f = f := by
  funext i
  unfold fdc
  rw [if_neg (by omega)]
theorem fdc_s {a f : Int → Int} {t k v : Int} (hk : 0 ≤ k) (hv : v = fb (a (k / 4)) (k % 4)) : (fun i => if i = t + k then v else fdc a t k f i) = fdc a t (k + 1) f := by
  funext i
  unfold fdc
  by_cases h : i = t + k
  · rw [if_pos h, if_pos (by omega), hv, show i - t = k by omega]
  · rw [if_neg h]
    by_cases h2 : t ≤ i ∧ i < t + k
    · rw [if_pos h2, if_pos (by omega)]
    · rw [if_neg h2, if_neg (by omega)]
/-- the class's TAPE: how long, the bytes -/
noncomputable def fe (M : gm_M) (t : Int) (F : Int → Int) : gm_M := fun a j => if a = 1 ∧ j = 1 then t else if a = 2 then F j else M a j
section FD
variable {X : Int → Int} {LX d bc bs n : Nat} {K : gm_K} {R : gm_R} {M : gm_M} {Q : gm_Q} {t m x T : Int} {a f F : Int → Int}
theorem fe_1 : fe M T F 1 ((1 : Nat) : Int) = T := by unfold fe; rw [if_pos ⟨rfl, rfl⟩]
theorem fe_t : gm_uM (fe M T F) 1 ((1 : Nat) : Int) x = fe M x F := by
  funext b j
  by_cases h1 : b = 1 <;> by_cases h2 : j = 1 <;> simp [gm_uM, fe, h1, h2]
theorem fe_p {j : Int} : gm_uM (fe M T F) 2 j x = fe M T (fun i => if i = j then x else F i) := by
  funext b i
  by_cases h1 : b = 2 <;> by_cases h2 : i = j <;> simp [gm_uM, fe, h1, h2]
theorem fe_put {e k k2 v : Int} (he : e = t + k) (hk2 : k2 = k + 1) (hk : 0 ≤ k) (hv : v = fb (a (k / 4)) (k % 4)) : gm_uM (fe M T (fdc a t k f)) 2 e v = fe M T (fdc a t k2 f) := by
  rw [fe_p, he, hk2, fdc_s hk hv]
theorem fb0 (h0 : 0 ≤ m) (h4 : m ≤ 4) : gm_wb (gm_ushr (a m) 24) = fb (a ((4 * m + 0) / 4)) ((4 * m + 0) % 4) := by
  rw [fb0u, show (4 * m + 0) / 4 = m by omega, show (4 * m + 0) % 4 = 0 by omega]
theorem fb1 (h0 : 0 ≤ m) (h4 : m ≤ 4) : gm_wb (gm_ushr (a m) 16) = fb (a ((4 * m + 1) / 4)) ((4 * m + 1) % 4) := by
  rw [fb1u, show (4 * m + 1) / 4 = m by omega, show (4 * m + 1) % 4 = 1 by omega]
theorem fb2 (h0 : 0 ≤ m) (h4 : m ≤ 4) : gm_wb (gm_ushr (a m) 8) = fb (a ((4 * m + 2) / 4)) ((4 * m + 2) % 4) := by
  rw [fb2u, show (4 * m + 2) / 4 = m by omega, show (4 * m + 2) % 4 = 2 by omega]
theorem fb3 (h0 : 0 ≤ m) (h4 : m ≤ 4) : gm_wb (gm_ushr (a m) 0) = fb (a ((4 * m + 3) / 4)) ((4 * m + 3) % 4) := by
  rw [fb3u, show (4 * m + 3) / 4 = m by omega, show (4 * m + 3) % 4 = 3 by omega]
theorem fd_c20 (hk1 : (1 ≤ 1 ∧ 1 ≤ n) ∧ (K 1).1 = 0 + 4) (e2 : (1 ≤ 2 ∧ 2 ≤ n) ∧ K 2 = (1, 400)) (hr : R 1 ((0 : Nat) : Int) = 2) (ht : 0 ≤ t ∧ t + 20 ≤ 400) (hm : 0 ≤ m ∧ m ≤ 4) (hq : Q (.inl none) n K R (fe M (t + (4 * m + 4)) (fdc a t (4 * m + 4) f))) : gm_Wp X LX d bc bs 20 0 (gm_ent 20 [gm_vr 1, gm_vi (a m)]) [] n K R (fe M (t + (4 * m + 0)) (fdc a t (4 * m + 0) f)) Q := by
  refine gm_sz (gm_p_const (pc := 0) (i := .bipush 24) (v := gm_vi 24) (by decide +kernel) (by decide +kernel)) ?_
  refine gm_sz (gm_p_stor (pc := 2) (i := .istore_n 2) (sr := 0) (j := 2) (by decide +kernel) rfl (show 3 ≤ _ from Nat.le_of_ble_eq_true rfl) rfl) ?_
  refine gm_sz (gm_p_load (pc := 3) (i := .iload_n 2) (sr := 0) (j := 2) (by decide +kernel) rfl rfl rfl) ?_
  refine fw_iffd (cc := .lt) (pc := 4) (off := 44) (by decide +kernel) (by decide) ⟨by decide, by decide⟩ (by decide) ?_
  refine gm_sz (gm_p_load (pc := 7) (i := .aload_n 0) (sr := 2) (j := 0) (by decide +kernel) rfl rfl rfl) ?_
  refine gm_sz (fw_gi (pc := 8) (ix := 13) (ci := 0) (j := 1) (x := t + (4 * m + 0)) (by decide +kernel) hk1 (by decide +kernel) (by decide +kernel) fe_1) ?_
  refine gm_sz (gm_p_load (pc := 11) (i := .aload_n 0) (sr := 2) (j := 0) (by decide +kernel) rfl rfl rfl) ?_
  refine gm_sz (fw_gr (pc := 12) (ix := 9) (ci := 0) (j := 0) (r := 2) (by decide +kernel) hk1 (by decide +kernel) (by decide +kernel) hr) ?_
  refine gm_sz (fw_al (pc := 15) (k := 2) (len := 400) (by decide +kernel) (e2 : (1 ≤ 2 ∧ 2 ≤ n) ∧ K 2 = (1, 400)).1 (e2 : (1 ≤ 2 ∧ 2 ≤ n) ∧ K 2 = (1, 400)).2 (by decide)) ?_
  refine fw_icf (cc := .ge) (pc := 16) (off := 26) (by decide +kernel) (by decide) ⟨by omega, by omega⟩ ⟨by decide, by decide⟩ (show ¬ 400 ≤ (t + (4 * m + 0)) by omega) ?_
  refine gm_sz (gm_p_load (pc := 19) (i := .aload_n 0) (sr := 2) (j := 0) (by decide +kernel) rfl rfl rfl) ?_
  refine gm_sz (fw_gr (pc := 20) (ix := 9) (ci := 0) (j := 0) (r := 2) (by decide +kernel) hk1 (by decide +kernel) (by decide +kernel) hr) ?_
  refine gm_sz (gm_p_load (pc := 23) (i := .aload_n 0) (sr := 2) (j := 0) (by decide +kernel) rfl rfl rfl) ?_
  refine gm_sz (fw_gi (pc := 24) (ix := 13) (ci := 0) (j := 1) (x := t + (4 * m + 0)) (by decide +kernel) hk1 (by decide +kernel) (by decide +kernel) fe_1) ?_
  refine gm_sz (gm_p_load (pc := 27) (i := .iload_n 1) (sr := 0) (j := 1) (by decide +kernel) rfl rfl rfl) ?_
  refine gm_sz (gm_p_load (pc := 28) (i := .iload_n 2) (sr := 0) (j := 2) (by decide +kernel) rfl rfl rfl) ?_
  refine gm_sz (gm_p_bin (pc := 29) (i := .iushr) (f := gm_ushr) (by decide +kernel) rfl) ?_
  refine gm_sz (gm_p_un (pc := 30) (i := .i2b) (f := fun x => gm_wb x) (by decide +kernel) rfl) ?_
  refine gm_sz (fw_bs (pc := 31) (k := 2) (len := 400) (e0 := t + (4 * m + 0)) (x := gm_wb (gm_ushr (a m) 24)) (M' := fe M (t + (4 * m + 0)) (fdc a t (4 * m + 1) f)) (by decide +kernel) (e2 : (1 ≤ 2 ∧ 2 ≤ n) ∧ K 2 = (1, 400)).1 (e2 : (1 ≤ 2 ∧ 2 ≤ n) ∧ K 2 = (1, 400)).2 (by decide) ⟨by omega, by omega⟩ (fe_put (k := 4 * m + 0) rfl (by omega) (by omega) (wb_wb.trans (fb0 (by omega) (by omega))))) ?_
  refine gm_sz (gm_p_load (pc := 32) (i := .aload_n 0) (sr := 2) (j := 0) (by decide +kernel) rfl rfl rfl) ?_
  refine gm_sz (gm_p_dup (pc := 33) (by decide +kernel) fw_sr) ?_
  refine gm_sz (fw_gi (pc := 34) (ix := 13) (ci := 0) (j := 1) (x := t + (4 * m + 0)) (by decide +kernel) hk1 (by decide +kernel) (by decide +kernel) fe_1) ?_
  refine gm_sz (gm_p_const (pc := 37) (i := .iconst 1) (v := gm_vi 1) (by decide +kernel) (by decide +kernel)) ?_
  refine gm_sz (gm_p_bin (pc := 38) (i := .iadd) (f := fun x y => x + y) (by decide +kernel) rfl) ?_
  refine gm_sz (fw_pi (pc := 39) (ix := 13) (ci := 0) (j := 1) (M' := fe M (t + (4 * m + 1)) (fdc a t (4 * m + 1) f)) (by decide +kernel) hk1 (by decide +kernel) (by decide +kernel) (by decide +kernel) (fe_t.trans (congrArg (fun z => fe M z _) (show t + (4 * m + 0) + 1 = t + (4 * m + 1) by omega)))) ?_
  refine gm_sz (gm_p_iinc (pc := 42) (j := 2) (z := (-8)) (by decide +kernel) rfl) ?_
  refine gm_sz (gm_p_goto (pc := 45) (off := (-42)) (by decide +kernel) (by decide)) ?_
  refine gm_sz (gm_p_load (pc := 3) (i := .iload_n 2) (sr := 0) (j := 2) (by decide +kernel) rfl rfl rfl) ?_
  refine fw_iffd (cc := .lt) (pc := 4) (off := 44) (by decide +kernel) (by decide) ⟨by decide, by decide⟩ (by decide) ?_
  refine gm_sz (gm_p_load (pc := 7) (i := .aload_n 0) (sr := 2) (j := 0) (by decide +kernel) rfl rfl rfl) ?_
  refine gm_sz (fw_gi (pc := 8) (ix := 13) (ci := 0) (j := 1) (x := t + (4 * m + 1)) (by decide +kernel) hk1 (by decide +kernel) (by decide +kernel) fe_1) ?_
  refine gm_sz (gm_p_load (pc := 11) (i := .aload_n 0) (sr := 2) (j := 0) (by decide +kernel) rfl rfl rfl) ?_
  refine gm_sz (fw_gr (pc := 12) (ix := 9) (ci := 0) (j := 0) (r := 2) (by decide +kernel) hk1 (by decide +kernel) (by decide +kernel) hr) ?_
  refine gm_sz (fw_al (pc := 15) (k := 2) (len := 400) (by decide +kernel) (e2 : (1 ≤ 2 ∧ 2 ≤ n) ∧ K 2 = (1, 400)).1 (e2 : (1 ≤ 2 ∧ 2 ≤ n) ∧ K 2 = (1, 400)).2 (by decide)) ?_
  refine fw_icf (cc := .ge) (pc := 16) (off := 26) (by decide +kernel) (by decide) ⟨by omega, by omega⟩ ⟨by decide, by decide⟩ (show ¬ 400 ≤ (t + (4 * m + 1)) by omega) ?_
  refine gm_sz (gm_p_load (pc := 19) (i := .aload_n 0) (sr := 2) (j := 0) (by decide +kernel) rfl rfl rfl) ?_
  refine gm_sz (fw_gr (pc := 20) (ix := 9) (ci := 0) (j := 0) (r := 2) (by decide +kernel) hk1 (by decide +kernel) (by decide +kernel) hr) ?_
  refine gm_sz (gm_p_load (pc := 23) (i := .aload_n 0) (sr := 2) (j := 0) (by decide +kernel) rfl rfl rfl) ?_
  refine gm_sz (fw_gi (pc := 24) (ix := 13) (ci := 0) (j := 1) (x := t + (4 * m + 1)) (by decide +kernel) hk1 (by decide +kernel) (by decide +kernel) fe_1) ?_
  refine gm_sz (gm_p_load (pc := 27) (i := .iload_n 1) (sr := 0) (j := 1) (by decide +kernel) rfl rfl rfl) ?_
  refine gm_sz (gm_p_load (pc := 28) (i := .iload_n 2) (sr := 0) (j := 2) (by decide +kernel) rfl rfl rfl) ?_
  refine gm_sz (gm_p_bin (pc := 29) (i := .iushr) (f := gm_ushr) (by decide +kernel) rfl) ?_
  refine gm_sz (gm_p_un (pc := 30) (i := .i2b) (f := fun x => gm_wb x) (by decide +kernel) rfl) ?_
  refine gm_sz (fw_bs (pc := 31) (k := 2) (len := 400) (e0 := t + (4 * m + 1)) (x := gm_wb (gm_ushr (a m) 16)) (M' := fe M (t + (4 * m + 1)) (fdc a t (4 * m + 2) f)) (by decide +kernel) (e2 : (1 ≤ 2 ∧ 2 ≤ n) ∧ K 2 = (1, 400)).1 (e2 : (1 ≤ 2 ∧ 2 ≤ n) ∧ K 2 = (1, 400)).2 (by decide) ⟨by omega, by omega⟩ (fe_put (k := 4 * m + 1) rfl (by omega) (by omega) (wb_wb.trans (fb1 (by omega) (by omega))))) ?_
  refine gm_sz (gm_p_load (pc := 32) (i := .aload_n 0) (sr := 2) (j := 0) (by decide +kernel) rfl rfl rfl) ?_
  refine gm_sz (gm_p_dup (pc := 33) (by decide +kernel) fw_sr) ?_
  refine gm_sz (fw_gi (pc := 34) (ix := 13) (ci := 0) (j := 1) (x := t + (4 * m + 1)) (by decide +kernel) hk1 (by decide +kernel) (by decide +kernel) fe_1) ?_
  refine gm_sz (gm_p_const (pc := 37) (i := .iconst 1) (v := gm_vi 1) (by decide +kernel) (by decide +kernel)) ?_
  refine gm_sz (gm_p_bin (pc := 38) (i := .iadd) (f := fun x y => x + y) (by decide +kernel) rfl) ?_
  refine gm_sz (fw_pi (pc := 39) (ix := 13) (ci := 0) (j := 1) (M' := fe M (t + (4 * m + 2)) (fdc a t (4 * m + 2) f)) (by decide +kernel) hk1 (by decide +kernel) (by decide +kernel) (by decide +kernel) (fe_t.trans (congrArg (fun z => fe M z _) (show t + (4 * m + 1) + 1 = t + (4 * m + 2) by omega)))) ?_
  refine gm_sz (gm_p_iinc (pc := 42) (j := 2) (z := (-8)) (by decide +kernel) rfl) ?_
  refine gm_sz (gm_p_goto (pc := 45) (off := (-42)) (by decide +kernel) (by decide)) ?_
  refine gm_sz (gm_p_load (pc := 3) (i := .iload_n 2) (sr := 0) (j := 2) (by decide +kernel) rfl rfl rfl) ?_
  refine fw_iffd (cc := .lt) (pc := 4) (off := 44) (by decide +kernel) (by decide) ⟨by decide, by decide⟩ (by decide) ?_
  refine gm_sz (gm_p_load (pc := 7) (i := .aload_n 0) (sr := 2) (j := 0) (by decide +kernel) rfl rfl rfl) ?_
  refine gm_sz (fw_gi (pc := 8) (ix := 13) (ci := 0) (j := 1) (x := t + (4 * m + 2)) (by decide +kernel) hk1 (by decide +kernel) (by decide +kernel) fe_1) ?_
  refine gm_sz (gm_p_load (pc := 11) (i := .aload_n 0) (sr := 2) (j := 0) (by decide +kernel) rfl rfl rfl) ?_
  refine gm_sz (fw_gr (pc := 12) (ix := 9) (ci := 0) (j := 0) (r := 2) (by decide +kernel) hk1 (by decide +kernel) (by decide +kernel) hr) ?_
  refine gm_sz (fw_al (pc := 15) (k := 2) (len := 400) (by decide +kernel) (e2 : (1 ≤ 2 ∧ 2 ≤ n) ∧ K 2 = (1, 400)).1 (e2 : (1 ≤ 2 ∧ 2 ≤ n) ∧ K 2 = (1, 400)).2 (by decide)) ?_
  refine fw_icf (cc := .ge) (pc := 16) (off := 26) (by decide +kernel) (by decide) ⟨by omega, by omega⟩ ⟨by decide, by decide⟩ (show ¬ 400 ≤ (t + (4 * m + 2)) by omega) ?_
  refine gm_sz (gm_p_load (pc := 19) (i := .aload_n 0) (sr := 2) (j := 0) (by decide +kernel) rfl rfl rfl) ?_
  refine gm_sz (fw_gr (pc := 20) (ix := 9) (ci := 0) (j := 0) (r := 2) (by decide +kernel) hk1 (by decide +kernel) (by decide +kernel) hr) ?_
  refine gm_sz (gm_p_load (pc := 23) (i := .aload_n 0) (sr := 2) (j := 0) (by decide +kernel) rfl rfl rfl) ?_
  refine gm_sz (fw_gi (pc := 24) (ix := 13) (ci := 0) (j := 1) (x := t + (4 * m + 2)) (by decide +kernel) hk1 (by decide +kernel) (by decide +kernel) fe_1) ?_
  refine gm_sz (gm_p_load (pc := 27) (i := .iload_n 1) (sr := 0) (j := 1) (by decide +kernel) rfl rfl rfl) ?_
  refine gm_sz (gm_p_load (pc := 28) (i := .iload_n 2) (sr := 0) (j := 2) (by decide +kernel) rfl rfl rfl) ?_
  refine gm_sz (gm_p_bin (pc := 29) (i := .iushr) (f := gm_ushr) (by decide +kernel) rfl) ?_
  refine gm_sz (gm_p_un (pc := 30) (i := .i2b) (f := fun x => gm_wb x) (by decide +kernel) rfl) ?_
  refine gm_sz (fw_bs (pc := 31) (k := 2) (len := 400) (e0 := t + (4 * m + 2)) (x := gm_wb (gm_ushr (a m) 8)) (M' := fe M (t + (4 * m + 2)) (fdc a t (4 * m + 3) f)) (by decide +kernel) (e2 : (1 ≤ 2 ∧ 2 ≤ n) ∧ K 2 = (1, 400)).1 (e2 : (1 ≤ 2 ∧ 2 ≤ n) ∧ K 2 = (1, 400)).2 (by decide) ⟨by omega, by omega⟩ (fe_put (k := 4 * m + 2) rfl (by omega) (by omega) (wb_wb.trans (fb2 (by omega) (by omega))))) ?_
  refine gm_sz (gm_p_load (pc := 32) (i := .aload_n 0) (sr := 2) (j := 0) (by decide +kernel) rfl rfl rfl) ?_
  refine gm_sz (gm_p_dup (pc := 33) (by decide +kernel) fw_sr) ?_
  refine gm_sz (fw_gi (pc := 34) (ix := 13) (ci := 0) (j := 1) (x := t + (4 * m + 2)) (by decide +kernel) hk1 (by decide +kernel) (by decide +kernel) fe_1) ?_
  refine gm_sz (gm_p_const (pc := 37) (i := .iconst 1) (v := gm_vi 1) (by decide +kernel) (by decide +kernel)) ?_
  refine gm_sz (gm_p_bin (pc := 38) (i := .iadd) (f := fun x y => x + y) (by decide +kernel) rfl) ?_
  refine gm_sz (fw_pi (pc := 39) (ix := 13) (ci := 0) (j := 1) (M' := fe M (t + (4 * m + 3)) (fdc a t (4 * m + 3) f)) (by decide +kernel) hk1 (by decide +kernel) (by decide +kernel) (by decide +kernel) (fe_t.trans (congrArg (fun z => fe M z _) (show t + (4 * m + 2) + 1 = t + (4 * m + 3) by omega)))) ?_
  refine gm_sz (gm_p_iinc (pc := 42) (j := 2) (z := (-8)) (by decide +kernel) rfl) ?_
  refine gm_sz (gm_p_goto (pc := 45) (off := (-42)) (by decide +kernel) (by decide)) ?_
  refine gm_sz (gm_p_load (pc := 3) (i := .iload_n 2) (sr := 0) (j := 2) (by decide +kernel) rfl rfl rfl) ?_
  refine fw_iffd (cc := .lt) (pc := 4) (off := 44) (by decide +kernel) (by decide) ⟨by decide, by decide⟩ (by decide) ?_
  refine gm_sz (gm_p_load (pc := 7) (i := .aload_n 0) (sr := 2) (j := 0) (by decide +kernel) rfl rfl rfl) ?_
  refine gm_sz (fw_gi (pc := 8) (ix := 13) (ci := 0) (j := 1) (x := t + (4 * m + 3)) (by decide +kernel) hk1 (by decide +kernel) (by decide +kernel) fe_1) ?_
  refine gm_sz (gm_p_load (pc := 11) (i := .aload_n 0) (sr := 2) (j := 0) (by decide +kernel) rfl rfl rfl) ?_
  refine gm_sz (fw_gr (pc := 12) (ix := 9) (ci := 0) (j := 0) (r := 2) (by decide +kernel) hk1 (by decide +kernel) (by decide +kernel) hr) ?_
  refine gm_sz (fw_al (pc := 15) (k := 2) (len := 400) (by decide +kernel) (e2 : (1 ≤ 2 ∧ 2 ≤ n) ∧ K 2 = (1, 400)).1 (e2 : (1 ≤ 2 ∧ 2 ≤ n) ∧ K 2 = (1, 400)).2 (by decide)) ?_
  refine fw_icf (cc := .ge) (pc := 16) (off := 26) (by decide +kernel) (by decide) ⟨by omega, by omega⟩ ⟨by decide, by decide⟩ (show ¬ 400 ≤ (t + (4 * m + 3)) by omega) ?_
  refine gm_sz (gm_p_load (pc := 19) (i := .aload_n 0) (sr := 2) (j := 0) (by decide +kernel) rfl rfl rfl) ?_
  refine gm_sz (fw_gr (pc := 20) (ix := 9) (ci := 0) (j := 0) (r := 2) (by decide +kernel) hk1 (by decide +kernel) (by decide +kernel) hr) ?_
  refine gm_sz (gm_p_load (pc := 23) (i := .aload_n 0) (sr := 2) (j := 0) (by decide +kernel) rfl rfl rfl) ?_
  refine gm_sz (fw_gi (pc := 24) (ix := 13) (ci := 0) (j := 1) (x := t + (4 * m + 3)) (by decide +kernel) hk1 (by decide +kernel) (by decide +kernel) fe_1) ?_
  refine gm_sz (gm_p_load (pc := 27) (i := .iload_n 1) (sr := 0) (j := 1) (by decide +kernel) rfl rfl rfl) ?_
  refine gm_sz (gm_p_load (pc := 28) (i := .iload_n 2) (sr := 0) (j := 2) (by decide +kernel) rfl rfl rfl) ?_
  refine gm_sz (gm_p_bin (pc := 29) (i := .iushr) (f := gm_ushr) (by decide +kernel) rfl) ?_
  refine gm_sz (gm_p_un (pc := 30) (i := .i2b) (f := fun x => gm_wb x) (by decide +kernel) rfl) ?_
  refine gm_sz (fw_bs (pc := 31) (k := 2) (len := 400) (e0 := t + (4 * m + 3)) (x := gm_wb (gm_ushr (a m) 0)) (M' := fe M (t + (4 * m + 3)) (fdc a t (4 * m + 4) f)) (by decide +kernel) (e2 : (1 ≤ 2 ∧ 2 ≤ n) ∧ K 2 = (1, 400)).1 (e2 : (1 ≤ 2 ∧ 2 ≤ n) ∧ K 2 = (1, 400)).2 (by decide) ⟨by omega, by omega⟩ (fe_put (k := 4 * m + 3) rfl (by omega) (by omega) (wb_wb.trans (fb3 (by omega) (by omega))))) ?_
  refine gm_sz (gm_p_load (pc := 32) (i := .aload_n 0) (sr := 2) (j := 0) (by decide +kernel) rfl rfl rfl) ?_
  refine gm_sz (gm_p_dup (pc := 33) (by decide +kernel) fw_sr) ?_
  refine gm_sz (fw_gi (pc := 34) (ix := 13) (ci := 0) (j := 1) (x := t + (4 * m + 3)) (by decide +kernel) hk1 (by decide +kernel) (by decide +kernel) fe_1) ?_
  refine gm_sz (gm_p_const (pc := 37) (i := .iconst 1) (v := gm_vi 1) (by decide +kernel) (by decide +kernel)) ?_
  refine gm_sz (gm_p_bin (pc := 38) (i := .iadd) (f := fun x y => x + y) (by decide +kernel) rfl) ?_
  refine gm_sz (fw_pi (pc := 39) (ix := 13) (ci := 0) (j := 1) (M' := fe M (t + (4 * m + 4)) (fdc a t (4 * m + 4) f)) (by decide +kernel) hk1 (by decide +kernel) (by decide +kernel) (by decide +kernel) (fe_t.trans (congrArg (fun z => fe M z _) (show t + (4 * m + 3) + 1 = t + (4 * m + 4) by omega)))) ?_
  refine gm_sz (gm_p_iinc (pc := 42) (j := 2) (z := (-8)) (by decide +kernel) rfl) ?_
  refine gm_sz (gm_p_goto (pc := 45) (off := (-42)) (by decide +kernel) (by decide)) ?_
  refine gm_sz (gm_p_load (pc := 3) (i := .iload_n 2) (sr := 0) (j := 2) (by decide +kernel) rfl rfl rfl) ?_
  refine fw_iftd (cc := .lt) (pc := 4) (off := 44) (by decide +kernel) (by decide) ⟨by decide, by decide⟩ (by decide) ?_
  exact gm_r_void (pc := 48) (by decide +kernel) (by decide +kernel) hq
theorem fd_c19 (hd : 1 ≤ d) (hk1 : (1 ≤ 1 ∧ 1 ≤ n) ∧ (K 1).1 = 0 + 4) (e2 : (1 ≤ 2 ∧ 2 ≤ n) ∧ K 2 = (1, 400)) (hr : R 1 ((0 : Nat) : Int) = 2) (ht : 0 ≤ t ∧ t ≤ 400) (h0 : 381 ≤ t → Q (.inl (some (gm_vi (-1)))) n K R (fe M t f)) (h1 : t ≤ 380 → Q (.inl (some (gm_vi (t + 20)))) n K R (fe M (t + 20) (fdc a t 20 f))) : gm_Wp X LX d bc bs 19 0 (gm_ent 19 [gm_vr 1, gm_vi (a 0), gm_vi (a 1), gm_vi (a 2), gm_vi (a 3), gm_vi (a 4)]) [] n K R (fe M t f) Q := by
  refine gm_sz (gm_p_load (pc := 0) (i := .aload_n 0) (sr := 2) (j := 0) (by decide +kernel) rfl rfl rfl) ?_
  refine gm_sz (fw_gi (pc := 1) (ix := 13) (ci := 0) (j := 1) (x := t) (by decide +kernel) hk1 (by decide +kernel) (by decide +kernel) fe_1) ?_
  refine gm_sz (gm_p_const (pc := 4) (i := .bipush 20) (v := gm_vi 20) (by decide +kernel) (by decide +kernel)) ?_
  refine gm_sz (gm_p_bin (pc := 6) (i := .iadd) (f := fun x y => x + y) (by decide +kernel) rfl) ?_
  refine gm_sz (gm_p_const (pc := 7) (i := .sipush 400) (v := gm_vi 400) (by decide +kernel) (by decide +kernel)) ?_
  refine fw_ic (cc := .le) (pc := 10) (off := 5) (by decide +kernel) (by decide) ⟨by omega, by omega⟩ ⟨by decide, by decide⟩ (fun j1 => ?_) (fun j1 => ?_)
  · have j1 : (t + 20) ≤ 400 := j1
    refine gm_sz (gm_p_load (pc := 15) (i := .aload_n 0) (sr := 2) (j := 0) (by decide +kernel) rfl rfl rfl) ?_
    refine gm_sz (gm_p_load (pc := 16) (i := .iload_n 1) (sr := 0) (j := 1) (by decide +kernel) rfl rfl rfl) ?_
    rw [show fe M t f = fe M (t + (4 * 0 + 0)) (fdc a t (4 * 0 + 0) f) by rw [show (4 * 0 + 0 : Int) = 0 by decide, fdc_0, Int.add_zero]]
    refine gm_c_virt (k := 1) (ci := 0) (mj := 20) (ix := 110) (pc := 17) (as := [gm_vi (a 0)]) (st := []) (d' := d - 1) (bc' := 0) (bs' := 0) (by decide +kernel) (by decide +kernel) (by decide +kernel) (by decide +kernel) hk1.1 hk1.2 (by decide) (by decide +kernel) (show 1 = gm_na 20 by decide +kernel) (fw_c1 fw_si) (show 2 ≤ gm_ml 20 by decide +kernel) (Nat.le_of_ble_eq_true rfl) (by omega) (Nat.zero_le _) (Nat.zero_le _) ?_
    refine fd_c20 (t := t) (m := 0) (a := a) (f := f) hk1 e2 hr ⟨by omega, by omega⟩ (by decide) ?_
    show gm_Wp X LX d _ _ 19 20 _ [] n K R _ Q
    refine gm_sz (gm_p_load (pc := 20) (i := .aload_n 0) (sr := 2) (j := 0) (by decide +kernel) rfl rfl rfl) ?_
    refine gm_sz (gm_p_load (pc := 21) (i := .iload_n 2) (sr := 0) (j := 2) (by decide +kernel) rfl rfl rfl) ?_
    refine gm_c_virt (k := 1) (ci := 0) (mj := 20) (ix := 110) (pc := 22) (as := [gm_vi (a 1)]) (st := []) (d' := d - 1) (bc' := 0) (bs' := 0) (by decide +kernel) (by decide +kernel) (by decide +kernel) (by decide +kernel) hk1.1 hk1.2 (by decide) (by decide +kernel) (show 1 = gm_na 20 by decide +kernel) (fw_c1 fw_si) (show 2 ≤ gm_ml 20 by decide +kernel) (Nat.le_of_ble_eq_true rfl) (by omega) (Nat.zero_le _) (Nat.zero_le _) ?_
    refine fd_c20 (t := t) (m := 1) (a := a) (f := f) hk1 e2 hr ⟨by omega, by omega⟩ (by decide) ?_
    show gm_Wp X LX d _ _ 19 25 _ [] n K R _ Q
    refine gm_sz (gm_p_load (pc := 25) (i := .aload_n 0) (sr := 2) (j := 0) (by decide +kernel) rfl rfl rfl) ?_
    refine gm_sz (gm_p_load (pc := 26) (i := .iload_n 3) (sr := 0) (j := 3) (by decide +kernel) rfl rfl rfl) ?_
    refine gm_c_virt (k := 1) (ci := 0) (mj := 20) (ix := 110) (pc := 27) (as := [gm_vi (a 2)]) (st := []) (d' := d - 1) (bc' := 0) (bs' := 0) (by decide +kernel) (by decide +kernel) (by decide +kernel) (by decide +kernel) hk1.1 hk1.2 (by decide) (by decide +kernel) (show 1 = gm_na 20 by decide +kernel) (fw_c1 fw_si) (show 2 ≤ gm_ml 20 by decide +kernel) (Nat.le_of_ble_eq_true rfl) (by omega) (Nat.zero_le _) (Nat.zero_le _) ?_
    refine fd_c20 (t := t) (m := 2) (a := a) (f := f) hk1 e2 hr ⟨by omega, by omega⟩ (by decide) ?_
    show gm_Wp X LX d _ _ 19 30 _ [] n K R _ Q
    refine gm_sz (gm_p_load (pc := 30) (i := .aload_n 0) (sr := 2) (j := 0) (by decide +kernel) rfl rfl rfl) ?_
    refine gm_sz (gm_p_load (pc := 31) (i := .iload 4) (sr := 0) (j := 4) (by decide +kernel) rfl rfl rfl) ?_
    refine gm_c_virt (k := 1) (ci := 0) (mj := 20) (ix := 110) (pc := 33) (as := [gm_vi (a 3)]) (st := []) (d' := d - 1) (bc' := 0) (bs' := 0) (by decide +kernel) (by decide +kernel) (by decide +kernel) (by decide +kernel) hk1.1 hk1.2 (by decide) (by decide +kernel) (show 1 = gm_na 20 by decide +kernel) (fw_c1 fw_si) (show 2 ≤ gm_ml 20 by decide +kernel) (Nat.le_of_ble_eq_true rfl) (by omega) (Nat.zero_le _) (Nat.zero_le _) ?_
    refine fd_c20 (t := t) (m := 3) (a := a) (f := f) hk1 e2 hr ⟨by omega, by omega⟩ (by decide) ?_
    show gm_Wp X LX d _ _ 19 36 _ [] n K R _ Q
    refine gm_sz (gm_p_load (pc := 36) (i := .aload_n 0) (sr := 2) (j := 0) (by decide +kernel) rfl rfl rfl) ?_
    refine gm_sz (gm_p_load (pc := 37) (i := .iload 5) (sr := 0) (j := 5) (by decide +kernel) rfl rfl rfl) ?_
    refine gm_c_virt (k := 1) (ci := 0) (mj := 20) (ix := 110) (pc := 39) (as := [gm_vi (a 4)]) (st := []) (d' := d - 1) (bc' := 0) (bs' := 0) (by decide +kernel) (by decide +kernel) (by decide +kernel) (by decide +kernel) hk1.1 hk1.2 (by decide) (by decide +kernel) (show 1 = gm_na 20 by decide +kernel) (fw_c1 fw_si) (show 2 ≤ gm_ml 20 by decide +kernel) (Nat.le_of_ble_eq_true rfl) (by omega) (Nat.zero_le _) (Nat.zero_le _) ?_
    refine fd_c20 (t := t) (m := 4) (a := a) (f := f) hk1 e2 hr ⟨by omega, by omega⟩ (by decide) ?_
    show gm_Wp X LX d _ _ 19 42 _ [] n K R _ Q
    refine gm_sz (gm_p_load (pc := 42) (i := .aload_n 0) (sr := 2) (j := 0) (by decide +kernel) rfl rfl rfl) ?_
    refine gm_sz (fw_gi (pc := 43) (ix := 13) (ci := 0) (j := 1) (x := t + (4 * 4 + 4)) (by decide +kernel) hk1 (by decide +kernel) (by decide +kernel) fe_1) ?_
    exact gm_r_int (pc := 46) (by decide +kernel) (Or.inl (by decide +kernel)) (h1 (by omega))
  · have j1 : ¬ (t + 20) ≤ 400 := j1
    refine gm_sz (gm_p_const (pc := 13) (i := .iconst (-1)) (v := gm_vi (-1)) (by decide +kernel) (by decide +kernel)) ?_
    exact gm_r_int (pc := 14) (by decide +kernel) (Or.inl (by decide +kernel)) (h0 (by omega))
/-- the reference's TAPE -/
noncomputable def ff (M : gm_M) (t : Int) (F V : Int → Int) : gm_M := fun b j => if b = 226 then (if j = 0 then 0 else if j = 8 then t else M b j) else if b = 231 then F j else if b = 232 then V j else M b j
variable {V : Int → Int}
theorem ff_8 : ff M T F V 226 ((8 : Nat) : Int) = T := by
  show ff M T F V 226 8 = T
  unfold ff
  rw [if_pos rfl, if_neg (by decide), if_pos rfl]
theorem ff_t : gm_uM (ff M T F V) 226 ((8 : Nat) : Int) x = ff M x F V := by
  show gm_uM (ff M T F V) 226 8 x = ff M x F V
  funext b j
  by_cases h1 : b = 226 <;> by_cases h2 : j = 8 <;> simp [gm_uM, ff, h1, h2]
theorem ff_p {j : Int} : gm_uM (ff M T F V) 231 j x = ff M T (fun i => if i = j then x else F i) V := by
  funext b i
  by_cases h1 : b = 231 <;> by_cases h2 : i = j <;> simp [gm_uM, ff, h1, h2]
theorem ff_v {j : Int} : gm_uM (ff M T F V) 232 j x = ff M T F (fun i => if i = j then x else V i) := by
  funext b i
  by_cases h1 : b = 232 <;> by_cases h2 : i = j <;> simp [gm_uM, ff, h1, h2]
theorem ff_0 : gm_uM M 226 ((0 : Nat) : Int) 0 = ff M (M 226 8) (M 231) (M 232) := by
  show gm_uM M 226 0 0 = _
  funext b j
  unfold gm_uM ff
  by_cases h1 : b = 226
  · subst h1
    by_cases h2 : j = 0
    · subst h2; simp
    · by_cases h3 : j = 8
      · subst h3; simp
      · simp [h2, h3]
  · by_cases h2 : b = 231
    · subst h2; simp
    · by_cases h3 : b = 232
      · subst h3; simp
      · simp [h1, h2, h3]
theorem ff_put {e k v : Int} (he : e = t + k) (hk : 0 ≤ k) (hv : v = fb (a (k / 4)) (k % 4)) : gm_uM (ff M T (fdc a t k f) V) 231 e v = ff M T (fdc a t (k + 1) f) V := by
  rw [ff_p, he, fdc_s hk hv]
theorem ff_by {k : Int} (h : 0 ≤ k) : gm_wb (gm_shr x (24 - 8 * (k % 4))) = fb x (k % 4) := by
  have h4 : k % 4 = 0 ∨ k % 4 = 1 ∨ k % 4 = 2 ∨ k % 4 = 3 := by omega
  rcases h4 with h4 | h4 | h4 | h4 <;> rw [h4]
  · exact fb0s
  · exact fb1s
  · exact fb2s
  · exact fb3s
theorem fd_l239 (hk : (1 ≤ 226 ∧ 226 ≤ n) ∧ (K 226).1 = 11 + 4) (e1 : (1 ≤ 231 ∧ 231 ≤ n) ∧ K 231 = (1, 400)) (e5 : (1 ≤ 232 ∧ 232 ≤ n) ∧ K 232 = (0, 5)) (hr1 : R 226 ((7 : Nat) : Int) = 231) (hr5 : R 226 ((14 : Nat) : Int) = 232) (ht : 0 ≤ t ∧ t ≤ 380) (hV : ∀ j : Int, 0 ≤ j ∧ j ≤ 4 → V j = a j) (hq : Q (.inl (some (gm_vi (t + 20)))) n K R (ff M (t + 20) (fdc a t 20 f) V)) : ∀ (u : Nat) (k : Int), k + u = 20 → 0 ≤ k → gm_Wp X LX d bc bs 239 60 [some (gm_vr 226), some (gm_vi (a 0)), some (gm_vi (a 1)), some (gm_vi (a 2)), some (gm_vi (a 3)), some (gm_vi (a 4)), some (gm_vi k)] [] n K R (ff M t (fdc a t k f) V) Q := by
  intro u
  induction u with
  | zero =>
    intro k hku hk0
    have hk20 : k = 20 := by omega
    subst hk20
    refine gm_sz (gm_p_load (pc := 60) (i := .iload 6) (sr := 0) (j := 6) (by decide +kernel) rfl rfl rfl) ?_
    refine gm_sz (gm_p_const (pc := 62) (i := .bipush 20) (v := gm_vi 20) (by decide +kernel) (by decide +kernel)) ?_
    refine fw_ictd (cc := .ge) (pc := 64) (off := 42) (by decide +kernel) (by decide) ⟨by decide, by decide⟩ ⟨by decide, by decide⟩ (by decide) ?_
    refine gm_sz (gm_p_load (pc := 106) (i := .aload_n 0) (sr := 2) (j := 0) (by decide +kernel) rfl rfl rfl) ?_
    refine gm_sz (gm_p_dup (pc := 107) (by decide +kernel) fw_sr) ?_
    refine gm_sz (fw_gi (pc := 108) (ix := 103) (ci := 11) (j := 8) (x := t) (by decide +kernel) hk (by decide +kernel) (by decide +kernel) ff_8) ?_
    refine gm_sz (gm_p_const (pc := 111) (i := .bipush 20) (v := gm_vi 20) (by decide +kernel) (by decide +kernel)) ?_
    refine gm_sz (gm_p_bin (pc := 113) (i := .iadd) (f := fun x y => x + y) (by decide +kernel) rfl) ?_
    refine gm_sz (fw_pi (pc := 114) (ix := 103) (ci := 11) (j := 8) (M' := ff M (t + 20) (fdc a t 20 f) V) (by decide +kernel) hk (by decide +kernel) (by decide +kernel) (by decide +kernel) ff_t) ?_
    refine gm_sz (gm_p_load (pc := 117) (i := .aload_n 0) (sr := 2) (j := 0) (by decide +kernel) rfl rfl rfl) ?_
    refine gm_sz (fw_gi (pc := 118) (ix := 103) (ci := 11) (j := 8) (x := t + 20) (by decide +kernel) hk (by decide +kernel) (by decide +kernel) ff_8) ?_
    exact gm_r_int (pc := 121) (by decide +kernel) (Or.inl (by decide +kernel)) hq
  | succ u ih =>
    intro k hku hk0
    refine gm_sz (gm_p_load (pc := 60) (i := .iload 6) (sr := 0) (j := 6) (by decide +kernel) rfl rfl rfl) ?_
    refine gm_sz (gm_p_const (pc := 62) (i := .bipush 20) (v := gm_vi 20) (by decide +kernel) (by decide +kernel)) ?_
    refine fw_icf (cc := .ge) (pc := 64) (off := 42) (by decide +kernel) (by decide) ⟨by omega, by omega⟩ ⟨by decide, by decide⟩ (show ¬ 20 ≤ k by omega) ?_
    refine gm_sz (gm_p_load (pc := 67) (i := .aload_n 0) (sr := 2) (j := 0) (by decide +kernel) rfl rfl rfl) ?_
    refine gm_sz (fw_gr (pc := 68) (ix := 26) (ci := 11) (j := 7) (r := 231) (by decide +kernel) hk (by decide +kernel) (by decide +kernel) hr1) ?_
    refine gm_sz (gm_p_load (pc := 71) (i := .aload_n 0) (sr := 2) (j := 0) (by decide +kernel) rfl rfl rfl) ?_
    refine gm_sz (fw_gi (pc := 72) (ix := 103) (ci := 11) (j := 8) (x := t) (by decide +kernel) hk (by decide +kernel) (by decide +kernel) ff_8) ?_
    refine gm_sz (gm_p_load (pc := 75) (i := .iload 6) (sr := 0) (j := 6) (by decide +kernel) rfl rfl rfl) ?_
    refine gm_sz (gm_p_bin (pc := 77) (i := .iadd) (f := fun x y => x + y) (by decide +kernel) rfl) ?_
    refine gm_sz (gm_p_load (pc := 78) (i := .aload_n 0) (sr := 2) (j := 0) (by decide +kernel) rfl rfl rfl) ?_
    refine gm_sz (fw_gr (pc := 79) (ix := 33) (ci := 11) (j := 14) (r := 232) (by decide +kernel) hk (by decide +kernel) (by decide +kernel) hr5) ?_
    refine gm_sz (gm_p_load (pc := 82) (i := .iload 6) (sr := 0) (j := 6) (by decide +kernel) rfl rfl rfl) ?_
    refine gm_sz (gm_p_const (pc := 84) (i := .iconst 4) (v := gm_vi 4) (by decide +kernel) (by decide +kernel)) ?_
    refine gm_sz (gm_p_div (pc := 85) (by decide +kernel) (by decide)) ?_
    rw [fw_div (a := k) (b := 4) (by omega) (by omega) (by decide)]
    refine gm_sz (fw_ia (pc := 86) (k := 232) (len := 5) (e0 := k / 4) (x := a (k / 4)) (by decide +kernel) (e5 : (1 ≤ 232 ∧ 232 ≤ n) ∧ K 232 = (0, 5)).1 (e5 : (1 ≤ 232 ∧ 232 ≤ n) ∧ K 232 = (0, 5)).2 (by decide) ⟨by omega, by omega⟩ (hV _ ⟨by omega, by omega⟩)) ?_
    refine gm_sz (gm_p_const (pc := 87) (i := .bipush 24) (v := gm_vi 24) (by decide +kernel) (by decide +kernel)) ?_
    refine gm_sz (gm_p_const (pc := 89) (i := .bipush 8) (v := gm_vi 8) (by decide +kernel) (by decide +kernel)) ?_
    refine gm_sz (gm_p_load (pc := 91) (i := .iload 6) (sr := 0) (j := 6) (by decide +kernel) rfl rfl rfl) ?_
    refine gm_sz (gm_p_const (pc := 93) (i := .iconst 4) (v := gm_vi 4) (by decide +kernel) (by decide +kernel)) ?_
    refine gm_sz (gm_p_rem (pc := 94) (by decide +kernel) (by decide)) ?_
    rw [fw_rem (a := k) (b := 4) (by omega) (by omega) (by decide)]
    refine gm_sz (gm_p_bin (pc := 95) (i := .imul) (f := fun x y => x * y) (by decide +kernel) rfl) ?_
    refine gm_sz (gm_p_bin (pc := 96) (i := .isub) (f := fun x y => x - y) (by decide +kernel) rfl) ?_
    refine gm_sz (gm_p_bin (pc := 97) (i := .ishr) (f := gm_shr) (by decide +kernel) rfl) ?_
    refine gm_sz (gm_p_un (pc := 98) (i := .i2b) (f := fun x => gm_wb x) (by decide +kernel) rfl) ?_
    refine gm_sz (fw_bs (pc := 99) (k := 231) (len := 400) (e0 := t + k) (x := gm_wb (gm_shr (a (k / 4)) (24 - (8 * (k % 4))))) (M' := ff M t (fdc a t (k + 1) f) V) (by decide +kernel) (e1 : (1 ≤ 231 ∧ 231 ≤ n) ∧ K 231 = (1, 400)).1 (e1 : (1 ≤ 231 ∧ 231 ≤ n) ∧ K 231 = (1, 400)).2 (by decide) ⟨by omega, by omega⟩ (ff_put (k := k) (a := a) (t := t) rfl (by omega) (wb_wb.trans (ff_by (by omega))))) ?_
    refine gm_sz (gm_p_iinc (pc := 100) (j := 6) (z := 1) (by decide +kernel) rfl) ?_
    refine gm_sz (gm_p_goto (pc := 103) (off := (-43)) (by decide +kernel) (by decide)) ?_
    exact ih (k + 1) (by omega) (by omega)
theorem fd_c239 (hk : (1 ≤ 226 ∧ 226 ≤ n) ∧ (K 226).1 = 11 + 4) (e1 : (1 ≤ 231 ∧ 231 ≤ n) ∧ K 231 = (1, 400)) (e5 : (1 ≤ 232 ∧ 232 ≤ n) ∧ K 232 = (0, 5)) (hr1 : R 226 ((7 : Nat) : Int) = 231) (hr5 : R 226 ((14 : Nat) : Int) = 232) (ht : 0 ≤ M 226 8 ∧ M 226 8 ≤ 400) (h0 : 381 ≤ M 226 8 → Q (.inl (some (gm_vi (-1)))) n K R (ff M (M 226 8) (M 231) (M 232))) (h1 : ∀ V, M 226 8 ≤ 380 → Q (.inl (some (gm_vi (M 226 8 + 20)))) n K R (ff M (M 226 8 + 20) (fdc a (M 226 8) 20 (M 231)) V)) : gm_Wp X LX d bc bs 239 0 (gm_ent 239 [gm_vr 226, gm_vi (a 0), gm_vi (a 1), gm_vi (a 2), gm_vi (a 3), gm_vi (a 4)]) [] n K R M Q := by
  refine gm_sz (gm_p_load (pc := 0) (i := .aload_n 0) (sr := 2) (j := 0) (by decide +kernel) rfl rfl rfl) ?_
  refine gm_sz (gm_p_const (pc := 1) (i := .iconst 0) (v := gm_vi 0) (by decide +kernel) (by decide +kernel)) ?_
  refine gm_sz (fw_pi (pc := 2) (ix := 3) (ci := 11) (j := 0) (M' := ff M (M 226 8) (M 231) (M 232)) (by decide +kernel) hk (by decide +kernel) (by decide +kernel) (by decide +kernel) ff_0) ?_
  refine gm_sz (gm_p_load (pc := 5) (i := .aload_n 0) (sr := 2) (j := 0) (by decide +kernel) rfl rfl rfl) ?_
  refine gm_sz (fw_gi (pc := 6) (ix := 103) (ci := 11) (j := 8) (x := M 226 8) (by decide +kernel) hk (by decide +kernel) (by decide +kernel) ff_8) ?_
  refine gm_sz (gm_p_const (pc := 9) (i := .bipush 20) (v := gm_vi 20) (by decide +kernel) (by decide +kernel)) ?_
  refine gm_sz (gm_p_bin (pc := 11) (i := .iadd) (f := fun x y => x + y) (by decide +kernel) rfl) ?_
  refine gm_sz (gm_p_const (pc := 12) (i := .sipush 400) (v := gm_vi 400) (by decide +kernel) (by decide +kernel)) ?_
  refine fw_ic (cc := .le) (pc := 15) (off := 5) (by decide +kernel) (by decide) ⟨by omega, by omega⟩ ⟨by decide, by decide⟩ (fun j1 => ?_) (fun j1 => ?_)
  · have j1 : ((M 226 8) + 20) ≤ 400 := j1
    refine gm_sz (gm_p_load (pc := 20) (i := .aload_n 0) (sr := 2) (j := 0) (by decide +kernel) rfl rfl rfl) ?_
    refine gm_sz (fw_gr (pc := 21) (ix := 33) (ci := 11) (j := 14) (r := 232) (by decide +kernel) hk (by decide +kernel) (by decide +kernel) hr5) ?_
    refine gm_sz (gm_p_const (pc := 24) (i := .iconst 0) (v := gm_vi 0) (by decide +kernel) (by decide +kernel)) ?_
    refine gm_sz (gm_p_load (pc := 25) (i := .iload_n 1) (sr := 0) (j := 1) (by decide +kernel) rfl rfl rfl) ?_
    refine gm_sz (fw_is (pc := 26) (k := 232) (len := 5) (e0 := 0) (x := a 0) (M' := ff M (M 226 8) (M 231) (fun t9 => if t9 = 0 then a 0 else (M 232) t9)) (by decide +kernel) (e5 : (1 ≤ 232 ∧ 232 ≤ n) ∧ K 232 = (0, 5)).1 (e5 : (1 ≤ 232 ∧ 232 ≤ n) ∧ K 232 = (0, 5)).2 (by decide) ⟨by omega, by omega⟩ ff_v) ?_
    refine gm_sz (gm_p_load (pc := 27) (i := .aload_n 0) (sr := 2) (j := 0) (by decide +kernel) rfl rfl rfl) ?_
    refine gm_sz (fw_gr (pc := 28) (ix := 33) (ci := 11) (j := 14) (r := 232) (by decide +kernel) hk (by decide +kernel) (by decide +kernel) hr5) ?_
    refine gm_sz (gm_p_const (pc := 31) (i := .iconst 1) (v := gm_vi 1) (by decide +kernel) (by decide +kernel)) ?_
    refine gm_sz (gm_p_load (pc := 32) (i := .iload_n 2) (sr := 0) (j := 2) (by decide +kernel) rfl rfl rfl) ?_
    refine gm_sz (fw_is (pc := 33) (k := 232) (len := 5) (e0 := 1) (x := a 1) (M' := ff M (M 226 8) (M 231) (fun t9 => if t9 = 1 then a 1 else (fun t9 => if t9 = 0 then a 0 else (M 232) t9) t9)) (by decide +kernel) (e5 : (1 ≤ 232 ∧ 232 ≤ n) ∧ K 232 = (0, 5)).1 (e5 : (1 ≤ 232 ∧ 232 ≤ n) ∧ K 232 = (0, 5)).2 (by decide) ⟨by omega, by omega⟩ ff_v) ?_
    refine gm_sz (gm_p_load (pc := 34) (i := .aload_n 0) (sr := 2) (j := 0) (by decide +kernel) rfl rfl rfl) ?_
    refine gm_sz (fw_gr (pc := 35) (ix := 33) (ci := 11) (j := 14) (r := 232) (by decide +kernel) hk (by decide +kernel) (by decide +kernel) hr5) ?_
    refine gm_sz (gm_p_const (pc := 38) (i := .iconst 2) (v := gm_vi 2) (by decide +kernel) (by decide +kernel)) ?_
    refine gm_sz (gm_p_load (pc := 39) (i := .iload_n 3) (sr := 0) (j := 3) (by decide +kernel) rfl rfl rfl) ?_
    refine gm_sz (fw_is (pc := 40) (k := 232) (len := 5) (e0 := 2) (x := a 2) (M' := ff M (M 226 8) (M 231) (fun t9 => if t9 = 2 then a 2 else (fun t9 => if t9 = 1 then a 1 else (fun t9 => if t9 = 0 then a 0 else (M 232) t9) t9) t9)) (by decide +kernel) (e5 : (1 ≤ 232 ∧ 232 ≤ n) ∧ K 232 = (0, 5)).1 (e5 : (1 ≤ 232 ∧ 232 ≤ n) ∧ K 232 = (0, 5)).2 (by decide) ⟨by omega, by omega⟩ ff_v) ?_
    refine gm_sz (gm_p_load (pc := 41) (i := .aload_n 0) (sr := 2) (j := 0) (by decide +kernel) rfl rfl rfl) ?_
    refine gm_sz (fw_gr (pc := 42) (ix := 33) (ci := 11) (j := 14) (r := 232) (by decide +kernel) hk (by decide +kernel) (by decide +kernel) hr5) ?_
    refine gm_sz (gm_p_const (pc := 45) (i := .iconst 3) (v := gm_vi 3) (by decide +kernel) (by decide +kernel)) ?_
    refine gm_sz (gm_p_load (pc := 46) (i := .iload 4) (sr := 0) (j := 4) (by decide +kernel) rfl rfl rfl) ?_
    refine gm_sz (fw_is (pc := 48) (k := 232) (len := 5) (e0 := 3) (x := a 3) (M' := ff M (M 226 8) (M 231) (fun t9 => if t9 = 3 then a 3 else (fun t9 => if t9 = 2 then a 2 else (fun t9 => if t9 = 1 then a 1 else (fun t9 => if t9 = 0 then a 0 else (M 232) t9) t9) t9) t9)) (by decide +kernel) (e5 : (1 ≤ 232 ∧ 232 ≤ n) ∧ K 232 = (0, 5)).1 (e5 : (1 ≤ 232 ∧ 232 ≤ n) ∧ K 232 = (0, 5)).2 (by decide) ⟨by omega, by omega⟩ ff_v) ?_
    refine gm_sz (gm_p_load (pc := 49) (i := .aload_n 0) (sr := 2) (j := 0) (by decide +kernel) rfl rfl rfl) ?_
    refine gm_sz (fw_gr (pc := 50) (ix := 33) (ci := 11) (j := 14) (r := 232) (by decide +kernel) hk (by decide +kernel) (by decide +kernel) hr5) ?_
    refine gm_sz (gm_p_const (pc := 53) (i := .iconst 4) (v := gm_vi 4) (by decide +kernel) (by decide +kernel)) ?_
    refine gm_sz (gm_p_load (pc := 54) (i := .iload 5) (sr := 0) (j := 5) (by decide +kernel) rfl rfl rfl) ?_
    refine gm_sz (fw_is (pc := 56) (k := 232) (len := 5) (e0 := 4) (x := a 4) (M' := ff M (M 226 8) (M 231) (fun t9 => if t9 = 4 then a 4 else (fun t9 => if t9 = 3 then a 3 else (fun t9 => if t9 = 2 then a 2 else (fun t9 => if t9 = 1 then a 1 else (fun t9 => if t9 = 0 then a 0 else (M 232) t9) t9) t9) t9) t9)) (by decide +kernel) (e5 : (1 ≤ 232 ∧ 232 ≤ n) ∧ K 232 = (0, 5)).1 (e5 : (1 ≤ 232 ∧ 232 ≤ n) ∧ K 232 = (0, 5)).2 (by decide) ⟨by omega, by omega⟩ ff_v) ?_
    refine gm_sz (gm_p_const (pc := 57) (i := .iconst 0) (v := gm_vi 0) (by decide +kernel) (by decide +kernel)) ?_
    refine gm_sz (gm_p_stor (pc := 58) (i := .istore 6) (sr := 0) (j := 6) (by decide +kernel) rfl (show 7 ≤ _ from Nat.le_of_ble_eq_true rfl) rfl) ?_
    have hV9 : ∀ j : Int, 0 ≤ j ∧ j ≤ 4 → (fun t9 => if t9 = 4 then a 4 else (fun t9 => if t9 = 3 then a 3 else (fun t9 => if t9 = 2 then a 2 else (fun t9 => if t9 = 1 then a 1 else (fun t9 => if t9 = 0 then a 0 else (M 232) t9) t9) t9) t9) t9) j = a j := fun j hj => by
      have hj5 : j = 0 ∨ j = 1 ∨ j = 2 ∨ j = 3 ∨ j = 4 := by omega
      rcases hj5 with rfl | rfl | rfl | rfl | rfl <;> rfl
    have q := fd_l239 (X := X) (LX := LX) (d := d) (bc := bc) (bs := bs) (Q := Q) (t := M 226 8) (a := a) (f := M 231) (V := (fun t9 => if t9 = 4 then a 4 else (fun t9 => if t9 = 3 then a 3 else (fun t9 => if t9 = 2 then a 2 else (fun t9 => if t9 = 1 then a 1 else (fun t9 => if t9 = 0 then a 0 else (M 232) t9) t9) t9) t9) t9)) hk e1 e5 hr1 hr5 ⟨by omega, by omega⟩ hV9 (h1 _ (by omega)) 20 0 (by decide) (Int.le_refl _)
    rw [fdc_0] at q
    exact q
  · have j1 : ¬ ((M 226 8) + 20) ≤ 400 := j1
    refine gm_sz (gm_p_const (pc := 18) (i := .iconst (-1)) (v := gm_vi (-1)) (by decide +kernel) (by decide +kernel)) ?_
    exact gm_r_int (pc := 19) (by decide +kernel) (Or.inl (by decide +kernel)) (h0 (by omega))
end FD
end
/-! 79o.ca -/
section
/-! A CALL, BY ITS ROW AND BY A JUDGEMENT OF ITS OWN that tells what it answers. -/
theorem dt_w {x y : Int} (h : Int32.ofInt x = Int32.ofInt y) : gm_w x = gm_w y := by
  have h2 := congrArg Int32.toInt h
  rwa [gm_w_toInt, gm_w_toInt] at h2
theorem dt_w6 {x y : Int} (h : Int64.ofInt x = Int64.ofInt y) : gm_w6 x = gm_w6 y := by
  have h2 := congrArg Int64.toInt h
  rwa [gm_w6_toInt, gm_w6_toInt] at h2
section CAA
variable {X : Int → Int} {LX : Nat} {O : gm_Or} {g z g1 : Nat} {la : Nat → Nat} {K K' K1 : gm_K} {R R' : gm_R} {M M' M1 : gm_M} {S : ck_Sum}
end CAA
/-! A TAPE'S BYTES beyond its end are nobody's. -/
theorem nM_at {D : va_G} {ti : Nat → ClassId} {α : Nat → Nat} {k a c len : Nat} {K : gm_K} {R : gm_R} {M M' : gm_M} {H : Heap} (hc : K c = (1, len)) (h : ∀ k j, ¬ k = c → M' k j = M k j) (h2 : ∀ j : Nat, j < len → M' c (j : Int) = M c (j : Int)) (hat : va_at D gm_cs (a, gm_en ti α K R M k) H) : va_at D gm_cs (a, gm_en ti α K R M' k) H := by
  by_cases e : k = c
  · subst e
    have e1 : ∀ M : gm_M, gm_en ti α K R M k = .inl (ti 1, len, .inl fun j => Int32.ofInt (M k j)) := fun M => by unfold gm_en; rw [hc]
    rw [e1] at hat ⊢
    have hat : H[a]? = some (arrV (ti 1) len (fun j => .int (Int32.ofInt (M k (j : Int))))) := hat
    show H[a]? = some (arrV (ti 1) len (fun j => .int (Int32.ofInt (M' k (j : Int)))))
    rw [hat]
    unfold arrV
    congr 3
    funext j
    show Value.int (Int32.ofInt (M k ((j.val : Nat) : Int))) = Value.int (Int32.ofInt (M' k ((j.val : Nat) : Int)))
    rw [h2 j.val j.isLt]
  · have e2 : gm_en ti α K R M' k = gm_en ti α K R M k := bg_en rfl (fun j => h k j e) (fun _ => rfl)
    rw [e2]
    exact hat
theorem gm_Wp_nM {X : Int → Int} {LX d bc bs mi pc n c len : Nat} {L : gm_L} {st : List gm_V} {K : gm_K} {R : gm_R} {M M' : gm_M} {Q : gm_Q} (hc : K c = (1, len)) (h : ∀ k j, ¬ k = c → M' k j = M k j) (h0 : ∀ j : Nat, j < len → M' c (j : Int) = M c (j : Int)) (hw : gm_Wp X LX d bc bs mi pc L st n K R M' Q) : gm_Wp X LX d bc bs mi pc L st n K R M Q := by
  intro p l e Rm s m args below meth c9 D ti adK adV A α0 n0 mc ms h1 h2 h3 h4 h5 h6 h7 α H locs cells slots ls sv h8 h9 h10 hR h12 h13
  refine hw p l e Rm s m args below meth c9 D ti adK adV A α0 n0 mc ms h1 h2 h3 h4 h5 h6 h7 α H locs cells slots ls sv h8 h9 h10 ?_ h12 h13
  obtain ⟨a1, a2, a3, a4, a5⟩ := hR
  refine ⟨a1, fun k q hq => ?_, ⟨fun i j p q hp hq e => ?_, fun k q hq => ?_⟩, a4, a5⟩
  · obtain ⟨b1, rfl⟩ := gm_wl_get hq
    exact nM_at hc h h0 (a2 k _ (gm_wl_at (k := k + 1) (by omega) b1))
  · obtain ⟨b1, rfl⟩ := gm_wl_get hp
    obtain ⟨c1, rfl⟩ := gm_wl_get hq
    exact a3.1 i j _ _ (gm_wl_at (k := i + 1) (by omega) b1) (gm_wl_at (k := j + 1) (by omega) c1) e
  · obtain ⟨b1, rfl⟩ := gm_wl_get hq
    have := a3.2 k _ (gm_wl_at (ti := ti) (α := α) (K := K) (R := R) (M := M) (k := k + 1) (by omega) b1)
    exact this
end
/-! 7a00.c0ev -/
section
/-! THE CORE: what never changes, what a stretch leaves alone (laid by wip/core/c0.py). -/
noncomputable def E0 (n : Nat) (K : gm_K) (R : gm_R) : Prop := (∀ k q, p2_O.1 k = some q → (1 ≤ k ∧ k ≤ n) ∧ K k = q) ∧ ∀ k j r, p2_O.2.1 k j = some r → R k j = r
noncomputable def cstL : List (Nat × Int × Int) := [(4, 0, 8), (4, 1, 7), (6, 0, 8), (6, 1, 3), (8, 0, 8), (8, 1, 3), (10, 0, 24), (10, 1, 7), (12, 0, 6), (12, 1, 6), (14, 0, 24), (14, 1, 3), (17, 0, 8), (17, 1, 7), (19, 0, 8), (19, 1, 3), (21, 0, 8), (21, 1, 3), (23, 0, 24), (23, 1, 7), (25, 0, 6), (25, 1, 6), (27, 0, 24), (27, 1, 3), (30, 0, 8), (30, 1, 7), (32, 0, 8), (32, 1, 3), (34, 0, 8), (34, 1, 3), (36, 0, 24), (36, 1, 7), (38, 0, 6), (38, 1, 6), (40, 0, 24), (40, 1, 3), (45, 0, 8), (45, 1, 7), (47, 0, 8), (47, 1, 3), (49, 0, 8), (49, 1, 3), (51, 0, 24), (51, 1, 7), (53, 0, 6), (53, 1, 6), (55, 0, 24), (55, 1, 3), (58, 0, 8), (58, 1, 7), (60, 0, 8), (60, 1, 3), (62, 0, 8), (62, 1, 3), (64, 0, 24), (64, 1, 7), (66, 0, 6), (66, 1, 6), (68, 0, 24), (68, 1, 3), (71, 0, 8), (71, 1, 7), (73, 0, 8), (73, 1, 3), (75, 0, 8), (75, 1, 3), (77, 0, 24), (77, 1, 7), (79, 0, 6), (79, 1, 6), (81, 0, 24), (81, 1, 3), (84, 0, 8), (84, 1, 7), (86, 0, 8), (86, 1, 3), (88, 0, 8), (88, 1, 3), (90, 0, 24), (90, 1, 7), (92, 0, 6), (92, 1, 6), (94, 0, 24), (94, 1, 3), (97, 0, 8), (97, 1, 7), (99, 0, 8), (99, 1, 3), (101, 0, 8), (101, 1, 3), (103, 0, 24), (103, 1, 7), (105, 0, 6), (105, 1, 6), (107, 0, 24), (107, 1, 3), (110, 0, 8), (110, 1, 7), (112, 0, 8), (112, 1, 3), (114, 0, 8), (114, 1, 3), (116, 0, 24), (116, 1, 7), (118, 0, 6), (118, 1, 6), (120, 0, 24), (120, 1, 3), (123, 0, 8), (123, 1, 7), (125, 0, 8), (125, 1, 3), (127, 0, 8), (127, 1, 3), (129, 0, 24), (129, 1, 7), (131, 0, 6), (131, 1, 6), (133, 0, 24), (133, 1, 3), (136, 0, 8), (136, 1, 7), (138, 0, 8), (138, 1, 3), (140, 0, 8), (140, 1, 3), (142, 0, 24), (142, 1, 7), (144, 0, 6), (144, 1, 6), (146, 0, 24), (146, 1, 3), (149, 0, 8), (149, 1, 7), (151, 0, 8), (151, 1, 3), (153, 0, 8), (153, 1, 3), (155, 0, 24), (155, 1, 7), (157, 0, 6), (157, 1, 6), (159, 0, 24), (159, 1, 3), (162, 0, 8), (162, 1, 7), (164, 0, 8), (164, 1, 3), (166, 0, 8), (166, 1, 3), (168, 0, 24), (168, 1, 7), (170, 0, 6), (170, 1, 6), (172, 0, 24), (172, 1, 3), (175, 0, 8), (175, 1, 7), (177, 0, 8), (177, 1, 3), (179, 0, 8), (179, 1, 3), (181, 0, 24), (181, 1, 7), (183, 0, 6), (183, 1, 6), (185, 0, 24), (185, 1, 3), (188, 0, 8), (188, 1, 7), (190, 0, 8), (190, 1, 3), (192, 0, 8), (192, 1, 3), (194, 0, 24), (194, 1, 7), (196, 0, 6), (196, 1, 6), (198, 0, 24), (198, 1, 3), (209, 0, 8), (209, 1, 300), (211, 0, 8), (211, 1, 300), (217, 0, 12), (217, 1, 4), (220, 0, 24), (220, 1, 2), (222, 0, 30), (222, 1, 6), (224, 0, 31), (224, 1, 6)]
noncomputable def CST (M : gm_M) : Prop := ∀ q ∈ cstL, M q.1 q.2.1 = q.2.2
theorem cst_e : cstL.all (fun q => decide (gm_tyr p2_O q.1 q.2.1 q.2.1 = some (q.2.2, q.2.2))) = true := by decide +kernel
/-- what may be written: whole cells, single places -/
noncomputable def fr (W : List (Nat × Option Int)) (M M2 : gm_M) : Prop := ∀ c j, ¬ (c, none) ∈ W → ¬ (c, some j) ∈ W → M2 c j = M c j
section EV
variable {n : Nat} {K : gm_K} {R : gm_R} {M M1 M2 : gm_M} {W W2 : List (Nat × Option Int)}
theorem e0F (hF : gm_Fx p2_O n K R M) : E0 n K R := ⟨fun k q h => ⟨⟨(hF.1 k q h).1, (hF.1 k q h).2.1⟩, (hF.1 k q h).2.2⟩, fun k j r h => (hF.2.1 k j r h).2⟩
theorem e0k (h : E0 n K R) {k c : Nat} (hq : p2_O.1 k = some (c + 4, 0)) : (1 ≤ k ∧ k ≤ n) ∧ (K k).1 = c + 4 := ⟨(h.1 k _ hq).1, by rw [(h.1 k _ hq).2]⟩
theorem e0a (h : E0 n K R) {k : Nat} {q : Nat × Nat} (hq : p2_O.1 k = some q) : (1 ≤ k ∧ k ≤ n) ∧ K k = q := h.1 k q hq
theorem e0r (h : E0 n K R) {k j r : Nat} (hq : p2_O.2.1 k (j : Int) = some r) : R k (j : Int) = r := h.2 k _ r hq
theorem e0u (h : E0 n K R) {k r : Nat} {j : Int} (hn : p2_O.2.1 k j = none) : E0 n K (gm_uR R k j r) := by
  refine ⟨h.1, fun a b s hs => ?_⟩
  unfold gm_uR
  rw [if_neg]
  · exact h.2 a b s hs
  · rintro ⟨rfl, rfl⟩
    rw [hn] at hs
    cases hs
theorem cstF (hF : gm_Fx p2_O n K R M) : CST M := by
  intro q hq
  have h := of_decide_eq_true (List.all_eq_true.mp cst_e q hq)
  have := ((gm_tyr_s hF h).2 q.2.1 (Int.le_refl _) (Int.le_refl _)).2
  omega
theorem fr_0 : fr W M M := fun _ _ _ _ => rfl
theorem fr_c (h : fr W M M2) {c : Nat} {j : Int} (hc : W.all (fun w => !(w.1 == c)) = true) : M2 c j = M c j := by
  refine h c j (fun hm => ?_) (fun hm => ?_)
  · have := List.all_eq_true.mp hc _ hm
    simp at this
  · have := List.all_eq_true.mp hc _ hm
    simp at this
theorem fr_j (h : fr W M M2) {c : Nat} {j : Int} (hc : W.all (fun w => !(w.1 == c) || !(w.2 == none || w.2 == some j)) = true) : M2 c j = M c j := by
  refine h c j (fun hm => ?_) (fun hm => ?_)
  · have := List.all_eq_true.mp hc _ hm
    simp at this
  · have := List.all_eq_true.mp hc _ hm
    simp at this
theorem fr_p (h : fr W M M1) {k : Nat} {j v : Int} (hm : (k, none) ∈ W ∨ (k, some j) ∈ W) : fr W M (gm_uM M1 k j v) := by
  intro c i h1 h2
  rw [uM_ne]
  · exact h c i h1 h2
  · rintro ⟨rfl, rfl⟩
    rcases hm with hm | hm
    · exact h1 hm
    · exact h2 hm
theorem fr_t (h : fr W M M1) (h2 : fr W2 M1 M2) (hs : W2.all (fun w => W.any (fun v => v.1 == w.1 && (v.2 == none || v.2 == w.2))) = true) : fr W M M2 := by
  have key : ∀ w, w ∈ W2 → (w.1, none) ∈ W ∨ w ∈ W := fun w hw => by
    obtain ⟨v, hv, he⟩ := List.any_eq_true.mp (List.all_eq_true.mp hs w hw)
    obtain ⟨v1, v2⟩ := v
    obtain ⟨w1, w2⟩ := w
    simp only [Bool.and_eq_true, Bool.or_eq_true, beq_iff_eq] at he
    obtain ⟨rfl, rfl | rfl⟩ := he
    · exact Or.inl hv
    · exact Or.inr hv
  intro c j h3 h4
  rw [h2 c j (fun hm => (key _ hm).elim (fun h => h3 h) (fun h => h3 h)) (fun hm => (key _ hm).elim (fun h => h3 h) (fun h => h4 h))]
  exact h c j h3 h4
theorem cst_fr (hC : CST M) (h : fr W M M2) (hw : W.all (fun w => cstL.all (fun q => !(q.1 == w.1 && (w.2 == none || w.2 == some q.2.1)))) = true) : CST M2 := by
  intro q hq
  rw [h q.1 q.2.1 (fun hm => ?_) (fun hm => ?_)]
  · exact hC q hq
  · have := List.all_eq_true.mp (List.all_eq_true.mp hw _ hm) q hq
    simp at this
  · have := List.all_eq_true.mp (List.all_eq_true.mp hw _ hm) q hq
    simp at this
theorem fw_pz {X : Int → Int} {LX d mi pc : Nat} {L : gm_L} {st : List gm_V} {ix k ci j : Nat} {x : Int} {M' : gm_M} (h : gm_at mi pc = some (.putfield ix)) (hk : (1 ≤ k ∧ k ≤ n) ∧ (K k).1 = ci + 4) (hf : gm_fld (gm_ow mi) ix ci = some j) (hm : gm_may mi ci j = true) (hfit : gm_fk ci j = 1) (hz : x = 0 ∨ x = 1) (hM : gm_uM M k (j : Int) x = M') : gm_Sp X LX d mi pc L (gm_vi x :: gm_vr k :: st) n K R M (pc + 3) L st n K R M' 0 0 := by
  rw [← hM]
  exact gm_p_puti h hk.1 hk.2 hf hm (Or.inr ⟨hfit, hz⟩)
theorem fw_c4 {a b c e : gm_V} (h1 : ¬ gm_sort a = 1) (h2 : ¬ gm_sort b = 1) (h3 : ¬ gm_sort c = 1) (h4 : ¬ gm_sort e = 1) : ∀ v ∈ [a, b, c, e], ¬ gm_sort v = 1 := fun v hv => by
  rcases List.mem_cons.mp hv with rfl | hv
  · exact h1
  · exact fw_c3 h2 h3 h4 v hv
theorem fw_c5 {a b c e f : gm_V} (h1 : ¬ gm_sort a = 1) (h2 : ¬ gm_sort b = 1) (h3 : ¬ gm_sort c = 1) (h4 : ¬ gm_sort e = 1) (h5 : ¬ gm_sort f = 1) : ∀ v ∈ [a, b, c, e, f], ¬ gm_sort v = 1 := fun v hv => by
  rcases List.mem_cons.mp hv with rfl | hv
  · exact h1
  · exact fw_c4 h2 h3 h4 h5 v hv
end EV
section RWS
variable {X : Int → Int} {LX d bc bs n : Nat} {K : gm_K} {R : gm_R} {M : gm_M} {Q : gm_Q} {c a len : Nat} {s w row col x v m : Int}
theorem rw_get (hk : (1 ≤ c ∧ c ≤ n) ∧ (K c).1 = 2 + 4) (ha : (1 ≤ a ∧ a ≤ n) ∧ K a = (0, len)) (hr : R c ((2 : Nat) : Int) = a) (hl : len < 2147483648) (hs : M c 3 = s) (hw : M c 1 = w) (h1 : 0 ≤ row ∧ row < s) (h2 : 0 ≤ col ∧ col < w) (hi : 0 ≤ row * w + col ∧ row * w + col < len) (hb : s ≤ 100000 ∧ w ≤ 100000) (hx : M a (row * w + col) = x) (hq : Q (.inl (some (gm_vi x))) n K R M) : gm_Wp X LX d bc bs 10 0 (gm_ent 10 [gm_vr c, gm_vi row, gm_vi col]) [] n K R M Q := by
  refine gm_sz (gm_p_load (pc := 0) (i := .iload_n 1) (sr := 0) (j := 1) (by decide +kernel) rfl rfl rfl) ?_
  refine fw_iff (cc := .lt) (pc := 1) (off := 23) (by decide +kernel) (by decide) ⟨by omega, by omega⟩ (show ¬ row < 0 by omega) ?_
  refine gm_sz (gm_p_load (pc := 4) (i := .iload_n 1) (sr := 0) (j := 1) (by decide +kernel) rfl rfl rfl) ?_
  refine gm_sz (gm_p_load (pc := 5) (i := .aload_n 0) (sr := 2) (j := 0) (by decide +kernel) rfl rfl rfl) ?_
  refine gm_sz (fw_gi (pc := 6) (ix := 9) (ci := 2) (j := 3) (x := s) (by decide +kernel) hk (by decide +kernel) (by decide +kernel) hs) ?_
  refine fw_icf (cc := .ge) (pc := 9) (off := 15) (by decide +kernel) (by decide) ⟨by omega, by omega⟩ ⟨by omega, by omega⟩ (show ¬ s ≤ row by omega) ?_
  refine gm_sz (gm_p_load (pc := 12) (i := .iload_n 2) (sr := 0) (j := 2) (by decide +kernel) rfl rfl rfl) ?_
  refine fw_iff (cc := .lt) (pc := 13) (off := 11) (by decide +kernel) (by decide) ⟨by omega, by omega⟩ (show ¬ col < 0 by omega) ?_
  refine gm_sz (gm_p_load (pc := 16) (i := .iload_n 2) (sr := 0) (j := 2) (by decide +kernel) rfl rfl rfl) ?_
  refine gm_sz (gm_p_load (pc := 17) (i := .aload_n 0) (sr := 2) (j := 0) (by decide +kernel) rfl rfl rfl) ?_
  refine gm_sz (fw_gi (pc := 18) (ix := 18) (ci := 2) (j := 1) (x := w) (by decide +kernel) hk (by decide +kernel) (by decide +kernel) hw) ?_
  refine fw_ict (cc := .lt) (pc := 21) (off := 5) (by decide +kernel) (by decide) ⟨by omega, by omega⟩ ⟨by omega, by omega⟩ (show col < w by omega) ?_
  refine gm_sz (gm_p_load (pc := 26) (i := .aload_n 0) (sr := 2) (j := 0) (by decide +kernel) rfl rfl rfl) ?_
  refine gm_sz (fw_gr (pc := 27) (ix := 21) (ci := 2) (j := 2) (r := a) (by decide +kernel) hk (by decide +kernel) (by decide +kernel) hr) ?_
  refine gm_sz (gm_p_load (pc := 30) (i := .iload_n 1) (sr := 0) (j := 1) (by decide +kernel) rfl rfl rfl) ?_
  refine gm_sz (gm_p_load (pc := 31) (i := .aload_n 0) (sr := 2) (j := 0) (by decide +kernel) rfl rfl rfl) ?_
  refine gm_sz (fw_gi (pc := 32) (ix := 18) (ci := 2) (j := 1) (x := w) (by decide +kernel) hk (by decide +kernel) (by decide +kernel) hw) ?_
  refine gm_sz (gm_p_bin (pc := 35) (i := .imul) (f := fun x y => x * y) (by decide +kernel) rfl) ?_
  refine gm_sz (gm_p_load (pc := 36) (i := .iload_n 2) (sr := 0) (j := 2) (by decide +kernel) rfl rfl rfl) ?_
  refine gm_sz (gm_p_bin (pc := 37) (i := .iadd) (f := fun x y => x + y) (by decide +kernel) rfl) ?_
  refine gm_sz (fw_ia (pc := 38) (k := a) (len := len) (e0 := (row * w) + col) (x := x) (by decide +kernel) ha.1 ha.2 (by omega) ⟨by omega, by omega⟩ hx) ?_
  exact gm_r_int (pc := 39) (by decide +kernel) (Or.inl (by decide +kernel)) hq
theorem rw_none (hk : (1 ≤ c ∧ c ≤ n) ∧ (K c).1 = 2 + 4) (hs : M c 3 = s) (h1 : row < 0 ∨ s ≤ row) (hb : gm_ir row ∧ gm_ir s) (hq : Q (.inl (some (gm_vi (-1)))) n K R M) : gm_Wp X LX d bc bs 10 0 (gm_ent 10 [gm_vr c, gm_vi row, gm_vi col]) [] n K R M Q := by
  obtain ⟨⟨r1, r2⟩, s1, s2⟩ := hb
  refine gm_sz (gm_p_load (pc := 0) (i := .iload_n 1) (sr := 0) (j := 1) (by decide +kernel) rfl rfl rfl) ?_
  refine fw_if (cc := .lt) (pc := 1) (off := 23) (by decide +kernel) (by decide) ⟨by omega, by omega⟩ (fun h1 => ?_) (fun h1 => ?_)
  · have h1 : row < 0 := h1
    refine gm_sz (gm_p_const (pc := 24) (i := .iconst (-1)) (v := gm_vi (-1)) (by decide +kernel) (by decide +kernel)) ?_
    exact gm_r_int (pc := 25) (by decide +kernel) (Or.inl (by decide +kernel)) hq
  · have h1 : ¬ row < 0 := h1
    refine gm_sz (gm_p_load (pc := 4) (i := .iload_n 1) (sr := 0) (j := 1) (by decide +kernel) rfl rfl rfl) ?_
    refine gm_sz (gm_p_load (pc := 5) (i := .aload_n 0) (sr := 2) (j := 0) (by decide +kernel) rfl rfl rfl) ?_
    refine gm_sz (fw_gi (pc := 6) (ix := 9) (ci := 2) (j := 3) (x := s) (by decide +kernel) hk (by decide +kernel) (by decide +kernel) hs) ?_
    refine fw_ict (cc := .ge) (pc := 9) (off := 15) (by decide +kernel) (by decide) ⟨by omega, by omega⟩ ⟨by omega, by omega⟩ (show s ≤ row by omega) ?_
    refine gm_sz (gm_p_const (pc := 24) (i := .iconst (-1)) (v := gm_vi (-1)) (by decide +kernel) (by decide +kernel)) ?_
    exact gm_r_int (pc := 25) (by decide +kernel) (Or.inl (by decide +kernel)) hq
theorem rw_put (hk : (1 ≤ c ∧ c ≤ n) ∧ (K c).1 = 2 + 4) (ha : (1 ≤ a ∧ a ≤ n) ∧ K a = (0, len)) (hr : R c ((2 : Nat) : Int) = a) (hl : len < 2147483648) (hs : M c 3 = s) (hw : M c 1 = w) (h1 : 0 ≤ row ∧ row < s) (h2 : 0 ≤ col ∧ col < w) (hi : 0 ≤ row * w + col ∧ row * w + col < len) (hb : s ≤ 100000 ∧ w ≤ 100000) (hq : Q (.inl none) n K R (gm_uM M a (row * w + col) v)) : gm_Wp X LX d bc bs 45 0 (gm_ent 45 [gm_vr c, gm_vi row, gm_vi col, gm_vi v]) [] n K R M Q := by
  refine gm_sz (gm_p_load (pc := 0) (i := .iload_n 1) (sr := 0) (j := 1) (by decide +kernel) rfl rfl rfl) ?_
  refine fw_iff (cc := .lt) (pc := 1) (off := 37) (by decide +kernel) (by decide) ⟨by omega, by omega⟩ (show ¬ row < 0 by omega) ?_
  refine gm_sz (gm_p_load (pc := 4) (i := .iload_n 1) (sr := 0) (j := 1) (by decide +kernel) rfl rfl rfl) ?_
  refine gm_sz (gm_p_load (pc := 5) (i := .aload_n 0) (sr := 2) (j := 0) (by decide +kernel) rfl rfl rfl) ?_
  refine gm_sz (fw_gi (pc := 6) (ix := 9) (ci := 2) (j := 3) (x := s) (by decide +kernel) hk (by decide +kernel) (by decide +kernel) hs) ?_
  refine fw_icf (cc := .ge) (pc := 9) (off := 29) (by decide +kernel) (by decide) ⟨by omega, by omega⟩ ⟨by omega, by omega⟩ (show ¬ s ≤ row by omega) ?_
  refine gm_sz (gm_p_load (pc := 12) (i := .iload_n 2) (sr := 0) (j := 2) (by decide +kernel) rfl rfl rfl) ?_
  refine fw_iff (cc := .lt) (pc := 13) (off := 25) (by decide +kernel) (by decide) ⟨by omega, by omega⟩ (show ¬ col < 0 by omega) ?_
  refine gm_sz (gm_p_load (pc := 16) (i := .iload_n 2) (sr := 0) (j := 2) (by decide +kernel) rfl rfl rfl) ?_
  refine gm_sz (gm_p_load (pc := 17) (i := .aload_n 0) (sr := 2) (j := 0) (by decide +kernel) rfl rfl rfl) ?_
  refine gm_sz (fw_gi (pc := 18) (ix := 18) (ci := 2) (j := 1) (x := w) (by decide +kernel) hk (by decide +kernel) (by decide +kernel) hw) ?_
  refine fw_icf (cc := .ge) (pc := 21) (off := 17) (by decide +kernel) (by decide) ⟨by omega, by omega⟩ ⟨by omega, by omega⟩ (show ¬ w ≤ col by omega) ?_
  refine gm_sz (gm_p_load (pc := 24) (i := .aload_n 0) (sr := 2) (j := 0) (by decide +kernel) rfl rfl rfl) ?_
  refine gm_sz (fw_gr (pc := 25) (ix := 21) (ci := 2) (j := 2) (r := a) (by decide +kernel) hk (by decide +kernel) (by decide +kernel) hr) ?_
  refine gm_sz (gm_p_load (pc := 28) (i := .iload_n 1) (sr := 0) (j := 1) (by decide +kernel) rfl rfl rfl) ?_
  refine gm_sz (gm_p_load (pc := 29) (i := .aload_n 0) (sr := 2) (j := 0) (by decide +kernel) rfl rfl rfl) ?_
  refine gm_sz (fw_gi (pc := 30) (ix := 18) (ci := 2) (j := 1) (x := w) (by decide +kernel) hk (by decide +kernel) (by decide +kernel) hw) ?_
  refine gm_sz (gm_p_bin (pc := 33) (i := .imul) (f := fun x y => x * y) (by decide +kernel) rfl) ?_
  refine gm_sz (gm_p_load (pc := 34) (i := .iload_n 2) (sr := 0) (j := 2) (by decide +kernel) rfl rfl rfl) ?_
  refine gm_sz (gm_p_bin (pc := 35) (i := .iadd) (f := fun x y => x + y) (by decide +kernel) rfl) ?_
  refine gm_sz (gm_p_load (pc := 36) (i := .iload_n 3) (sr := 0) (j := 3) (by decide +kernel) rfl rfl rfl) ?_
  refine gm_sz (fw_is (pc := 37) (k := a) (len := len) (e0 := (row * w) + col) (x := v) (M' := gm_uM M a ((row * w) + col) v) (by decide +kernel) ha.1 ha.2 (by omega) ⟨by omega, by omega⟩ rfl) ?_
  exact gm_r_void (pc := 38) (by decide +kernel) (by decide +kernel) hq
theorem rw_size (hk : (1 ≤ c ∧ c ≤ n) ∧ (K c).1 = 2 + 4) (hs : M c 3 = s) (hq : Q (.inl (some (gm_vi s))) n K R M) : gm_Wp X LX d bc bs 9 0 (gm_ent 9 [gm_vr c]) [] n K R M Q := by
  refine gm_sz (gm_p_load (pc := 0) (i := .aload_n 0) (sr := 2) (j := 0) (by decide +kernel) rfl rfl rfl) ?_
  refine gm_sz (fw_gi (pc := 1) (ix := 9) (ci := 2) (j := 3) (x := s) (by decide +kernel) hk (by decide +kernel) (by decide +kernel) hs) ?_
  exact gm_r_int (pc := 4) (by decide +kernel) (Or.inl (by decide +kernel)) hq
theorem rw_add (hk : (1 ≤ c ∧ c ≤ n) ∧ (K c).1 = 2 + 4) (hs : M c 3 = s) (hm : M c 0 = m) (h1 : 0 ≤ s ∧ s < m) (hb : m ≤ 100000) (hq : Q (.inl (some (gm_vi s))) n K R (gm_uM M c 3 (s + 1))) : gm_Wp X LX d bc bs 102 0 (gm_ent 102 [gm_vr c]) [] n K R M Q := by
  refine gm_sz (gm_p_load (pc := 0) (i := .aload_n 0) (sr := 2) (j := 0) (by decide +kernel) rfl rfl rfl) ?_
  refine gm_sz (fw_gi (pc := 1) (ix := 9) (ci := 2) (j := 3) (x := s) (by decide +kernel) hk (by decide +kernel) (by decide +kernel) hs) ?_
  refine gm_sz (gm_p_load (pc := 4) (i := .aload_n 0) (sr := 2) (j := 0) (by decide +kernel) rfl rfl rfl) ?_
  refine gm_sz (fw_gi (pc := 5) (ix := 15) (ci := 2) (j := 0) (x := m) (by decide +kernel) hk (by decide +kernel) (by decide +kernel) hm) ?_
  refine fw_ict (cc := .lt) (pc := 8) (off := 5) (by decide +kernel) (by decide) ⟨by omega, by omega⟩ ⟨by omega, by omega⟩ (show s < m by omega) ?_
  refine gm_sz (gm_p_load (pc := 13) (i := .aload_n 0) (sr := 2) (j := 0) (by decide +kernel) rfl rfl rfl) ?_
  refine gm_sz (gm_p_dup (pc := 14) (by decide +kernel) fw_sr) ?_
  refine gm_sz (fw_gi (pc := 15) (ix := 9) (ci := 2) (j := 3) (x := s) (by decide +kernel) hk (by decide +kernel) (by decide +kernel) hs) ?_
  refine gm_sz (gm_p_const (pc := 18) (i := .iconst 1) (v := gm_vi 1) (by decide +kernel) (by decide +kernel)) ?_
  refine gm_sz (gm_p_bin (pc := 19) (i := .iadd) (f := fun x y => x + y) (by decide +kernel) rfl) ?_
  refine gm_sz (fw_pi (pc := 20) (ix := 9) (ci := 2) (j := 3) (M' := gm_uM M c 3 (s + 1)) (by decide +kernel) hk (by decide +kernel) (by decide +kernel) (by decide +kernel) rfl) ?_
  refine gm_sz (gm_p_load (pc := 23) (i := .aload_n 0) (sr := 2) (j := 0) (by decide +kernel) rfl rfl rfl) ?_
  refine gm_sz (fw_gi (pc := 24) (ix := 9) (ci := 2) (j := 3) (x := s + 1) (by decide +kernel) hk (by decide +kernel) (by decide +kernel) uM_at) ?_
  refine gm_sz (gm_p_const (pc := 27) (i := .iconst 1) (v := gm_vi 1) (by decide +kernel) (by decide +kernel)) ?_
  refine gm_sz (gm_p_bin (pc := 28) (i := .isub) (f := fun x y => x - y) (by decide +kernel) rfl) ?_
  rw [show (s + 1) - 1 = s by omega]
  exact gm_r_int (pc := 29) (by decide +kernel) (Or.inl (by decide +kernel)) hq
theorem rw_full (hk : (1 ≤ c ∧ c ≤ n) ∧ (K c).1 = 2 + 4) (hs : M c 3 = s) (hm : M c 0 = m) (hb : gm_ir s ∧ gm_ir m) (h1 : m ≤ s → Q (.inl (some (gm_vi 1))) n K R M) (h0 : s < m → Q (.inl (some (gm_vi 0))) n K R M) : gm_Wp X LX d bc bs 108 0 (gm_ent 108 [gm_vr c]) [] n K R M Q := by
  obtain ⟨⟨s1, s2⟩, m1, m2⟩ := hb
  refine gm_sz (gm_p_load (pc := 0) (i := .aload_n 0) (sr := 2) (j := 0) (by decide +kernel) rfl rfl rfl) ?_
  refine gm_sz (fw_gi (pc := 1) (ix := 9) (ci := 2) (j := 3) (x := s) (by decide +kernel) hk (by decide +kernel) (by decide +kernel) hs) ?_
  refine gm_sz (gm_p_load (pc := 4) (i := .aload_n 0) (sr := 2) (j := 0) (by decide +kernel) rfl rfl rfl) ?_
  refine gm_sz (fw_gi (pc := 5) (ix := 15) (ci := 2) (j := 0) (x := m) (by decide +kernel) hk (by decide +kernel) (by decide +kernel) hm) ?_
  refine fw_ic (cc := .lt) (pc := 8) (off := 7) (by decide +kernel) (by decide) ⟨by omega, by omega⟩ ⟨by omega, by omega⟩ (fun h8 => ?_) (fun h8 => ?_)
  · have h8 : s < m := h8
    refine gm_sz (gm_p_const (pc := 15) (i := .iconst 0) (v := gm_vi 0) (by decide +kernel) (by decide +kernel)) ?_
    exact gm_r_int (pc := 16) (by decide +kernel) (Or.inr ⟨(by decide +kernel), Or.inl rfl⟩) (h0 (by omega))
  · have h8 : ¬ s < m := h8
    refine gm_sz (gm_p_const (pc := 11) (i := .iconst 1) (v := gm_vi 1) (by decide +kernel) (by decide +kernel)) ?_
    refine gm_sz (gm_p_goto (pc := 12) (off := 4) (by decide +kernel) (by decide)) ?_
    exact gm_r_int (pc := 16) (by decide +kernel) (Or.inr ⟨(by decide +kernel), Or.inr rfl⟩) (h1 (by omega))
/-- a cell filled up to i -/
noncomputable def gm_fil (M : gm_M) (a : Nat) (i v : Int) : gm_M := fun c j => if c = a ∧ 0 ≤ j ∧ j < i then v else M c j
theorem gm_fil_s {i : Int} (hi : 0 ≤ i) : gm_uM (gm_fil M a i v) a i v = gm_fil M a (i + 1) v := by
  funext c j
  unfold gm_uM gm_fil
  by_cases h1 : c = a
  · by_cases h2 : j = i
    · subst h2; subst h1; rw [if_pos ⟨rfl, rfl⟩, if_pos ⟨rfl, by omega, by omega⟩]
    · rw [if_neg (fun h => h2 h.2)]
      by_cases h3 : 0 ≤ j ∧ j < i
      · rw [if_pos ⟨h1, h3⟩, if_pos ⟨h1, by omega, by omega⟩]
      · rw [if_neg (fun h => h3 h.2), if_neg (fun h => by omega)]
  · rw [if_neg (fun h => h1 h.1), if_neg (fun h => h1 h.1), if_neg (fun h => h1 h.1)]
theorem gm_fil_0 : gm_fil M a 0 v = M := by
  funext c j
  unfold gm_fil
  rw [if_neg (fun h => by omega)]
theorem fl_l (ha : (1 ≤ a ∧ a ≤ n) ∧ K a = (0, len)) (hl : len < 2147483648) (hq : Q (.inl none) n K R (gm_fil M a len v)) : ∀ (u : Nat) (i : Int), i + u = len → 0 ≤ i → gm_Wp X LX d bc bs 8 5 [some (gm_vr a), some (gm_vi v), some (gm_vi i), some (gm_vi (len : Int))] [] n K R (gm_fil M a i v) Q := by
  intro u
  induction u with
  | zero =>
    intro i hu h0
    have hi : i = (len : Int) := by omega
    subst hi
    refine gm_sz (gm_p_load (pc := 5) (i := .iload_n 2) (sr := 0) (j := 2) (by decide +kernel) rfl rfl rfl) ?_
    refine gm_sz (gm_p_load (pc := 6) (i := .iload_n 3) (sr := 0) (j := 3) (by decide +kernel) rfl rfl rfl) ?_
    refine fw_ict (cc := .ge) (pc := 7) (off := 13) (by decide +kernel) (by decide) ⟨by omega, by omega⟩ ⟨by omega, by omega⟩ (show (len : Int) ≤ (len : Int) by omega) ?_
    exact gm_r_void (pc := 20) (by decide +kernel) (by decide +kernel) hq
  | succ u ih =>
    intro i hu h0
    refine gm_sz (gm_p_load (pc := 5) (i := .iload_n 2) (sr := 0) (j := 2) (by decide +kernel) rfl rfl rfl) ?_
    refine gm_sz (gm_p_load (pc := 6) (i := .iload_n 3) (sr := 0) (j := 3) (by decide +kernel) rfl rfl rfl) ?_
    refine fw_icf (cc := .ge) (pc := 7) (off := 13) (by decide +kernel) (by decide) ⟨by omega, by omega⟩ ⟨by omega, by omega⟩ (show ¬ (len : Int) ≤ i by omega) ?_
    refine gm_sz (gm_p_load (pc := 10) (i := .aload_n 0) (sr := 2) (j := 0) (by decide +kernel) rfl rfl rfl) ?_
    refine gm_sz (gm_p_load (pc := 11) (i := .iload_n 2) (sr := 0) (j := 2) (by decide +kernel) rfl rfl rfl) ?_
    refine gm_sz (gm_p_load (pc := 12) (i := .iload_n 1) (sr := 0) (j := 1) (by decide +kernel) rfl rfl rfl) ?_
    refine gm_sz (fw_is (pc := 13) (k := a) (len := len) (e0 := i) (x := v) (M' := gm_fil M a (i + 1) v) (by decide +kernel) ha.1 ha.2 (by omega) ⟨by omega, by omega⟩ (gm_fil_s h0)) ?_
    refine gm_sz (gm_p_iinc (pc := 14) (j := 2) (z := 1) (by decide +kernel) rfl) ?_
    refine gm_sz (gm_p_goto (pc := 17) (off := (-12)) (by decide +kernel) (by decide)) ?_
    exact ih (i + 1) (by omega) (by omega)
theorem fl_c8 (ha : (1 ≤ a ∧ a ≤ n) ∧ K a = (0, len)) (hl : len < 2147483648) (hq : Q (.inl none) n K R (gm_fil M a len v)) : gm_Wp X LX d bc bs 8 0 (gm_ent 8 [gm_vr a, gm_vi v]) [] n K R M Q := by
  refine gm_sz (gm_p_const (pc := 0) (i := .iconst 0) (v := gm_vi 0) (by decide +kernel) (by decide +kernel)) ?_
  refine gm_sz (gm_p_stor (pc := 1) (i := .istore_n 2) (sr := 0) (j := 2) (by decide +kernel) rfl (show 3 ≤ _ from Nat.le_of_ble_eq_true rfl) rfl) ?_
  refine gm_sz (gm_p_load (pc := 2) (i := .aload_n 0) (sr := 2) (j := 0) (by decide +kernel) rfl rfl rfl) ?_
  refine gm_sz (fw_al (pc := 3) (k := a) (len := len) (by decide +kernel) ha.1 ha.2 (by decide)) ?_
  refine gm_sz (gm_p_stor (pc := 4) (i := .istore_n 3) (sr := 0) (j := 3) (by decide +kernel) rfl (show 4 ≤ _ from Nat.le_of_ble_eq_true rfl) rfl) ?_
  have q := fl_l (X := X) (LX := LX) (d := d) (bc := bc) (bs := bs) (R := R) (M := M) (Q := Q) (v := v) ha hl hq len 0 (by omega) (Int.le_refl _)
  rw [gm_fil_0] at q
  exact q
theorem rw_reset (hd : 1 ≤ d) (hk : (1 ≤ c ∧ c ≤ n) ∧ (K c).1 = 2 + 4) (ha : (1 ≤ a ∧ a ≤ n) ∧ K a = (0, len)) (hr : R c ((2 : Nat) : Int) = a) (hl : len < 2147483648) (hm : M c 0 = m) (h1 : 0 ≤ row ∧ row ≤ m) (hb : m ≤ 100000) (hq : Q (.inl none) n K R (gm_fil (gm_uM M c 3 row) a len 0)) : gm_Wp X LX d bc bs 25 0 (gm_ent 25 [gm_vr c, gm_vi row]) [] n K R M Q := by
  refine gm_sz (gm_p_load (pc := 0) (i := .aload_n 0) (sr := 2) (j := 0) (by decide +kernel) rfl rfl rfl) ?_
  refine gm_sz (gm_p_const (pc := 1) (i := .iconst 0) (v := gm_vi 0) (by decide +kernel) (by decide +kernel)) ?_
  refine gm_sz (gm_p_load (pc := 2) (i := .iload_n 1) (sr := 0) (j := 1) (by decide +kernel) rfl rfl rfl) ?_
  refine gm_sz (gm_p_load (pc := 3) (i := .aload_n 0) (sr := 2) (j := 0) (by decide +kernel) rfl rfl rfl) ?_
  refine gm_sz (fw_gi (pc := 4) (ix := 15) (ci := 2) (j := 0) (x := m) (by decide +kernel) hk (by decide +kernel) (by decide +kernel) hm) ?_
  refine gm_sz (gm_p_min (pc := 7) (ix := 25) (x := row) (y := m) (by decide +kernel) (by decide +kernel) (gm_w_id (by omega) (by omega)) (gm_w_id (by omega) (by omega)) (Nat.le_of_ble_eq_true rfl) (by omega)) ?_
  refine gm_sz (gm_p_max (pc := 10) (ix := 31) (x := 0) (y := min row m) (by decide +kernel) (by decide +kernel) (gm_w_id (by omega) (by omega)) (gm_w_id (by omega) (by omega)) (Nat.le_of_ble_eq_true rfl) (by omega)) ?_
  rw [show max 0 (min row m) = row by omega]
  refine gm_sz (fw_pi (pc := 13) (ix := 9) (ci := 2) (j := 3) (M' := gm_uM M c 3 row) (by decide +kernel) hk (by decide +kernel) (by decide +kernel) (by decide +kernel) rfl) ?_
  refine gm_sz (gm_p_load (pc := 16) (i := .aload_n 0) (sr := 2) (j := 0) (by decide +kernel) rfl rfl rfl) ?_
  refine gm_sz (fw_gr (pc := 17) (ix := 21) (ci := 2) (j := 2) (r := a) (by decide +kernel) hk (by decide +kernel) (by decide +kernel) hr) ?_
  refine gm_sz (gm_p_const (pc := 20) (i := .iconst 0) (v := gm_vi 0) (by decide +kernel) (by decide +kernel)) ?_
  refine gm_c_stat (mj := 8) (ix := 34) (pc := 21) (as := [gm_vr a, gm_vi 0]) (st := []) (d' := d - 1) (bc' := 0) (bs' := 0) (by decide +kernel) (by decide +kernel) (by decide +kernel) (by decide +kernel) (show 2 = gm_na 8 by decide +kernel) (fw_c2 fw_sr fw_si) (show 2 ≤ gm_ml 8 by decide +kernel) (Nat.le_of_ble_eq_true rfl) (by omega) (Nat.zero_le _) (Nat.zero_le _) ?_
  refine fl_c8 ha hl ?_
  show gm_Wp X LX d _ _ 25 24 _ [] n K _ _ Q
  exact gm_r_void (pc := 24) (by decide +kernel) (by decide +kernel) hq
end RWS
end
/-! 7a01.c1st -/
section
/-! THE CLASS'S STATE: as a world of the reference's numbering; what is thrown in, opened, copied (laid by wip/core/c1.py). -/
/-- a State, numbered as the reference's world is -/
noncomputable def cs (M : gm_M) (b : Nat) : Int → Int := fun i =>
  if i < 0 then 0 else if i < 15 then (if i = 0 then M b 0 else if i = 1 then M b 1 else if i = 2 then M (b + 1) 3 else if i = 3 then M (b + 5) 3 else if i = 4 then M (b + 7) 3 else if i = 5 then M (b + 3) 3 else if i = 6 then M (b + 9) 3 else if i = 7 then M b 7 else if i = 8 then 0 else if i = 9 then M b 6 else if i = 10 then M b 2 else if i = 11 then M b 3 else if i = 12 then M b 4 else if i = 13 then M b 5 else M (b + 11) 3)
  else if i < 71 then M (b + 2) (i - 15) else if i < 95 then M (b + 4) (i - 71) else if i < 119 then M (b + 6) (i - 95) else if i < 287 then M (b + 8) (i - 119) else if i < 323 then M (b + 10) (i - 287) else if i < 395 then M (b + 12) (i - 323) else 0
/-- the reference's world, but for its law -/
noncomputable def ws (W : Int → Int) : Int → Int := fun i => if 0 ≤ i ∧ i < 395 ∧ ¬ i = 8 then W i else 0
section CST1
variable {X : Int → Int} {LX d bc bs n : Nat} {K : gm_K} {R : gm_R} {M : gm_M} {Q : gm_Q} {f t l r p : Int}
noncomputable def cs_th3 (M : gm_M) (f t l r : Int) : gm_M := gm_uM (gm_uM (gm_uM (gm_uM (gm_uM (gm_uM (gm_uM (gm_uM M 10 3 ((M 10 3) + 1)) 11 ((M 10 3) * 7 + 0) f) 11 ((M 10 3) * 7 + 1) t) 11 ((M 10 3) * 7 + 2) l) 11 ((M 10 3) * 7 + 3) (M 3 6)) 11 ((M 10 3) * 7 + 4) r) 11 ((M 10 3) * 7 + 5) (-1)) 11 ((M 10 3) * 7 + 6) (-1)
theorem cs_thr3 (hd : 1 ≤ d) (hE : E0 n K R) (hC : CST M) (h1 : 0 ≤ M 10 3 ∧ M 10 3 < 24) (q0 : Q (.inl (some (gm_vi (M 10 3)))) n K R (cs_th3 M f t l r)) : gm_Wp X LX d bc bs 119 0 (gm_ent 119 [gm_vr 3, gm_vi f, gm_vi t, gm_vi l, gm_vi r]) [] n K R M Q := by
  refine gm_sz (gm_p_load (pc := 0) (i := .aload_n 0) (sr := 2) (j := 0) (by decide +kernel) rfl rfl rfl) ?_
  refine gm_sz (fw_gr (pc := 1) (ix := 55) (ci := 1) (j := 12) (r := 10) (by decide +kernel) (e0k hE (k := 3) (c := 1) (by decide +kernel)) (by decide +kernel) (by decide +kernel) (e0r hE (k := 3) (j := 12) (r := 10) (by decide +kernel))) ?_
  refine gm_c_virt (k := 10) (ci := 2) (mj := 102) (ix := 76) (pc := 4) (as := []) (st := []) (d' := d - 1) (bc' := 0) (bs' := 0) (by decide +kernel) (by decide +kernel) (by decide +kernel) (by decide +kernel) (e0k hE (k := 10) (c := 2) (by decide +kernel)).1 (e0k hE (k := 10) (c := 2) (by decide +kernel)).2 (by decide) (by decide +kernel) (show 0 = gm_na 102 by decide +kernel) fw_c0 (show 1 ≤ gm_ml 102 by decide +kernel) (Nat.le_of_ble_eq_true rfl) (by omega) (Nat.zero_le _) (Nat.zero_le _) ?_
  refine rw_add (s := M 10 3) (m := 24) (e0k hE (k := 10) (c := 2) (by decide +kernel)) rfl (hC (10, 0, 24) (by decide)) ⟨by omega, by omega⟩ (by omega) ?_
  show gm_Wp X LX d _ _ 119 7 _ [gm_vi (M 10 3)] n K _ _ Q
  refine gm_sz (gm_p_stor (pc := 7) (i := .istore 5) (sr := 0) (j := 5) (by decide +kernel) rfl (show 6 ≤ _ from Nat.le_of_ble_eq_true rfl) rfl) ?_
  refine gm_sz (gm_p_load (pc := 9) (i := .aload_n 0) (sr := 2) (j := 0) (by decide +kernel) rfl rfl rfl) ?_
  refine gm_sz (fw_gr (pc := 10) (ix := 55) (ci := 1) (j := 12) (r := 10) (by decide +kernel) (e0k hE (k := 3) (c := 1) (by decide +kernel)) (by decide +kernel) (by decide +kernel) (e0r hE (k := 3) (j := 12) (r := 10) (by decide +kernel))) ?_
  refine gm_sz (gm_p_load (pc := 13) (i := .iload 5) (sr := 0) (j := 5) (by decide +kernel) rfl rfl rfl) ?_
  refine gm_sz (gm_p_const (pc := 15) (i := .iconst 0) (v := gm_vi 0) (by decide +kernel) (by decide +kernel)) ?_
  refine gm_sz (gm_p_load (pc := 16) (i := .iload_n 1) (sr := 0) (j := 1) (by decide +kernel) rfl rfl rfl) ?_
  refine gm_c_virt (k := 10) (ci := 2) (mj := 45) (ix := 79) (pc := 17) (as := [gm_vi (M 10 3), gm_vi 0, gm_vi f]) (st := []) (d' := d - 1) (bc' := 0) (bs' := 0) (by decide +kernel) (by decide +kernel) (by decide +kernel) (by decide +kernel) (e0k hE (k := 10) (c := 2) (by decide +kernel)).1 (e0k hE (k := 10) (c := 2) (by decide +kernel)).2 (by decide) (by decide +kernel) (show 3 = gm_na 45 by decide +kernel) (fw_c3 fw_si fw_si fw_si) (show 4 ≤ gm_ml 45 by decide +kernel) (Nat.le_of_ble_eq_true rfl) (by omega) (Nat.zero_le _) (Nat.zero_le _) ?_
  refine rw_put (s := (M 10 3) + 1) (w := 7) (e0k hE (k := 10) (c := 2) (by decide +kernel)) (e0a hE (k := 11) (q := (0, 168)) (by decide +kernel)) (e0r hE (k := 10) (j := 2) (r := 11) (by decide +kernel)) (by decide) uM_at ((uM_ne (by omega)).trans (hC (10, 1, 7) (by decide))) ⟨by omega, by omega⟩ ⟨by omega, by omega⟩ ⟨by omega, by omega⟩ ⟨by omega, by omega⟩ ?_
  show gm_Wp X LX d _ _ 119 20 _ [] n K _ _ Q
  refine gm_sz (gm_p_load (pc := 20) (i := .aload_n 0) (sr := 2) (j := 0) (by decide +kernel) rfl rfl rfl) ?_
  refine gm_sz (fw_gr (pc := 21) (ix := 55) (ci := 1) (j := 12) (r := 10) (by decide +kernel) (e0k hE (k := 3) (c := 1) (by decide +kernel)) (by decide +kernel) (by decide +kernel) (e0r hE (k := 3) (j := 12) (r := 10) (by decide +kernel))) ?_
  refine gm_sz (gm_p_load (pc := 24) (i := .iload 5) (sr := 0) (j := 5) (by decide +kernel) rfl rfl rfl) ?_
  refine gm_sz (gm_p_const (pc := 26) (i := .iconst 1) (v := gm_vi 1) (by decide +kernel) (by decide +kernel)) ?_
  refine gm_sz (gm_p_load (pc := 27) (i := .iload_n 2) (sr := 0) (j := 2) (by decide +kernel) rfl rfl rfl) ?_
  refine gm_c_virt (k := 10) (ci := 2) (mj := 45) (ix := 79) (pc := 28) (as := [gm_vi (M 10 3), gm_vi 1, gm_vi t]) (st := []) (d' := d - 1) (bc' := 0) (bs' := 0) (by decide +kernel) (by decide +kernel) (by decide +kernel) (by decide +kernel) (e0k hE (k := 10) (c := 2) (by decide +kernel)).1 (e0k hE (k := 10) (c := 2) (by decide +kernel)).2 (by decide) (by decide +kernel) (show 3 = gm_na 45 by decide +kernel) (fw_c3 fw_si fw_si fw_si) (show 4 ≤ gm_ml 45 by decide +kernel) (Nat.le_of_ble_eq_true rfl) (by omega) (Nat.zero_le _) (Nat.zero_le _) ?_
  refine rw_put (s := (M 10 3) + 1) (w := 7) (e0k hE (k := 10) (c := 2) (by decide +kernel)) (e0a hE (k := 11) (q := (0, 168)) (by decide +kernel)) (e0r hE (k := 10) (j := 2) (r := 11) (by decide +kernel)) (by decide) ((uM_ne (by omega)).trans uM_at) ((uM_ne (by omega)).trans ((uM_ne (by omega)).trans (hC (10, 1, 7) (by decide)))) ⟨by omega, by omega⟩ ⟨by omega, by omega⟩ ⟨by omega, by omega⟩ ⟨by omega, by omega⟩ ?_
  show gm_Wp X LX d _ _ 119 31 _ [] n K _ _ Q
  refine gm_sz (gm_p_load (pc := 31) (i := .aload_n 0) (sr := 2) (j := 0) (by decide +kernel) rfl rfl rfl) ?_
  refine gm_sz (fw_gr (pc := 32) (ix := 55) (ci := 1) (j := 12) (r := 10) (by decide +kernel) (e0k hE (k := 3) (c := 1) (by decide +kernel)) (by decide +kernel) (by decide +kernel) (e0r hE (k := 3) (j := 12) (r := 10) (by decide +kernel))) ?_
  refine gm_sz (gm_p_load (pc := 35) (i := .iload 5) (sr := 0) (j := 5) (by decide +kernel) rfl rfl rfl) ?_
  refine gm_sz (gm_p_const (pc := 37) (i := .iconst 2) (v := gm_vi 2) (by decide +kernel) (by decide +kernel)) ?_
  refine gm_sz (gm_p_load (pc := 38) (i := .iload_n 3) (sr := 0) (j := 3) (by decide +kernel) rfl rfl rfl) ?_
  refine gm_c_virt (k := 10) (ci := 2) (mj := 45) (ix := 79) (pc := 39) (as := [gm_vi (M 10 3), gm_vi 2, gm_vi l]) (st := []) (d' := d - 1) (bc' := 0) (bs' := 0) (by decide +kernel) (by decide +kernel) (by decide +kernel) (by decide +kernel) (e0k hE (k := 10) (c := 2) (by decide +kernel)).1 (e0k hE (k := 10) (c := 2) (by decide +kernel)).2 (by decide) (by decide +kernel) (show 3 = gm_na 45 by decide +kernel) (fw_c3 fw_si fw_si fw_si) (show 4 ≤ gm_ml 45 by decide +kernel) (Nat.le_of_ble_eq_true rfl) (by omega) (Nat.zero_le _) (Nat.zero_le _) ?_
  refine rw_put (s := (M 10 3) + 1) (w := 7) (e0k hE (k := 10) (c := 2) (by decide +kernel)) (e0a hE (k := 11) (q := (0, 168)) (by decide +kernel)) (e0r hE (k := 10) (j := 2) (r := 11) (by decide +kernel)) (by decide) ((uM_ne (by omega)).trans ((uM_ne (by omega)).trans uM_at)) ((uM_ne (by omega)).trans ((uM_ne (by omega)).trans ((uM_ne (by omega)).trans (hC (10, 1, 7) (by decide))))) ⟨by omega, by omega⟩ ⟨by omega, by omega⟩ ⟨by omega, by omega⟩ ⟨by omega, by omega⟩ ?_
  show gm_Wp X LX d _ _ 119 42 _ [] n K _ _ Q
  refine gm_sz (gm_p_load (pc := 42) (i := .aload_n 0) (sr := 2) (j := 0) (by decide +kernel) rfl rfl rfl) ?_
  refine gm_sz (fw_gr (pc := 43) (ix := 55) (ci := 1) (j := 12) (r := 10) (by decide +kernel) (e0k hE (k := 3) (c := 1) (by decide +kernel)) (by decide +kernel) (by decide +kernel) (e0r hE (k := 3) (j := 12) (r := 10) (by decide +kernel))) ?_
  refine gm_sz (gm_p_load (pc := 46) (i := .iload 5) (sr := 0) (j := 5) (by decide +kernel) rfl rfl rfl) ?_
  refine gm_sz (gm_p_const (pc := 48) (i := .iconst 3) (v := gm_vi 3) (by decide +kernel) (by decide +kernel)) ?_
  refine gm_sz (gm_p_load (pc := 49) (i := .aload_n 0) (sr := 2) (j := 0) (by decide +kernel) rfl rfl rfl) ?_
  refine gm_sz (fw_gi (pc := 50) (ix := 30) (ci := 1) (j := 6) (x := M 3 6) (by decide +kernel) (e0k hE (k := 3) (c := 1) (by decide +kernel)) (by decide +kernel) (by decide +kernel) ((uM_ne (by omega)).trans ((uM_ne (by omega)).trans ((uM_ne (by omega)).trans (uM_ne (by omega)))))) ?_
  refine gm_c_virt (k := 10) (ci := 2) (mj := 45) (ix := 79) (pc := 53) (as := [gm_vi (M 10 3), gm_vi 3, gm_vi (M 3 6)]) (st := []) (d' := d - 1) (bc' := 0) (bs' := 0) (by decide +kernel) (by decide +kernel) (by decide +kernel) (by decide +kernel) (e0k hE (k := 10) (c := 2) (by decide +kernel)).1 (e0k hE (k := 10) (c := 2) (by decide +kernel)).2 (by decide) (by decide +kernel) (show 3 = gm_na 45 by decide +kernel) (fw_c3 fw_si fw_si fw_si) (show 4 ≤ gm_ml 45 by decide +kernel) (Nat.le_of_ble_eq_true rfl) (by omega) (Nat.zero_le _) (Nat.zero_le _) ?_
  refine rw_put (s := (M 10 3) + 1) (w := 7) (e0k hE (k := 10) (c := 2) (by decide +kernel)) (e0a hE (k := 11) (q := (0, 168)) (by decide +kernel)) (e0r hE (k := 10) (j := 2) (r := 11) (by decide +kernel)) (by decide) ((uM_ne (by omega)).trans ((uM_ne (by omega)).trans ((uM_ne (by omega)).trans uM_at))) ((uM_ne (by omega)).trans ((uM_ne (by omega)).trans ((uM_ne (by omega)).trans ((uM_ne (by omega)).trans (hC (10, 1, 7) (by decide)))))) ⟨by omega, by omega⟩ ⟨by omega, by omega⟩ ⟨by omega, by omega⟩ ⟨by omega, by omega⟩ ?_
  show gm_Wp X LX d _ _ 119 56 _ [] n K _ _ Q
  refine gm_sz (gm_p_load (pc := 56) (i := .aload_n 0) (sr := 2) (j := 0) (by decide +kernel) rfl rfl rfl) ?_
  refine gm_sz (fw_gr (pc := 57) (ix := 55) (ci := 1) (j := 12) (r := 10) (by decide +kernel) (e0k hE (k := 3) (c := 1) (by decide +kernel)) (by decide +kernel) (by decide +kernel) (e0r hE (k := 3) (j := 12) (r := 10) (by decide +kernel))) ?_
  refine gm_sz (gm_p_load (pc := 60) (i := .iload 5) (sr := 0) (j := 5) (by decide +kernel) rfl rfl rfl) ?_
  refine gm_sz (gm_p_const (pc := 62) (i := .iconst 4) (v := gm_vi 4) (by decide +kernel) (by decide +kernel)) ?_
  refine gm_sz (gm_p_load (pc := 63) (i := .iload 4) (sr := 0) (j := 4) (by decide +kernel) rfl rfl rfl) ?_
  refine gm_c_virt (k := 10) (ci := 2) (mj := 45) (ix := 79) (pc := 65) (as := [gm_vi (M 10 3), gm_vi 4, gm_vi r]) (st := []) (d' := d - 1) (bc' := 0) (bs' := 0) (by decide +kernel) (by decide +kernel) (by decide +kernel) (by decide +kernel) (e0k hE (k := 10) (c := 2) (by decide +kernel)).1 (e0k hE (k := 10) (c := 2) (by decide +kernel)).2 (by decide) (by decide +kernel) (show 3 = gm_na 45 by decide +kernel) (fw_c3 fw_si fw_si fw_si) (show 4 ≤ gm_ml 45 by decide +kernel) (Nat.le_of_ble_eq_true rfl) (by omega) (Nat.zero_le _) (Nat.zero_le _) ?_
  refine rw_put (s := (M 10 3) + 1) (w := 7) (e0k hE (k := 10) (c := 2) (by decide +kernel)) (e0a hE (k := 11) (q := (0, 168)) (by decide +kernel)) (e0r hE (k := 10) (j := 2) (r := 11) (by decide +kernel)) (by decide) ((uM_ne (by omega)).trans ((uM_ne (by omega)).trans ((uM_ne (by omega)).trans ((uM_ne (by omega)).trans uM_at)))) ((uM_ne (by omega)).trans ((uM_ne (by omega)).trans ((uM_ne (by omega)).trans ((uM_ne (by omega)).trans ((uM_ne (by omega)).trans (hC (10, 1, 7) (by decide))))))) ⟨by omega, by omega⟩ ⟨by omega, by omega⟩ ⟨by omega, by omega⟩ ⟨by omega, by omega⟩ ?_
  show gm_Wp X LX d _ _ 119 68 _ [] n K _ _ Q
  refine gm_sz (gm_p_load (pc := 68) (i := .aload_n 0) (sr := 2) (j := 0) (by decide +kernel) rfl rfl rfl) ?_
  refine gm_sz (fw_gr (pc := 69) (ix := 55) (ci := 1) (j := 12) (r := 10) (by decide +kernel) (e0k hE (k := 3) (c := 1) (by decide +kernel)) (by decide +kernel) (by decide +kernel) (e0r hE (k := 3) (j := 12) (r := 10) (by decide +kernel))) ?_
  refine gm_sz (gm_p_load (pc := 72) (i := .iload 5) (sr := 0) (j := 5) (by decide +kernel) rfl rfl rfl) ?_
  refine gm_sz (gm_p_const (pc := 74) (i := .iconst 5) (v := gm_vi 5) (by decide +kernel) (by decide +kernel)) ?_
  refine gm_sz (gm_p_const (pc := 75) (i := .iconst (-1)) (v := gm_vi (-1)) (by decide +kernel) (by decide +kernel)) ?_
  refine gm_c_virt (k := 10) (ci := 2) (mj := 45) (ix := 79) (pc := 76) (as := [gm_vi (M 10 3), gm_vi 5, gm_vi (-1)]) (st := []) (d' := d - 1) (bc' := 0) (bs' := 0) (by decide +kernel) (by decide +kernel) (by decide +kernel) (by decide +kernel) (e0k hE (k := 10) (c := 2) (by decide +kernel)).1 (e0k hE (k := 10) (c := 2) (by decide +kernel)).2 (by decide) (by decide +kernel) (show 3 = gm_na 45 by decide +kernel) (fw_c3 fw_si fw_si fw_si) (show 4 ≤ gm_ml 45 by decide +kernel) (Nat.le_of_ble_eq_true rfl) (by omega) (Nat.zero_le _) (Nat.zero_le _) ?_
  refine rw_put (s := (M 10 3) + 1) (w := 7) (e0k hE (k := 10) (c := 2) (by decide +kernel)) (e0a hE (k := 11) (q := (0, 168)) (by decide +kernel)) (e0r hE (k := 10) (j := 2) (r := 11) (by decide +kernel)) (by decide) ((uM_ne (by omega)).trans ((uM_ne (by omega)).trans ((uM_ne (by omega)).trans ((uM_ne (by omega)).trans ((uM_ne (by omega)).trans uM_at))))) ((uM_ne (by omega)).trans ((uM_ne (by omega)).trans ((uM_ne (by omega)).trans ((uM_ne (by omega)).trans ((uM_ne (by omega)).trans ((uM_ne (by omega)).trans (hC (10, 1, 7) (by decide)))))))) ⟨by omega, by omega⟩ ⟨by omega, by omega⟩ ⟨by omega, by omega⟩ ⟨by omega, by omega⟩ ?_
  show gm_Wp X LX d _ _ 119 79 _ [] n K _ _ Q
  refine gm_sz (gm_p_load (pc := 79) (i := .aload_n 0) (sr := 2) (j := 0) (by decide +kernel) rfl rfl rfl) ?_
  refine gm_sz (fw_gr (pc := 80) (ix := 55) (ci := 1) (j := 12) (r := 10) (by decide +kernel) (e0k hE (k := 3) (c := 1) (by decide +kernel)) (by decide +kernel) (by decide +kernel) (e0r hE (k := 3) (j := 12) (r := 10) (by decide +kernel))) ?_
  refine gm_sz (gm_p_load (pc := 83) (i := .iload 5) (sr := 0) (j := 5) (by decide +kernel) rfl rfl rfl) ?_
  refine gm_sz (gm_p_const (pc := 85) (i := .bipush 6) (v := gm_vi 6) (by decide +kernel) (by decide +kernel)) ?_
  refine gm_sz (gm_p_const (pc := 87) (i := .iconst (-1)) (v := gm_vi (-1)) (by decide +kernel) (by decide +kernel)) ?_
  refine gm_c_virt (k := 10) (ci := 2) (mj := 45) (ix := 79) (pc := 88) (as := [gm_vi (M 10 3), gm_vi 6, gm_vi (-1)]) (st := []) (d' := d - 1) (bc' := 0) (bs' := 0) (by decide +kernel) (by decide +kernel) (by decide +kernel) (by decide +kernel) (e0k hE (k := 10) (c := 2) (by decide +kernel)).1 (e0k hE (k := 10) (c := 2) (by decide +kernel)).2 (by decide) (by decide +kernel) (show 3 = gm_na 45 by decide +kernel) (fw_c3 fw_si fw_si fw_si) (show 4 ≤ gm_ml 45 by decide +kernel) (Nat.le_of_ble_eq_true rfl) (by omega) (Nat.zero_le _) (Nat.zero_le _) ?_
  refine rw_put (s := (M 10 3) + 1) (w := 7) (e0k hE (k := 10) (c := 2) (by decide +kernel)) (e0a hE (k := 11) (q := (0, 168)) (by decide +kernel)) (e0r hE (k := 10) (j := 2) (r := 11) (by decide +kernel)) (by decide) ((uM_ne (by omega)).trans ((uM_ne (by omega)).trans ((uM_ne (by omega)).trans ((uM_ne (by omega)).trans ((uM_ne (by omega)).trans ((uM_ne (by omega)).trans uM_at)))))) ((uM_ne (by omega)).trans ((uM_ne (by omega)).trans ((uM_ne (by omega)).trans ((uM_ne (by omega)).trans ((uM_ne (by omega)).trans ((uM_ne (by omega)).trans ((uM_ne (by omega)).trans (hC (10, 1, 7) (by decide))))))))) ⟨by omega, by omega⟩ ⟨by omega, by omega⟩ ⟨by omega, by omega⟩ ⟨by omega, by omega⟩ ?_
  show gm_Wp X LX d _ _ 119 91 _ [] n K _ _ Q
  refine gm_sz (gm_p_load (pc := 91) (i := .iload 5) (sr := 0) (j := 5) (by decide +kernel) rfl rfl rfl) ?_
  exact gm_r_int (pc := 93) (by decide +kernel) (Or.inl (by decide +kernel)) q0
noncomputable def cs_th16 (M : gm_M) (f t l r : Int) : gm_M := gm_uM (gm_uM (gm_uM (gm_uM (gm_uM (gm_uM (gm_uM (gm_uM M 23 3 ((M 23 3) + 1)) 24 ((M 23 3) * 7 + 0) f) 24 ((M 23 3) * 7 + 1) t) 24 ((M 23 3) * 7 + 2) l) 24 ((M 23 3) * 7 + 3) (M 16 6)) 24 ((M 23 3) * 7 + 4) r) 24 ((M 23 3) * 7 + 5) (-1)) 24 ((M 23 3) * 7 + 6) (-1)
theorem cs_thr16 (hd : 1 ≤ d) (hE : E0 n K R) (hC : CST M) (h1 : 0 ≤ M 23 3 ∧ M 23 3 < 24) (q0 : Q (.inl (some (gm_vi (M 23 3)))) n K R (cs_th16 M f t l r)) : gm_Wp X LX d bc bs 119 0 (gm_ent 119 [gm_vr 16, gm_vi f, gm_vi t, gm_vi l, gm_vi r]) [] n K R M Q := by
  refine gm_sz (gm_p_load (pc := 0) (i := .aload_n 0) (sr := 2) (j := 0) (by decide +kernel) rfl rfl rfl) ?_
  refine gm_sz (fw_gr (pc := 1) (ix := 55) (ci := 1) (j := 12) (r := 23) (by decide +kernel) (e0k hE (k := 16) (c := 1) (by decide +kernel)) (by decide +kernel) (by decide +kernel) (e0r hE (k := 16) (j := 12) (r := 23) (by decide +kernel))) ?_
  refine gm_c_virt (k := 23) (ci := 2) (mj := 102) (ix := 76) (pc := 4) (as := []) (st := []) (d' := d - 1) (bc' := 0) (bs' := 0) (by decide +kernel) (by decide +kernel) (by decide +kernel) (by decide +kernel) (e0k hE (k := 23) (c := 2) (by decide +kernel)).1 (e0k hE (k := 23) (c := 2) (by decide +kernel)).2 (by decide) (by decide +kernel) (show 0 = gm_na 102 by decide +kernel) fw_c0 (show 1 ≤ gm_ml 102 by decide +kernel) (Nat.le_of_ble_eq_true rfl) (by omega) (Nat.zero_le _) (Nat.zero_le _) ?_
  refine rw_add (s := M 23 3) (m := 24) (e0k hE (k := 23) (c := 2) (by decide +kernel)) rfl (hC (23, 0, 24) (by decide)) ⟨by omega, by omega⟩ (by omega) ?_
  show gm_Wp X LX d _ _ 119 7 _ [gm_vi (M 23 3)] n K _ _ Q
  refine gm_sz (gm_p_stor (pc := 7) (i := .istore 5) (sr := 0) (j := 5) (by decide +kernel) rfl (show 6 ≤ _ from Nat.le_of_ble_eq_true rfl) rfl) ?_
  refine gm_sz (gm_p_load (pc := 9) (i := .aload_n 0) (sr := 2) (j := 0) (by decide +kernel) rfl rfl rfl) ?_
  refine gm_sz (fw_gr (pc := 10) (ix := 55) (ci := 1) (j := 12) (r := 23) (by decide +kernel) (e0k hE (k := 16) (c := 1) (by decide +kernel)) (by decide +kernel) (by decide +kernel) (e0r hE (k := 16) (j := 12) (r := 23) (by decide +kernel))) ?_
  refine gm_sz (gm_p_load (pc := 13) (i := .iload 5) (sr := 0) (j := 5) (by decide +kernel) rfl rfl rfl) ?_
  refine gm_sz (gm_p_const (pc := 15) (i := .iconst 0) (v := gm_vi 0) (by decide +kernel) (by decide +kernel)) ?_
  refine gm_sz (gm_p_load (pc := 16) (i := .iload_n 1) (sr := 0) (j := 1) (by decide +kernel) rfl rfl rfl) ?_
  refine gm_c_virt (k := 23) (ci := 2) (mj := 45) (ix := 79) (pc := 17) (as := [gm_vi (M 23 3), gm_vi 0, gm_vi f]) (st := []) (d' := d - 1) (bc' := 0) (bs' := 0) (by decide +kernel) (by decide +kernel) (by decide +kernel) (by decide +kernel) (e0k hE (k := 23) (c := 2) (by decide +kernel)).1 (e0k hE (k := 23) (c := 2) (by decide +kernel)).2 (by decide) (by decide +kernel) (show 3 = gm_na 45 by decide +kernel) (fw_c3 fw_si fw_si fw_si) (show 4 ≤ gm_ml 45 by decide +kernel) (Nat.le_of_ble_eq_true rfl) (by omega) (Nat.zero_le _) (Nat.zero_le _) ?_
  refine rw_put (s := (M 23 3) + 1) (w := 7) (e0k hE (k := 23) (c := 2) (by decide +kernel)) (e0a hE (k := 24) (q := (0, 168)) (by decide +kernel)) (e0r hE (k := 23) (j := 2) (r := 24) (by decide +kernel)) (by decide) uM_at ((uM_ne (by omega)).trans (hC (23, 1, 7) (by decide))) ⟨by omega, by omega⟩ ⟨by omega, by omega⟩ ⟨by omega, by omega⟩ ⟨by omega, by omega⟩ ?_
  show gm_Wp X LX d _ _ 119 20 _ [] n K _ _ Q
  refine gm_sz (gm_p_load (pc := 20) (i := .aload_n 0) (sr := 2) (j := 0) (by decide +kernel) rfl rfl rfl) ?_
  refine gm_sz (fw_gr (pc := 21) (ix := 55) (ci := 1) (j := 12) (r := 23) (by decide +kernel) (e0k hE (k := 16) (c := 1) (by decide +kernel)) (by decide +kernel) (by decide +kernel) (e0r hE (k := 16) (j := 12) (r := 23) (by decide +kernel))) ?_
  refine gm_sz (gm_p_load (pc := 24) (i := .iload 5) (sr := 0) (j := 5) (by decide +kernel) rfl rfl rfl) ?_
  refine gm_sz (gm_p_const (pc := 26) (i := .iconst 1) (v := gm_vi 1) (by decide +kernel) (by decide +kernel)) ?_
  refine gm_sz (gm_p_load (pc := 27) (i := .iload_n 2) (sr := 0) (j := 2) (by decide +kernel) rfl rfl rfl) ?_
  refine gm_c_virt (k := 23) (ci := 2) (mj := 45) (ix := 79) (pc := 28) (as := [gm_vi (M 23 3), gm_vi 1, gm_vi t]) (st := []) (d' := d - 1) (bc' := 0) (bs' := 0) (by decide +kernel) (by decide +kernel) (by decide +kernel) (by decide +kernel) (e0k hE (k := 23) (c := 2) (by decide +kernel)).1 (e0k hE (k := 23) (c := 2) (by decide +kernel)).2 (by decide) (by decide +kernel) (show 3 = gm_na 45 by decide +kernel) (fw_c3 fw_si fw_si fw_si) (show 4 ≤ gm_ml 45 by decide +kernel) (Nat.le_of_ble_eq_true rfl) (by omega) (Nat.zero_le _) (Nat.zero_le _) ?_
  refine rw_put (s := (M 23 3) + 1) (w := 7) (e0k hE (k := 23) (c := 2) (by decide +kernel)) (e0a hE (k := 24) (q := (0, 168)) (by decide +kernel)) (e0r hE (k := 23) (j := 2) (r := 24) (by decide +kernel)) (by decide) ((uM_ne (by omega)).trans uM_at) ((uM_ne (by omega)).trans ((uM_ne (by omega)).trans (hC (23, 1, 7) (by decide)))) ⟨by omega, by omega⟩ ⟨by omega, by omega⟩ ⟨by omega, by omega⟩ ⟨by omega, by omega⟩ ?_
  show gm_Wp X LX d _ _ 119 31 _ [] n K _ _ Q
  refine gm_sz (gm_p_load (pc := 31) (i := .aload_n 0) (sr := 2) (j := 0) (by decide +kernel) rfl rfl rfl) ?_
  refine gm_sz (fw_gr (pc := 32) (ix := 55) (ci := 1) (j := 12) (r := 23) (by decide +kernel) (e0k hE (k := 16) (c := 1) (by decide +kernel)) (by decide +kernel) (by decide +kernel) (e0r hE (k := 16) (j := 12) (r := 23) (by decide +kernel))) ?_
  refine gm_sz (gm_p_load (pc := 35) (i := .iload 5) (sr := 0) (j := 5) (by decide +kernel) rfl rfl rfl) ?_
  refine gm_sz (gm_p_const (pc := 37) (i := .iconst 2) (v := gm_vi 2) (by decide +kernel) (by decide +kernel)) ?_
  refine gm_sz (gm_p_load (pc := 38) (i := .iload_n 3) (sr := 0) (j := 3) (by decide +kernel) rfl rfl rfl) ?_
  refine gm_c_virt (k := 23) (ci := 2) (mj := 45) (ix := 79) (pc := 39) (as := [gm_vi (M 23 3), gm_vi 2, gm_vi l]) (st := []) (d' := d - 1) (bc' := 0) (bs' := 0) (by decide +kernel) (by decide +kernel) (by decide +kernel) (by decide +kernel) (e0k hE (k := 23) (c := 2) (by decide +kernel)).1 (e0k hE (k := 23) (c := 2) (by decide +kernel)).2 (by decide) (by decide +kernel) (show 3 = gm_na 45 by decide +kernel) (fw_c3 fw_si fw_si fw_si) (show 4 ≤ gm_ml 45 by decide +kernel) (Nat.le_of_ble_eq_true rfl) (by omega) (Nat.zero_le _) (Nat.zero_le _) ?_
  refine rw_put (s := (M 23 3) + 1) (w := 7) (e0k hE (k := 23) (c := 2) (by decide +kernel)) (e0a hE (k := 24) (q := (0, 168)) (by decide +kernel)) (e0r hE (k := 23) (j := 2) (r := 24) (by decide +kernel)) (by decide) ((uM_ne (by omega)).trans ((uM_ne (by omega)).trans uM_at)) ((uM_ne (by omega)).trans ((uM_ne (by omega)).trans ((uM_ne (by omega)).trans (hC (23, 1, 7) (by decide))))) ⟨by omega, by omega⟩ ⟨by omega, by omega⟩ ⟨by omega, by omega⟩ ⟨by omega, by omega⟩ ?_
  show gm_Wp X LX d _ _ 119 42 _ [] n K _ _ Q
  refine gm_sz (gm_p_load (pc := 42) (i := .aload_n 0) (sr := 2) (j := 0) (by decide +kernel) rfl rfl rfl) ?_
  refine gm_sz (fw_gr (pc := 43) (ix := 55) (ci := 1) (j := 12) (r := 23) (by decide +kernel) (e0k hE (k := 16) (c := 1) (by decide +kernel)) (by decide +kernel) (by decide +kernel) (e0r hE (k := 16) (j := 12) (r := 23) (by decide +kernel))) ?_
  refine gm_sz (gm_p_load (pc := 46) (i := .iload 5) (sr := 0) (j := 5) (by decide +kernel) rfl rfl rfl) ?_
  refine gm_sz (gm_p_const (pc := 48) (i := .iconst 3) (v := gm_vi 3) (by decide +kernel) (by decide +kernel)) ?_
  refine gm_sz (gm_p_load (pc := 49) (i := .aload_n 0) (sr := 2) (j := 0) (by decide +kernel) rfl rfl rfl) ?_
  refine gm_sz (fw_gi (pc := 50) (ix := 30) (ci := 1) (j := 6) (x := M 16 6) (by decide +kernel) (e0k hE (k := 16) (c := 1) (by decide +kernel)) (by decide +kernel) (by decide +kernel) ((uM_ne (by omega)).trans ((uM_ne (by omega)).trans ((uM_ne (by omega)).trans (uM_ne (by omega)))))) ?_
  refine gm_c_virt (k := 23) (ci := 2) (mj := 45) (ix := 79) (pc := 53) (as := [gm_vi (M 23 3), gm_vi 3, gm_vi (M 16 6)]) (st := []) (d' := d - 1) (bc' := 0) (bs' := 0) (by decide +kernel) (by decide +kernel) (by decide +kernel) (by decide +kernel) (e0k hE (k := 23) (c := 2) (by decide +kernel)).1 (e0k hE (k := 23) (c := 2) (by decide +kernel)).2 (by decide) (by decide +kernel) (show 3 = gm_na 45 by decide +kernel) (fw_c3 fw_si fw_si fw_si) (show 4 ≤ gm_ml 45 by decide +kernel) (Nat.le_of_ble_eq_true rfl) (by omega) (Nat.zero_le _) (Nat.zero_le _) ?_
  refine rw_put (s := (M 23 3) + 1) (w := 7) (e0k hE (k := 23) (c := 2) (by decide +kernel)) (e0a hE (k := 24) (q := (0, 168)) (by decide +kernel)) (e0r hE (k := 23) (j := 2) (r := 24) (by decide +kernel)) (by decide) ((uM_ne (by omega)).trans ((uM_ne (by omega)).trans ((uM_ne (by omega)).trans uM_at))) ((uM_ne (by omega)).trans ((uM_ne (by omega)).trans ((uM_ne (by omega)).trans ((uM_ne (by omega)).trans (hC (23, 1, 7) (by decide)))))) ⟨by omega, by omega⟩ ⟨by omega, by omega⟩ ⟨by omega, by omega⟩ ⟨by omega, by omega⟩ ?_
  show gm_Wp X LX d _ _ 119 56 _ [] n K _ _ Q
  refine gm_sz (gm_p_load (pc := 56) (i := .aload_n 0) (sr := 2) (j := 0) (by decide +kernel) rfl rfl rfl) ?_
  refine gm_sz (fw_gr (pc := 57) (ix := 55) (ci := 1) (j := 12) (r := 23) (by decide +kernel) (e0k hE (k := 16) (c := 1) (by decide +kernel)) (by decide +kernel) (by decide +kernel) (e0r hE (k := 16) (j := 12) (r := 23) (by decide +kernel))) ?_
  refine gm_sz (gm_p_load (pc := 60) (i := .iload 5) (sr := 0) (j := 5) (by decide +kernel) rfl rfl rfl) ?_
  refine gm_sz (gm_p_const (pc := 62) (i := .iconst 4) (v := gm_vi 4) (by decide +kernel) (by decide +kernel)) ?_
  refine gm_sz (gm_p_load (pc := 63) (i := .iload 4) (sr := 0) (j := 4) (by decide +kernel) rfl rfl rfl) ?_
  refine gm_c_virt (k := 23) (ci := 2) (mj := 45) (ix := 79) (pc := 65) (as := [gm_vi (M 23 3), gm_vi 4, gm_vi r]) (st := []) (d' := d - 1) (bc' := 0) (bs' := 0) (by decide +kernel) (by decide +kernel) (by decide +kernel) (by decide +kernel) (e0k hE (k := 23) (c := 2) (by decide +kernel)).1 (e0k hE (k := 23) (c := 2) (by decide +kernel)).2 (by decide) (by decide +kernel) (show 3 = gm_na 45 by decide +kernel) (fw_c3 fw_si fw_si fw_si) (show 4 ≤ gm_ml 45 by decide +kernel) (Nat.le_of_ble_eq_true rfl) (by omega) (Nat.zero_le _) (Nat.zero_le _) ?_
  refine rw_put (s := (M 23 3) + 1) (w := 7) (e0k hE (k := 23) (c := 2) (by decide +kernel)) (e0a hE (k := 24) (q := (0, 168)) (by decide +kernel)) (e0r hE (k := 23) (j := 2) (r := 24) (by decide +kernel)) (by decide) ((uM_ne (by omega)).trans ((uM_ne (by omega)).trans ((uM_ne (by omega)).trans ((uM_ne (by omega)).trans uM_at)))) ((uM_ne (by omega)).trans ((uM_ne (by omega)).trans ((uM_ne (by omega)).trans ((uM_ne (by omega)).trans ((uM_ne (by omega)).trans (hC (23, 1, 7) (by decide))))))) ⟨by omega, by omega⟩ ⟨by omega, by omega⟩ ⟨by omega, by omega⟩ ⟨by omega, by omega⟩ ?_
  show gm_Wp X LX d _ _ 119 68 _ [] n K _ _ Q
  refine gm_sz (gm_p_load (pc := 68) (i := .aload_n 0) (sr := 2) (j := 0) (by decide +kernel) rfl rfl rfl) ?_
  refine gm_sz (fw_gr (pc := 69) (ix := 55) (ci := 1) (j := 12) (r := 23) (by decide +kernel) (e0k hE (k := 16) (c := 1) (by decide +kernel)) (by decide +kernel) (by decide +kernel) (e0r hE (k := 16) (j := 12) (r := 23) (by decide +kernel))) ?_
  refine gm_sz (gm_p_load (pc := 72) (i := .iload 5) (sr := 0) (j := 5) (by decide +kernel) rfl rfl rfl) ?_
  refine gm_sz (gm_p_const (pc := 74) (i := .iconst 5) (v := gm_vi 5) (by decide +kernel) (by decide +kernel)) ?_
  refine gm_sz (gm_p_const (pc := 75) (i := .iconst (-1)) (v := gm_vi (-1)) (by decide +kernel) (by decide +kernel)) ?_
  refine gm_c_virt (k := 23) (ci := 2) (mj := 45) (ix := 79) (pc := 76) (as := [gm_vi (M 23 3), gm_vi 5, gm_vi (-1)]) (st := []) (d' := d - 1) (bc' := 0) (bs' := 0) (by decide +kernel) (by decide +kernel) (by decide +kernel) (by decide +kernel) (e0k hE (k := 23) (c := 2) (by decide +kernel)).1 (e0k hE (k := 23) (c := 2) (by decide +kernel)).2 (by decide) (by decide +kernel) (show 3 = gm_na 45 by decide +kernel) (fw_c3 fw_si fw_si fw_si) (show 4 ≤ gm_ml 45 by decide +kernel) (Nat.le_of_ble_eq_true rfl) (by omega) (Nat.zero_le _) (Nat.zero_le _) ?_
  refine rw_put (s := (M 23 3) + 1) (w := 7) (e0k hE (k := 23) (c := 2) (by decide +kernel)) (e0a hE (k := 24) (q := (0, 168)) (by decide +kernel)) (e0r hE (k := 23) (j := 2) (r := 24) (by decide +kernel)) (by decide) ((uM_ne (by omega)).trans ((uM_ne (by omega)).trans ((uM_ne (by omega)).trans ((uM_ne (by omega)).trans ((uM_ne (by omega)).trans uM_at))))) ((uM_ne (by omega)).trans ((uM_ne (by omega)).trans ((uM_ne (by omega)).trans ((uM_ne (by omega)).trans ((uM_ne (by omega)).trans ((uM_ne (by omega)).trans (hC (23, 1, 7) (by decide)))))))) ⟨by omega, by omega⟩ ⟨by omega, by omega⟩ ⟨by omega, by omega⟩ ⟨by omega, by omega⟩ ?_
  show gm_Wp X LX d _ _ 119 79 _ [] n K _ _ Q
  refine gm_sz (gm_p_load (pc := 79) (i := .aload_n 0) (sr := 2) (j := 0) (by decide +kernel) rfl rfl rfl) ?_
  refine gm_sz (fw_gr (pc := 80) (ix := 55) (ci := 1) (j := 12) (r := 23) (by decide +kernel) (e0k hE (k := 16) (c := 1) (by decide +kernel)) (by decide +kernel) (by decide +kernel) (e0r hE (k := 16) (j := 12) (r := 23) (by decide +kernel))) ?_
  refine gm_sz (gm_p_load (pc := 83) (i := .iload 5) (sr := 0) (j := 5) (by decide +kernel) rfl rfl rfl) ?_
  refine gm_sz (gm_p_const (pc := 85) (i := .bipush 6) (v := gm_vi 6) (by decide +kernel) (by decide +kernel)) ?_
  refine gm_sz (gm_p_const (pc := 87) (i := .iconst (-1)) (v := gm_vi (-1)) (by decide +kernel) (by decide +kernel)) ?_
  refine gm_c_virt (k := 23) (ci := 2) (mj := 45) (ix := 79) (pc := 88) (as := [gm_vi (M 23 3), gm_vi 6, gm_vi (-1)]) (st := []) (d' := d - 1) (bc' := 0) (bs' := 0) (by decide +kernel) (by decide +kernel) (by decide +kernel) (by decide +kernel) (e0k hE (k := 23) (c := 2) (by decide +kernel)).1 (e0k hE (k := 23) (c := 2) (by decide +kernel)).2 (by decide) (by decide +kernel) (show 3 = gm_na 45 by decide +kernel) (fw_c3 fw_si fw_si fw_si) (show 4 ≤ gm_ml 45 by decide +kernel) (Nat.le_of_ble_eq_true rfl) (by omega) (Nat.zero_le _) (Nat.zero_le _) ?_
  refine rw_put (s := (M 23 3) + 1) (w := 7) (e0k hE (k := 23) (c := 2) (by decide +kernel)) (e0a hE (k := 24) (q := (0, 168)) (by decide +kernel)) (e0r hE (k := 23) (j := 2) (r := 24) (by decide +kernel)) (by decide) ((uM_ne (by omega)).trans ((uM_ne (by omega)).trans ((uM_ne (by omega)).trans ((uM_ne (by omega)).trans ((uM_ne (by omega)).trans ((uM_ne (by omega)).trans uM_at)))))) ((uM_ne (by omega)).trans ((uM_ne (by omega)).trans ((uM_ne (by omega)).trans ((uM_ne (by omega)).trans ((uM_ne (by omega)).trans ((uM_ne (by omega)).trans ((uM_ne (by omega)).trans (hC (23, 1, 7) (by decide))))))))) ⟨by omega, by omega⟩ ⟨by omega, by omega⟩ ⟨by omega, by omega⟩ ⟨by omega, by omega⟩ ?_
  show gm_Wp X LX d _ _ 119 91 _ [] n K _ _ Q
  refine gm_sz (gm_p_load (pc := 91) (i := .iload 5) (sr := 0) (j := 5) (by decide +kernel) rfl rfl rfl) ?_
  exact gm_r_int (pc := 93) (by decide +kernel) (Or.inl (by decide +kernel)) q0
noncomputable def cs_op (M : gm_M) (l p : Int) : gm_M := gm_uM (gm_uM (gm_uM (gm_uM (gm_uM (gm_uM M 11 (l * 7 + 5) p) 11 (l * 7 + 6) (M 3 6)) 14 3 ((M 14 3) + 1)) 15 ((M 14 3) * 3 + 0) (M 3 6)) 15 ((M 14 3) * 3 + 1) l) 15 ((M 14 3) * 3 + 2) p
theorem cs_opn (hd : 1 ≤ d) (hE : E0 n K R) (hC : CST M) (h1 : 0 ≤ l ∧ l < M 10 3) (h2 : M 10 3 ≤ 24) (h3 : 0 ≤ M 14 3 ∧ M 14 3 < 24) (q0 : Q (.inl (none)) n K R (cs_op M l p)) : gm_Wp X LX d bc bs 159 0 (gm_ent 159 [gm_vr 3, gm_vi l, gm_vi p]) [] n K R M Q := by
  refine gm_sz (gm_p_load (pc := 0) (i := .aload_n 0) (sr := 2) (j := 0) (by decide +kernel) rfl rfl rfl) ?_
  refine gm_sz (fw_gr (pc := 1) (ix := 55) (ci := 1) (j := 12) (r := 10) (by decide +kernel) (e0k hE (k := 3) (c := 1) (by decide +kernel)) (by decide +kernel) (by decide +kernel) (e0r hE (k := 3) (j := 12) (r := 10) (by decide +kernel))) ?_
  refine gm_sz (gm_p_load (pc := 4) (i := .iload_n 1) (sr := 0) (j := 1) (by decide +kernel) rfl rfl rfl) ?_
  refine gm_sz (gm_p_const (pc := 5) (i := .iconst 5) (v := gm_vi 5) (by decide +kernel) (by decide +kernel)) ?_
  refine gm_sz (gm_p_load (pc := 6) (i := .iload_n 2) (sr := 0) (j := 2) (by decide +kernel) rfl rfl rfl) ?_
  refine gm_c_virt (k := 10) (ci := 2) (mj := 45) (ix := 79) (pc := 7) (as := [gm_vi l, gm_vi 5, gm_vi p]) (st := []) (d' := d - 1) (bc' := 0) (bs' := 0) (by decide +kernel) (by decide +kernel) (by decide +kernel) (by decide +kernel) (e0k hE (k := 10) (c := 2) (by decide +kernel)).1 (e0k hE (k := 10) (c := 2) (by decide +kernel)).2 (by decide) (by decide +kernel) (show 3 = gm_na 45 by decide +kernel) (fw_c3 fw_si fw_si fw_si) (show 4 ≤ gm_ml 45 by decide +kernel) (Nat.le_of_ble_eq_true rfl) (by omega) (Nat.zero_le _) (Nat.zero_le _) ?_
  refine rw_put (s := M 10 3) (w := 7) (e0k hE (k := 10) (c := 2) (by decide +kernel)) (e0a hE (k := 11) (q := (0, 168)) (by decide +kernel)) (e0r hE (k := 10) (j := 2) (r := 11) (by decide +kernel)) (by decide) rfl (hC (10, 1, 7) (by decide)) ⟨by omega, by omega⟩ ⟨by omega, by omega⟩ ⟨by omega, by omega⟩ ⟨by omega, by omega⟩ ?_
  show gm_Wp X LX d _ _ 159 10 _ [] n K _ _ Q
  refine gm_sz (gm_p_load (pc := 10) (i := .aload_n 0) (sr := 2) (j := 0) (by decide +kernel) rfl rfl rfl) ?_
  refine gm_sz (fw_gr (pc := 11) (ix := 55) (ci := 1) (j := 12) (r := 10) (by decide +kernel) (e0k hE (k := 3) (c := 1) (by decide +kernel)) (by decide +kernel) (by decide +kernel) (e0r hE (k := 3) (j := 12) (r := 10) (by decide +kernel))) ?_
  refine gm_sz (gm_p_load (pc := 14) (i := .iload_n 1) (sr := 0) (j := 1) (by decide +kernel) rfl rfl rfl) ?_
  refine gm_sz (gm_p_const (pc := 15) (i := .bipush 6) (v := gm_vi 6) (by decide +kernel) (by decide +kernel)) ?_
  refine gm_sz (gm_p_load (pc := 17) (i := .aload_n 0) (sr := 2) (j := 0) (by decide +kernel) rfl rfl rfl) ?_
  refine gm_sz (fw_gi (pc := 18) (ix := 30) (ci := 1) (j := 6) (x := M 3 6) (by decide +kernel) (e0k hE (k := 3) (c := 1) (by decide +kernel)) (by decide +kernel) (by decide +kernel) (uM_ne (by omega))) ?_
  refine gm_c_virt (k := 10) (ci := 2) (mj := 45) (ix := 79) (pc := 21) (as := [gm_vi l, gm_vi 6, gm_vi (M 3 6)]) (st := []) (d' := d - 1) (bc' := 0) (bs' := 0) (by decide +kernel) (by decide +kernel) (by decide +kernel) (by decide +kernel) (e0k hE (k := 10) (c := 2) (by decide +kernel)).1 (e0k hE (k := 10) (c := 2) (by decide +kernel)).2 (by decide) (by decide +kernel) (show 3 = gm_na 45 by decide +kernel) (fw_c3 fw_si fw_si fw_si) (show 4 ≤ gm_ml 45 by decide +kernel) (Nat.le_of_ble_eq_true rfl) (by omega) (Nat.zero_le _) (Nat.zero_le _) ?_
  refine rw_put (s := M 10 3) (w := 7) (e0k hE (k := 10) (c := 2) (by decide +kernel)) (e0a hE (k := 11) (q := (0, 168)) (by decide +kernel)) (e0r hE (k := 10) (j := 2) (r := 11) (by decide +kernel)) (by decide) (uM_ne (by omega)) ((uM_ne (by omega)).trans (hC (10, 1, 7) (by decide))) ⟨by omega, by omega⟩ ⟨by omega, by omega⟩ ⟨by omega, by omega⟩ ⟨by omega, by omega⟩ ?_
  show gm_Wp X LX d _ _ 159 24 _ [] n K _ _ Q
  refine gm_sz (gm_p_load (pc := 24) (i := .aload_n 0) (sr := 2) (j := 0) (by decide +kernel) rfl rfl rfl) ?_
  refine gm_sz (fw_gr (pc := 25) (ix := 61) (ci := 1) (j := 14) (r := 14) (by decide +kernel) (e0k hE (k := 3) (c := 1) (by decide +kernel)) (by decide +kernel) (by decide +kernel) (e0r hE (k := 3) (j := 14) (r := 14) (by decide +kernel))) ?_
  refine gm_c_virt (k := 14) (ci := 2) (mj := 102) (ix := 76) (pc := 28) (as := []) (st := []) (d' := d - 1) (bc' := 0) (bs' := 0) (by decide +kernel) (by decide +kernel) (by decide +kernel) (by decide +kernel) (e0k hE (k := 14) (c := 2) (by decide +kernel)).1 (e0k hE (k := 14) (c := 2) (by decide +kernel)).2 (by decide) (by decide +kernel) (show 0 = gm_na 102 by decide +kernel) fw_c0 (show 1 ≤ gm_ml 102 by decide +kernel) (Nat.le_of_ble_eq_true rfl) (by omega) (Nat.zero_le _) (Nat.zero_le _) ?_
  refine rw_add (s := M 14 3) (m := 24) (e0k hE (k := 14) (c := 2) (by decide +kernel)) ((uM_ne (by omega)).trans (uM_ne (by omega))) ((uM_ne (by omega)).trans ((uM_ne (by omega)).trans (hC (14, 0, 24) (by decide)))) ⟨by omega, by omega⟩ (by omega) ?_
  show gm_Wp X LX d _ _ 159 31 _ [gm_vi (M 14 3)] n K _ _ Q
  refine gm_sz (gm_p_stor (pc := 31) (i := .istore_n 3) (sr := 0) (j := 3) (by decide +kernel) rfl (show 4 ≤ _ from Nat.le_of_ble_eq_true rfl) rfl) ?_
  refine gm_sz (gm_p_load (pc := 32) (i := .aload_n 0) (sr := 2) (j := 0) (by decide +kernel) rfl rfl rfl) ?_
  refine gm_sz (fw_gr (pc := 33) (ix := 61) (ci := 1) (j := 14) (r := 14) (by decide +kernel) (e0k hE (k := 3) (c := 1) (by decide +kernel)) (by decide +kernel) (by decide +kernel) (e0r hE (k := 3) (j := 14) (r := 14) (by decide +kernel))) ?_
  refine gm_sz (gm_p_load (pc := 36) (i := .iload_n 3) (sr := 0) (j := 3) (by decide +kernel) rfl rfl rfl) ?_
  refine gm_sz (gm_p_const (pc := 37) (i := .iconst 0) (v := gm_vi 0) (by decide +kernel) (by decide +kernel)) ?_
  refine gm_sz (gm_p_load (pc := 38) (i := .aload_n 0) (sr := 2) (j := 0) (by decide +kernel) rfl rfl rfl) ?_
  refine gm_sz (fw_gi (pc := 39) (ix := 30) (ci := 1) (j := 6) (x := M 3 6) (by decide +kernel) (e0k hE (k := 3) (c := 1) (by decide +kernel)) (by decide +kernel) (by decide +kernel) ((uM_ne (by omega)).trans ((uM_ne (by omega)).trans (uM_ne (by omega))))) ?_
  refine gm_c_virt (k := 14) (ci := 2) (mj := 45) (ix := 79) (pc := 42) (as := [gm_vi (M 14 3), gm_vi 0, gm_vi (M 3 6)]) (st := []) (d' := d - 1) (bc' := 0) (bs' := 0) (by decide +kernel) (by decide +kernel) (by decide +kernel) (by decide +kernel) (e0k hE (k := 14) (c := 2) (by decide +kernel)).1 (e0k hE (k := 14) (c := 2) (by decide +kernel)).2 (by decide) (by decide +kernel) (show 3 = gm_na 45 by decide +kernel) (fw_c3 fw_si fw_si fw_si) (show 4 ≤ gm_ml 45 by decide +kernel) (Nat.le_of_ble_eq_true rfl) (by omega) (Nat.zero_le _) (Nat.zero_le _) ?_
  refine rw_put (s := (M 14 3) + 1) (w := 3) (e0k hE (k := 14) (c := 2) (by decide +kernel)) (e0a hE (k := 15) (q := (0, 72)) (by decide +kernel)) (e0r hE (k := 14) (j := 2) (r := 15) (by decide +kernel)) (by decide) uM_at ((uM_ne (by omega)).trans ((uM_ne (by omega)).trans ((uM_ne (by omega)).trans (hC (14, 1, 3) (by decide))))) ⟨by omega, by omega⟩ ⟨by omega, by omega⟩ ⟨by omega, by omega⟩ ⟨by omega, by omega⟩ ?_
  show gm_Wp X LX d _ _ 159 45 _ [] n K _ _ Q
  refine gm_sz (gm_p_load (pc := 45) (i := .aload_n 0) (sr := 2) (j := 0) (by decide +kernel) rfl rfl rfl) ?_
  refine gm_sz (fw_gr (pc := 46) (ix := 61) (ci := 1) (j := 14) (r := 14) (by decide +kernel) (e0k hE (k := 3) (c := 1) (by decide +kernel)) (by decide +kernel) (by decide +kernel) (e0r hE (k := 3) (j := 14) (r := 14) (by decide +kernel))) ?_
  refine gm_sz (gm_p_load (pc := 49) (i := .iload_n 3) (sr := 0) (j := 3) (by decide +kernel) rfl rfl rfl) ?_
  refine gm_sz (gm_p_const (pc := 50) (i := .iconst 1) (v := gm_vi 1) (by decide +kernel) (by decide +kernel)) ?_
  refine gm_sz (gm_p_load (pc := 51) (i := .iload_n 1) (sr := 0) (j := 1) (by decide +kernel) rfl rfl rfl) ?_
  refine gm_c_virt (k := 14) (ci := 2) (mj := 45) (ix := 79) (pc := 52) (as := [gm_vi (M 14 3), gm_vi 1, gm_vi l]) (st := []) (d' := d - 1) (bc' := 0) (bs' := 0) (by decide +kernel) (by decide +kernel) (by decide +kernel) (by decide +kernel) (e0k hE (k := 14) (c := 2) (by decide +kernel)).1 (e0k hE (k := 14) (c := 2) (by decide +kernel)).2 (by decide) (by decide +kernel) (show 3 = gm_na 45 by decide +kernel) (fw_c3 fw_si fw_si fw_si) (show 4 ≤ gm_ml 45 by decide +kernel) (Nat.le_of_ble_eq_true rfl) (by omega) (Nat.zero_le _) (Nat.zero_le _) ?_
  refine rw_put (s := (M 14 3) + 1) (w := 3) (e0k hE (k := 14) (c := 2) (by decide +kernel)) (e0a hE (k := 15) (q := (0, 72)) (by decide +kernel)) (e0r hE (k := 14) (j := 2) (r := 15) (by decide +kernel)) (by decide) ((uM_ne (by omega)).trans uM_at) ((uM_ne (by omega)).trans ((uM_ne (by omega)).trans ((uM_ne (by omega)).trans ((uM_ne (by omega)).trans (hC (14, 1, 3) (by decide)))))) ⟨by omega, by omega⟩ ⟨by omega, by omega⟩ ⟨by omega, by omega⟩ ⟨by omega, by omega⟩ ?_
  show gm_Wp X LX d _ _ 159 55 _ [] n K _ _ Q
  refine gm_sz (gm_p_load (pc := 55) (i := .aload_n 0) (sr := 2) (j := 0) (by decide +kernel) rfl rfl rfl) ?_
  refine gm_sz (fw_gr (pc := 56) (ix := 61) (ci := 1) (j := 14) (r := 14) (by decide +kernel) (e0k hE (k := 3) (c := 1) (by decide +kernel)) (by decide +kernel) (by decide +kernel) (e0r hE (k := 3) (j := 14) (r := 14) (by decide +kernel))) ?_
  refine gm_sz (gm_p_load (pc := 59) (i := .iload_n 3) (sr := 0) (j := 3) (by decide +kernel) rfl rfl rfl) ?_
  refine gm_sz (gm_p_const (pc := 60) (i := .iconst 2) (v := gm_vi 2) (by decide +kernel) (by decide +kernel)) ?_
  refine gm_sz (gm_p_load (pc := 61) (i := .iload_n 2) (sr := 0) (j := 2) (by decide +kernel) rfl rfl rfl) ?_
  refine gm_c_virt (k := 14) (ci := 2) (mj := 45) (ix := 79) (pc := 62) (as := [gm_vi (M 14 3), gm_vi 2, gm_vi p]) (st := []) (d' := d - 1) (bc' := 0) (bs' := 0) (by decide +kernel) (by decide +kernel) (by decide +kernel) (by decide +kernel) (e0k hE (k := 14) (c := 2) (by decide +kernel)).1 (e0k hE (k := 14) (c := 2) (by decide +kernel)).2 (by decide) (by decide +kernel) (show 3 = gm_na 45 by decide +kernel) (fw_c3 fw_si fw_si fw_si) (show 4 ≤ gm_ml 45 by decide +kernel) (Nat.le_of_ble_eq_true rfl) (by omega) (Nat.zero_le _) (Nat.zero_le _) ?_
  refine rw_put (s := (M 14 3) + 1) (w := 3) (e0k hE (k := 14) (c := 2) (by decide +kernel)) (e0a hE (k := 15) (q := (0, 72)) (by decide +kernel)) (e0r hE (k := 14) (j := 2) (r := 15) (by decide +kernel)) (by decide) ((uM_ne (by omega)).trans ((uM_ne (by omega)).trans uM_at)) ((uM_ne (by omega)).trans ((uM_ne (by omega)).trans ((uM_ne (by omega)).trans ((uM_ne (by omega)).trans ((uM_ne (by omega)).trans (hC (14, 1, 3) (by decide))))))) ⟨by omega, by omega⟩ ⟨by omega, by omega⟩ ⟨by omega, by omega⟩ ⟨by omega, by omega⟩ ?_
  show gm_Wp X LX d _ _ 159 65 _ [] n K _ _ Q
  exact gm_r_void (pc := 65) (by decide +kernel) (by decide +kernel) q0
theorem cs_emp (hd : 1 ≤ d) (hE : E0 n K R) (hC : CST M) (h1 : 0 ≤ M 17 3 ∧ M 17 3 ≤ 8) (h2 : 0 ≤ M 19 3 ∧ M 19 3 ≤ 8) (h3 : 0 ≤ M 21 3 ∧ M 21 3 ≤ 8) (h4 : 0 ≤ M 23 3 ∧ M 23 3 ≤ 24) (h5 : 0 ≤ M 25 3 ∧ M 25 3 ≤ 6) (q0 : ¬ (((((M 17 3) + (M 19 3)) + (M 21 3)) + (M 23 3)) + (M 25 3)) = 0 → Q (.inl (some (gm_vi 0))) n K R (M)) (q1 : (((((M 17 3) + (M 19 3)) + (M 21 3)) + (M 23 3)) + (M 25 3)) = 0 → Q (.inl (some (gm_vi 1))) n K R (M)) : gm_Wp X LX d bc bs 105 0 (gm_ent 105 [gm_vr 16]) [] n K R M Q := by
  refine gm_sz (gm_p_load (pc := 0) (i := .aload_n 0) (sr := 2) (j := 0) (by decide +kernel) rfl rfl rfl) ?_
  refine gm_sz (fw_gr (pc := 1) (ix := 45) (ci := 1) (j := 9) (r := 17) (by decide +kernel) (e0k hE (k := 16) (c := 1) (by decide +kernel)) (by decide +kernel) (by decide +kernel) (e0r hE (k := 16) (j := 9) (r := 17) (by decide +kernel))) ?_
  refine gm_c_virt (k := 17) (ci := 2) (mj := 9) (ix := 68) (pc := 4) (as := []) (st := []) (d' := d - 1) (bc' := 0) (bs' := 0) (by decide +kernel) (by decide +kernel) (by decide +kernel) (by decide +kernel) (e0k hE (k := 17) (c := 2) (by decide +kernel)).1 (e0k hE (k := 17) (c := 2) (by decide +kernel)).2 (by decide) (by decide +kernel) (show 0 = gm_na 9 by decide +kernel) fw_c0 (show 1 ≤ gm_ml 9 by decide +kernel) (Nat.le_of_ble_eq_true rfl) (by omega) (Nat.zero_le _) (Nat.zero_le _) ?_
  refine rw_size (s := M 17 3) (e0k hE (k := 17) (c := 2) (by decide +kernel)) rfl ?_
  show gm_Wp X LX d _ _ 105 7 _ [gm_vi (M 17 3)] n K _ _ Q
  refine gm_sz (gm_p_load (pc := 7) (i := .aload_n 0) (sr := 2) (j := 0) (by decide +kernel) rfl rfl rfl) ?_
  refine gm_sz (fw_gr (pc := 8) (ix := 49) (ci := 1) (j := 10) (r := 19) (by decide +kernel) (e0k hE (k := 16) (c := 1) (by decide +kernel)) (by decide +kernel) (by decide +kernel) (e0r hE (k := 16) (j := 10) (r := 19) (by decide +kernel))) ?_
  refine gm_c_virt (k := 19) (ci := 2) (mj := 9) (ix := 68) (pc := 11) (as := []) (st := [gm_vi (M 17 3)]) (d' := d - 1) (bc' := 0) (bs' := 0) (by decide +kernel) (by decide +kernel) (by decide +kernel) (by decide +kernel) (e0k hE (k := 19) (c := 2) (by decide +kernel)).1 (e0k hE (k := 19) (c := 2) (by decide +kernel)).2 (by decide) (by decide +kernel) (show 0 = gm_na 9 by decide +kernel) fw_c0 (show 1 ≤ gm_ml 9 by decide +kernel) (Nat.le_of_ble_eq_true rfl) (by omega) (Nat.zero_le _) (Nat.zero_le _) ?_
  refine rw_size (s := M 19 3) (e0k hE (k := 19) (c := 2) (by decide +kernel)) rfl ?_
  show gm_Wp X LX d _ _ 105 14 _ [gm_vi (M 19 3), gm_vi (M 17 3)] n K _ _ Q
  refine gm_sz (gm_p_bin (pc := 14) (i := .iadd) (f := fun x y => x + y) (by decide +kernel) rfl) ?_
  refine gm_sz (gm_p_load (pc := 15) (i := .aload_n 0) (sr := 2) (j := 0) (by decide +kernel) rfl rfl rfl) ?_
  refine gm_sz (fw_gr (pc := 16) (ix := 52) (ci := 1) (j := 11) (r := 21) (by decide +kernel) (e0k hE (k := 16) (c := 1) (by decide +kernel)) (by decide +kernel) (by decide +kernel) (e0r hE (k := 16) (j := 11) (r := 21) (by decide +kernel))) ?_
  refine gm_c_virt (k := 21) (ci := 2) (mj := 9) (ix := 68) (pc := 19) (as := []) (st := [gm_vi ((M 17 3) + (M 19 3))]) (d' := d - 1) (bc' := 0) (bs' := 0) (by decide +kernel) (by decide +kernel) (by decide +kernel) (by decide +kernel) (e0k hE (k := 21) (c := 2) (by decide +kernel)).1 (e0k hE (k := 21) (c := 2) (by decide +kernel)).2 (by decide) (by decide +kernel) (show 0 = gm_na 9 by decide +kernel) fw_c0 (show 1 ≤ gm_ml 9 by decide +kernel) (Nat.le_of_ble_eq_true rfl) (by omega) (Nat.zero_le _) (Nat.zero_le _) ?_
  refine rw_size (s := M 21 3) (e0k hE (k := 21) (c := 2) (by decide +kernel)) rfl ?_
  show gm_Wp X LX d _ _ 105 22 _ [gm_vi (M 21 3), gm_vi ((M 17 3) + (M 19 3))] n K _ _ Q
  refine gm_sz (gm_p_bin (pc := 22) (i := .iadd) (f := fun x y => x + y) (by decide +kernel) rfl) ?_
  refine gm_sz (gm_p_load (pc := 23) (i := .aload_n 0) (sr := 2) (j := 0) (by decide +kernel) rfl rfl rfl) ?_
  refine gm_sz (fw_gr (pc := 24) (ix := 55) (ci := 1) (j := 12) (r := 23) (by decide +kernel) (e0k hE (k := 16) (c := 1) (by decide +kernel)) (by decide +kernel) (by decide +kernel) (e0r hE (k := 16) (j := 12) (r := 23) (by decide +kernel))) ?_
  refine gm_c_virt (k := 23) (ci := 2) (mj := 9) (ix := 68) (pc := 27) (as := []) (st := [gm_vi (((M 17 3) + (M 19 3)) + (M 21 3))]) (d' := d - 1) (bc' := 0) (bs' := 0) (by decide +kernel) (by decide +kernel) (by decide +kernel) (by decide +kernel) (e0k hE (k := 23) (c := 2) (by decide +kernel)).1 (e0k hE (k := 23) (c := 2) (by decide +kernel)).2 (by decide) (by decide +kernel) (show 0 = gm_na 9 by decide +kernel) fw_c0 (show 1 ≤ gm_ml 9 by decide +kernel) (Nat.le_of_ble_eq_true rfl) (by omega) (Nat.zero_le _) (Nat.zero_le _) ?_
  refine rw_size (s := M 23 3) (e0k hE (k := 23) (c := 2) (by decide +kernel)) rfl ?_
  show gm_Wp X LX d _ _ 105 30 _ [gm_vi (M 23 3), gm_vi (((M 17 3) + (M 19 3)) + (M 21 3))] n K _ _ Q
  refine gm_sz (gm_p_bin (pc := 30) (i := .iadd) (f := fun x y => x + y) (by decide +kernel) rfl) ?_
  refine gm_sz (gm_p_load (pc := 31) (i := .aload_n 0) (sr := 2) (j := 0) (by decide +kernel) rfl rfl rfl) ?_
  refine gm_sz (fw_gr (pc := 32) (ix := 58) (ci := 1) (j := 13) (r := 25) (by decide +kernel) (e0k hE (k := 16) (c := 1) (by decide +kernel)) (by decide +kernel) (by decide +kernel) (e0r hE (k := 16) (j := 13) (r := 25) (by decide +kernel))) ?_
  refine gm_c_virt (k := 25) (ci := 2) (mj := 9) (ix := 68) (pc := 35) (as := []) (st := [gm_vi ((((M 17 3) + (M 19 3)) + (M 21 3)) + (M 23 3))]) (d' := d - 1) (bc' := 0) (bs' := 0) (by decide +kernel) (by decide +kernel) (by decide +kernel) (by decide +kernel) (e0k hE (k := 25) (c := 2) (by decide +kernel)).1 (e0k hE (k := 25) (c := 2) (by decide +kernel)).2 (by decide) (by decide +kernel) (show 0 = gm_na 9 by decide +kernel) fw_c0 (show 1 ≤ gm_ml 9 by decide +kernel) (Nat.le_of_ble_eq_true rfl) (by omega) (Nat.zero_le _) (Nat.zero_le _) ?_
  refine rw_size (s := M 25 3) (e0k hE (k := 25) (c := 2) (by decide +kernel)) rfl ?_
  show gm_Wp X LX d _ _ 105 38 _ [gm_vi (M 25 3), gm_vi ((((M 17 3) + (M 19 3)) + (M 21 3)) + (M 23 3))] n K _ _ Q
  refine gm_sz (gm_p_bin (pc := 38) (i := .iadd) (f := fun x y => x + y) (by decide +kernel) rfl) ?_
  refine fw_if (cc := .ne) (pc := 39) (off := 7) (by decide +kernel) (by decide) ⟨by omega, by omega⟩ (fun h39 => ?_) (fun h39 => ?_)
  · have h39 : ¬ (((((M 17 3) + (M 19 3)) + (M 21 3)) + (M 23 3)) + (M 25 3)) = 0 := h39
    refine gm_sz (gm_p_const (pc := 46) (i := .iconst 0) (v := gm_vi 0) (by decide +kernel) (by decide +kernel)) ?_
    exact gm_r_int (pc := 47) (by decide +kernel) (Or.inr ⟨(by decide +kernel), Or.inl rfl⟩) (q0 h39)
  · have h39 : (((((M 17 3) + (M 19 3)) + (M 21 3)) + (M 23 3)) + (M 25 3)) = 0 := Classical.not_not.mp h39
    refine gm_sz (gm_p_const (pc := 42) (i := .iconst 1) (v := gm_vi 1) (by decide +kernel) (by decide +kernel)) ?_
    refine gm_sz (gm_p_goto (pc := 43) (off := 4) (by decide +kernel) (by decide)) ?_
    exact gm_r_int (pc := 47) (by decide +kernel) (Or.inr ⟨(by decide +kernel), Or.inr rfl⟩) (q1 h39)
end CST1
noncomputable abbrev nL (N : Int → Int) (l c : Int) : Int := N (119 + (l * 7 + c))
/-- the bits of a year's floods -/
noncomputable def fbit (N : Int → Int) (y b : Int) : Prop := ∀ f : Nat, f < 8 → (gm_and (gm_shr b (f : Int)) 1 = 1 ↔ ((f : Int) < N 5 ∧ (N (71 + (f * 3 + 0))) = y))
/-- bounds of what is told -/
noncomputable def NR (N : Int → Int) : Prop := ((1 ≤ N 0 ∧ N 0 ≤ 6) ∧ (10 ≤ N 1 ∧ N 1 ≤ 99) ∧ (0 ≤ N 10 ∧ N 10 ≤ 98) ∧ (0 ≤ N 11 ∧ N 11 ≤ 9) ∧ (0 ≤ N 12 ∧ N 12 ≤ 6) ∧ (0 ≤ N 9 ∧ N 9 ≤ 299)) ∧ ((0 ≤ N 2 ∧ N 2 ≤ 8) ∧ (0 ≤ N 5 ∧ N 5 ≤ 8) ∧ (0 ≤ N 3 ∧ N 3 ≤ 8) ∧ (0 ≤ N 4 ∧ N 4 ≤ 24) ∧ (0 ≤ N 6 ∧ N 6 ≤ 6) ∧ (0 ≤ N 14 ∧ N 14 ≤ 24) ∧ (0 ≤ N 7 ∧ N 7 ≤ 12) ∧ (0 ≤ N 13 ∧ N 13 ≤ 9999)) ∧
  (∀ f : Int, 0 ≤ f → f < N 5 → (0 ≤ (N (71 + (f * 3 + 0))) ∧ (N (71 + (f * 3 + 0))) ≤ 299) ∧ (0 ≤ (N (71 + (f * 3 + 1))) ∧ (N (71 + (f * 3 + 1))) < N 1) ∧ (0 ≤ (N (71 + (f * 3 + 2))) ∧ (N (71 + (f * 3 + 2))) ≤ 20)) ∧
  (∀ p : Int, 0 ≤ p → p < N 3 → (0 ≤ (N (95 + (p * 3 + 0))) ∧ (N (95 + (p * 3 + 0))) < N 0) ∧ (0 ≤ (N (95 + (p * 3 + 1))) ∧ (N (95 + (p * 3 + 1))) < N 1) ∧ (-1 ≤ (N (95 + (p * 3 + 2))) ∧ (N (95 + (p * 3 + 2))) < N 0)) ∧
  (∀ l : Int, 0 ≤ l → l < N 4 → (-1 ≤ (N (119 + (l * 7 + 0))) ∧ (N (119 + (l * 7 + 0))) < N 3) ∧ (-1 ≤ (N (119 + (l * 7 + 1))) ∧ (N (119 + (l * 7 + 1))) < N 3) ∧ (0 ≤ (N (119 + (l * 7 + 2))) ∧ (N (119 + (l * 7 + 2))) < N 0) ∧ (0 ≤ (N (119 + (l * 7 + 3))) ∧ (N (119 + (l * 7 + 3))) ≤ N 9) ∧ (0 ≤ (N (119 + (l * 7 + 4))) ∧ (N (119 + (l * 7 + 4))) < N 1) ∧ (-1 ≤ (N (119 + (l * 7 + 5))) ∧ (N (119 + (l * 7 + 5))) < N 3) ∧ (-1 ≤ (N (119 + (l * 7 + 6))) ∧ (N (119 + (l * 7 + 6))) ≤ 299) ∧ (0 ≤ (N (119 + (l * 7 + 0))) → 0 ≤ (N (119 + (l * 7 + 1)))))
/-- what the class is told, and what it has made of it: heats, speeds, floods -/
noncomputable def TI (N h : Int → Int) (sp : Int → Int → Int) (M : gm_M) : Prop := CST M ∧ cs M 3 = N ∧ (∀ y, 0 ≤ y → y < 300 → M 201 y = h y ∧ (0 ≤ h y ∧ h y ≤ 9) ∧ gm_ir (M 203 y) ∧ fbit N y (M 203 y)) ∧ ∀ l r, 0 ≤ l → l < 6 → 0 ≤ r → r < 99 → M 202 (l * 99 + r) = sp l r
section TII
variable {N h : Int → Int} {sp : Int → Int → Int} {M M2 : gm_M} {W : List (Nat × Option Int)}
theorem ti_lan (hT : TI N h sp M) : M 3 0 = N 0 := congrFun hT.2.1 0
theorem ti_las (hT : TI N h sp M) : M 3 1 = N 1 := congrFun hT.2.1 1
theorem ti_sno (hT : TI N h sp M) : M 3 2 = N 10 := congrFun hT.2.1 10
theorem ti_fal (hT : TI N h sp M) : M 3 3 = N 11 := congrFun hT.2.1 11
theorem ti_str (hT : TI N h sp M) : M 3 4 = N 12 := congrFun hT.2.1 12
theorem ti_now (hT : TI N h sp M) : M 3 6 = N 9 := congrFun hT.2.1 9
theorem ti_flo (hT : TI N h sp M) : M 6 3 = N 5 := congrFun hT.2.1 5
theorem ti_peo (hT : TI N h sp M) : M 8 3 = N 3 := congrFun hT.2.1 3
theorem ti_let (hT : TI N h sp M) : M 10 3 = N 4 := congrFun hT.2.1 4
theorem ti_ope (hT : TI N h sp M) : M 14 3 = N 14 := congrFun hT.2.1 14
theorem ti_aF (hT : TI N h sp M) {j : Int} (h0 : 0 ≤ j) (h1 : j < 24) : M 7 j = N (71 + j) := by
  have e := congrFun hT.2.1 (71 + j)
  rw [← e]
  unfold cs
  rw [if_neg (show ¬ 71 + j < 0 by omega), if_neg (show ¬ 71 + j < 15 by omega), if_neg (show ¬ 71 + j < 71 by omega), if_pos (show 71 + j < 95 by omega)]
  show M 7 j = M 7 _
  congr 1
  omega
theorem ti_aP (hT : TI N h sp M) {j : Int} (h0 : 0 ≤ j) (h1 : j < 24) : M 9 j = N (95 + j) := by
  have e := congrFun hT.2.1 (95 + j)
  rw [← e]
  unfold cs
  rw [if_neg (show ¬ 95 + j < 0 by omega), if_neg (show ¬ 95 + j < 15 by omega), if_neg (show ¬ 95 + j < 71 by omega), if_neg (show ¬ 95 + j < 95 by omega), if_pos (show 95 + j < 119 by omega)]
  show M 9 j = M 9 _
  congr 1
  omega
theorem ti_aL (hT : TI N h sp M) {j : Int} (h0 : 0 ≤ j) (h1 : j < 168) : M 11 j = N (119 + j) := by
  have e := congrFun hT.2.1 (119 + j)
  rw [← e]
  unfold cs
  rw [if_neg (show ¬ 119 + j < 0 by omega), if_neg (show ¬ 119 + j < 15 by omega), if_neg (show ¬ 119 + j < 71 by omega), if_neg (show ¬ 119 + j < 95 by omega), if_neg (show ¬ 119 + j < 119 by omega), if_pos (show 119 + j < 287 by omega)]
  show M 11 j = M 11 _
  congr 1
  omega
/-- what touches neither what is told nor what is made of it -/
noncomputable def okT (W : List (Nat × Option Int)) : Bool := W.all fun w => decide (16 ≤ w.1 ∧ ¬ (201 ≤ w.1 ∧ w.1 ≤ 203)) || (w.1 == 1 || w.1 == 2)
theorem cs_fr (h9 : fr W M M2) (hw : W.all (fun w => !(3 ≤ w.1 && w.1 ≤ 15)) = true) : cs M2 3 = cs M 3 := by
  have e : ∀ k j, 3 ≤ k → k ≤ 15 → M2 k j = M k j := fun k j h1 h2 => h9 k j (fun hm => by have := List.all_eq_true.mp hw _ hm; simp at this; omega) (fun hm => by have := List.all_eq_true.mp hw _ hm; simp at this; omega)
  funext i
  unfold cs
  rw [e 3 0 (by decide) (by decide), e 3 1 (by decide) (by decide), e 3 2 (by decide) (by decide), e 3 3 (by decide) (by decide), e 3 4 (by decide) (by decide), e 3 5 (by decide) (by decide), e 3 6 (by decide) (by decide), e 3 7 (by decide) (by decide), e (3 + 1) 3 (by decide) (by decide), e (3 + 3) 3 (by decide) (by decide), e (3 + 5) 3 (by decide) (by decide), e (3 + 7) 3 (by decide) (by decide), e (3 + 9) 3 (by decide) (by decide), e (3 + 11) 3 (by decide) (by decide), e (3 + 2) _ (by decide) (by decide), e (3 + 4) _ (by decide) (by decide), e (3 + 6) _ (by decide) (by decide), e (3 + 8) _ (by decide) (by decide), e (3 + 10) _ (by decide) (by decide), e (3 + 12) _ (by decide) (by decide)]
theorem ti_fr (hT : TI N h sp M) (h9 : fr W M M2) (hw : okT W = true) (hc : W.all (fun w => cstL.all (fun q => !(q.1 == w.1 && (w.2 == none || w.2 == some q.2.1)))) = true) : TI N h sp M2 := by
  have e : ∀ k j, (3 ≤ k ∧ k ≤ 15 ∨ 201 ≤ k ∧ k ≤ 203) → M2 k j = M k j := fun k j hk => h9 k j (fun hm => by have := List.all_eq_true.mp hw _ hm; simp at this; omega) (fun hm => by have := List.all_eq_true.mp hw _ hm; simp at this; omega)
  refine ⟨cst_fr hT.1 h9 hc, ?_, fun y y1 y2 => ?_, fun l r l1 l2 r1 r2 => ?_⟩
  · rw [cs_fr h9 (List.all_eq_true.mpr fun w hw9 => by have := List.all_eq_true.mp hw w hw9; simp at this ⊢; omega)]
    exact hT.2.1
  · rw [e 201 y (by omega), e 203 y (by omega)]
    exact hT.2.2.1 y y1 y2
  · rw [e 202 _ (by omega)]
    exact hT.2.2.2 l r l1 l2 r1 r2
end TII
end
