/-! FEED: the bytes that both lay behind the TAPE (laid by wip/pp/p5f.py). -/
theorem fw_div {a b : Int} (h : 0 ≤ a) (h2 : a < 2147483648) (hb : 0 < b ∧ b < 2147483648) : gm_div a b = a / b := by
  unfold gm_div
  rw [gm_w_id (by omega) h2, gm_w_id (by omega) hb.2, Int.tdiv_eq_ediv_of_nonneg h]
theorem fw_rem {a b : Int} (h : 0 ≤ a) (h2 : a < 2147483648) (hb : 0 < b ∧ b < 2147483648) : gm_rem a b = a % b := by
  unfold gm_rem
  rw [gm_w_id (by omega) h2, gm_w_id (by omega) hb.2, Int.tmod_eq_emod_of_nonneg h]
/-- the byte r of an int, the highest first -/
def fb (x r : Int) : Int := gm_wb (gm_w x / (if r = 0 then 16777216 else if r = 1 then 65536 else if r = 2 then 256 else 1))
theorem wb_wb {x : Int} : gm_wb (gm_wb x) = gm_wb x := by unfold gm_wb; omega
theorem fb_ir {x r : Int} : -128 ≤ fb x r ∧ fb x r ≤ 127 := by unfold fb gm_wb; omega
theorem fb_sh {x s p : Int} {k : Nat} (hs : ((Int32.ofInt s &&& 31).toBitVec.smod 32).toNat = k) (hp : (2 : Int) ^ k = p) : gm_shr x s = gm_w x / p := by
  unfold gm_shr
  rw [pk_shr _ _ k hs, Int.shiftRight_eq_div_pow, gm_w_toInt]
  congr 1
theorem fb_us {x s p : Int} {k : Nat} (hs : (((Int32.ofInt s).toUInt32 &&& Int32.toUInt32 31).toBitVec % 32).toNat = k) (hp : 2 ^ k = p.toNat) (hp0 : 0 ≤ p) : ∃ N : Int, (N = gm_w x ∨ N = gm_w x + 4294967296) ∧ (gm_ushr x s = N / p ∨ gm_ushr x s = N / p - 4294967296) := by
  have h1 := pk_ushr (Int32.ofInt x) (Int32.ofInt s) k hs
  refine ⟨((Int32.ofInt x).toBitVec.toNat : Int), ?_, ?_⟩
  · rw [← gm_w_toInt]
    show _ = (Int32.ofInt x).toBitVec.toInt ∨ _ = (Int32.ofInt x).toBitVec.toInt + 4294967296
    rw [BitVec.toInt_eq_toNat_cond]
    split <;> omega
  · unfold gm_ushr
    generalize ((Int32.ofInt x).toUInt32 >>> ((Int32.ofInt s).toUInt32 &&& Int32.toUInt32 31)).toInt32 = y at h1 ⊢
    have h2 : ((y.toBitVec.toNat : Nat) : Int) = ((Int32.ofInt x).toBitVec.toNat : Int) / p := by
      rw [h1, hp, Int.natCast_ediv, Int.toNat_of_nonneg hp0]
    show y.toBitVec.toInt = _ ∨ y.toBitVec.toInt = _
    rw [BitVec.toInt_eq_toNat_cond]
    split <;> omega
theorem fb0s {x : Int} : gm_wb (gm_shr x 24) = fb x 0 := by
  rw [fb_sh (s := 24) (p := 16777216) (k := 24) (by decide) (by decide)]
  rfl
theorem fb0u {x : Int} : gm_wb (gm_ushr x 24) = fb x 0 := by
  rw [← fb0s, fb_sh (s := 24) (p := 16777216) (k := 24) (by decide) (by decide)]
  obtain ⟨N, h1, h2⟩ := fb_us (x := x) (s := 24) (p := 16777216) (k := 24) (by decide) (by decide) (by decide)
  have := gm_w_lo x
  have := gm_w_hi x
  unfold gm_wb
  rcases h1 with h1 | h1 <;> rcases h2 with h2 | h2 <;> rw [h2] <;> subst h1 <;> omega
theorem fb1s {x : Int} : gm_wb (gm_shr x 16) = fb x 1 := by
  rw [fb_sh (s := 16) (p := 65536) (k := 16) (by decide) (by decide)]
  rfl
theorem fb1u {x : Int} : gm_wb (gm_ushr x 16) = fb x 1 := by
  rw [← fb1s, fb_sh (s := 16) (p := 65536) (k := 16) (by decide) (by decide)]
  obtain ⟨N, h1, h2⟩ := fb_us (x := x) (s := 16) (p := 65536) (k := 16) (by decide) (by decide) (by decide)
  have := gm_w_lo x
  have := gm_w_hi x
  unfold gm_wb
  rcases h1 with h1 | h1 <;> rcases h2 with h2 | h2 <;> rw [h2] <;> subst h1 <;> omega
theorem fb2s {x : Int} : gm_wb (gm_shr x 8) = fb x 2 := by
  rw [fb_sh (s := 8) (p := 256) (k := 8) (by decide) (by decide)]
  rfl
theorem fb2u {x : Int} : gm_wb (gm_ushr x 8) = fb x 2 := by
  rw [← fb2s, fb_sh (s := 8) (p := 256) (k := 8) (by decide) (by decide)]
  obtain ⟨N, h1, h2⟩ := fb_us (x := x) (s := 8) (p := 256) (k := 8) (by decide) (by decide) (by decide)
  have := gm_w_lo x
  have := gm_w_hi x
  unfold gm_wb
  rcases h1 with h1 | h1 <;> rcases h2 with h2 | h2 <;> rw [h2] <;> subst h1 <;> omega
theorem fb3s {x : Int} : gm_wb (gm_shr x 0) = fb x 3 := by
  rw [fb_sh (s := 0) (p := 1) (k := 0) (by decide) (by decide)]
  rfl
theorem fb3u {x : Int} : gm_wb (gm_ushr x 0) = fb x 3 := by
  rw [← fb3s, fb_sh (s := 0) (p := 1) (k := 0) (by decide) (by decide)]
  obtain ⟨N, h1, h2⟩ := fb_us (x := x) (s := 0) (p := 1) (k := 0) (by decide) (by decide) (by decide)
  have := gm_w_lo x
  have := gm_w_hi x
  unfold gm_wb
  rcases h1 with h1 | h1 <;> rcases h2 with h2 | h2 <;> rw [h2] <;> subst h1 <;> omega
/-- k bytes of the numbers a behind t -/
def fdc (a : Int → Int) (t k : Int) (f : Int → Int) : Int → Int := fun i => if t ≤ i ∧ i < t + k then fb (a ((i - t) / 4)) ((i - t) % 4) else f i
theorem fdc_0 {a f : Int → Int} {t : Int} : fdc a t 0 f = f := by
  funext i
  unfold fdc
  rw [if_neg (by omega)]
theorem fdc_s {a f : Int → Int} {t k v : Int} (hk : 0 ≤ k) (hv : v = fb (a (k / 4)) (k % 4)) : (fun i => if i = t + k then v else fdc a t k f i) = fdc a t (k + 1) f := by
  funext i
  unfold fdc
  by_cases h : i = t + k
  · rw [if_pos h, if_pos (by omega), hv, show i - t = k by omega]
  · rw [if_neg h]
    by_cases h2 : t ≤ i ∧ i < t + k
    · rw [if_pos h2, if_pos (by omega)]
    · rw [if_neg h2, if_neg (by omega)]
/-- the class's TAPE: how long, the bytes -/
def fe (M : gm_M) (t : Int) (F : Int → Int) : gm_M := fun a j => if a = 1 ∧ j = 1 then t else if a = 2 then F j else M a j
section FD
variable {X : Int → Int} {LX d bc bs n : Nat} {K : gm_K} {R : gm_R} {M : gm_M} {Q : gm_Q} {t m x T : Int} {a f F : Int → Int}
theorem fe_1 : fe M T F 1 ((1 : Nat) : Int) = T := by unfold fe; rw [if_pos ⟨rfl, rfl⟩]
theorem fe_t : gm_uM (fe M T F) 1 ((1 : Nat) : Int) x = fe M x F := by
  funext b j
  by_cases h1 : b = 1 <;> by_cases h2 : j = 1 <;> simp [gm_uM, fe, h1, h2]
theorem fe_p {j : Int} : gm_uM (fe M T F) 2 j x = fe M T (fun i => if i = j then x else F i) := by
  funext b i
  by_cases h1 : b = 2 <;> by_cases h2 : i = j <;> simp [gm_uM, fe, h1, h2]
theorem fe_put {e k k2 v : Int} (he : e = t + k) (hk2 : k2 = k + 1) (hk : 0 ≤ k) (hv : v = fb (a (k / 4)) (k % 4)) : gm_uM (fe M T (fdc a t k f)) 2 e v = fe M T (fdc a t k2 f) := by
  rw [fe_p, he, hk2, fdc_s hk hv]
theorem fb0 (h0 : 0 ≤ m) (h4 : m ≤ 4) : gm_wb (gm_ushr (a m) 24) = fb (a ((4 * m + 0) / 4)) ((4 * m + 0) % 4) := by
  rw [fb0u, show (4 * m + 0) / 4 = m by omega, show (4 * m + 0) % 4 = 0 by omega]
theorem fb1 (h0 : 0 ≤ m) (h4 : m ≤ 4) : gm_wb (gm_ushr (a m) 16) = fb (a ((4 * m + 1) / 4)) ((4 * m + 1) % 4) := by
  rw [fb1u, show (4 * m + 1) / 4 = m by omega, show (4 * m + 1) % 4 = 1 by omega]
theorem fb2 (h0 : 0 ≤ m) (h4 : m ≤ 4) : gm_wb (gm_ushr (a m) 8) = fb (a ((4 * m + 2) / 4)) ((4 * m + 2) % 4) := by
  rw [fb2u, show (4 * m + 2) / 4 = m by omega, show (4 * m + 2) % 4 = 2 by omega]
theorem fb3 (h0 : 0 ≤ m) (h4 : m ≤ 4) : gm_wb (gm_ushr (a m) 0) = fb (a ((4 * m + 3) / 4)) ((4 * m + 3) % 4) := by
  rw [fb3u, show (4 * m + 3) / 4 = m by omega, show (4 * m + 3) % 4 = 3 by omega]
theorem fd_c20 (hk1 : (1 ≤ 1 ∧ 1 ≤ n) ∧ (K 1).1 = 0 + 4) (e2 : (1 ≤ 2 ∧ 2 ≤ n) ∧ K 2 = (1, 400)) (hr : R 1 ((0 : Nat) : Int) = 2) (ht : 0 ≤ t ∧ t + 20 ≤ 400) (hm : 0 ≤ m ∧ m ≤ 4) (hq : Q (.inl none) n K R (fe M (t + (4 * m + 4)) (fdc a t (4 * m + 4) f))) : gm_Wp X LX d bc bs 20 0 (gm_ent 20 [gm_vr 1, gm_vi (a m)]) [] n K R (fe M (t + (4 * m + 0)) (fdc a t (4 * m + 0) f)) Q := by
  refine gm_sz (gm_p_const (pc := 0) (i := .bipush 24) (v := gm_vi 24) (by decide +kernel) (by decide +kernel)) ?_
  refine gm_sz (gm_p_stor (pc := 2) (i := .istore_n 2) (sr := 0) (j := 2) (by decide +kernel) rfl (show 3 ≤ _ from Nat.le_of_ble_eq_true rfl) rfl) ?_
  refine gm_sz (gm_p_load (pc := 3) (i := .iload_n 2) (sr := 0) (j := 2) (by decide +kernel) rfl rfl rfl) ?_
  refine fw_iffd (cc := .lt) (pc := 4) (off := 44) (by decide +kernel) (by decide) ⟨by decide, by decide⟩ (by decide) ?_
  refine gm_sz (gm_p_load (pc := 7) (i := .aload_n 0) (sr := 2) (j := 0) (by decide +kernel) rfl rfl rfl) ?_
  refine gm_sz (fw_gi (pc := 8) (ix := 13) (ci := 0) (j := 1) (x := t + (4 * m + 0)) (by decide +kernel) hk1 (by decide +kernel) (by decide +kernel) fe_1) ?_
  refine gm_sz (gm_p_load (pc := 11) (i := .aload_n 0) (sr := 2) (j := 0) (by decide +kernel) rfl rfl rfl) ?_
  refine gm_sz (fw_gr (pc := 12) (ix := 9) (ci := 0) (j := 0) (r := 2) (by decide +kernel) hk1 (by decide +kernel) (by decide +kernel) hr) ?_
  refine gm_sz (fw_al (pc := 15) (k := 2) (len := 400) (by decide +kernel) (e2 : (1 ≤ 2 ∧ 2 ≤ n) ∧ K 2 = (1, 400)).1 (e2 : (1 ≤ 2 ∧ 2 ≤ n) ∧ K 2 = (1, 400)).2 (by decide)) ?_
  refine fw_icf (cc := .ge) (pc := 16) (off := 26) (by decide +kernel) (by decide) ⟨by omega, by omega⟩ ⟨by decide, by decide⟩ (show ¬ 400 ≤ (t + (4 * m + 0)) by omega) ?_
  refine gm_sz (gm_p_load (pc := 19) (i := .aload_n 0) (sr := 2) (j := 0) (by decide +kernel) rfl rfl rfl) ?_
  refine gm_sz (fw_gr (pc := 20) (ix := 9) (ci := 0) (j := 0) (r := 2) (by decide +kernel) hk1 (by decide +kernel) (by decide +kernel) hr) ?_
  refine gm_sz (gm_p_load (pc := 23) (i := .aload_n 0) (sr := 2) (j := 0) (by decide +kernel) rfl rfl rfl) ?_
  refine gm_sz (fw_gi (pc := 24) (ix := 13) (ci := 0) (j := 1) (x := t + (4 * m + 0)) (by decide +kernel) hk1 (by decide +kernel) (by decide +kernel) fe_1) ?_
  refine gm_sz (gm_p_load (pc := 27) (i := .iload_n 1) (sr := 0) (j := 1) (by decide +kernel) rfl rfl rfl) ?_
  refine gm_sz (gm_p_load (pc := 28) (i := .iload_n 2) (sr := 0) (j := 2) (by decide +kernel) rfl rfl rfl) ?_
  refine gm_sz (gm_p_bin (pc := 29) (i := .iushr) (f := gm_ushr) (by decide +kernel) rfl) ?_
  refine gm_sz (gm_p_un (pc := 30) (i := .i2b) (f := fun x => gm_wb x) (by decide +kernel) rfl) ?_
  refine gm_sz (fw_bs (pc := 31) (k := 2) (len := 400) (e0 := t + (4 * m + 0)) (x := gm_wb (gm_ushr (a m) 24)) (M' := fe M (t + (4 * m + 0)) (fdc a t (4 * m + 1) f)) (by decide +kernel) (e2 : (1 ≤ 2 ∧ 2 ≤ n) ∧ K 2 = (1, 400)).1 (e2 : (1 ≤ 2 ∧ 2 ≤ n) ∧ K 2 = (1, 400)).2 (by decide) ⟨by omega, by omega⟩ (fe_put (k := 4 * m + 0) rfl (by omega) (by omega) (wb_wb.trans (fb0 (by omega) (by omega))))) ?_
  refine gm_sz (gm_p_load (pc := 32) (i := .aload_n 0) (sr := 2) (j := 0) (by decide +kernel) rfl rfl rfl) ?_
  refine gm_sz (gm_p_dup (pc := 33) (by decide +kernel) fw_sr) ?_
  refine gm_sz (fw_gi (pc := 34) (ix := 13) (ci := 0) (j := 1) (x := t + (4 * m + 0)) (by decide +kernel) hk1 (by decide +kernel) (by decide +kernel) fe_1) ?_
  refine gm_sz (gm_p_const (pc := 37) (i := .iconst 1) (v := gm_vi 1) (by decide +kernel) (by decide +kernel)) ?_
  refine gm_sz (gm_p_bin (pc := 38) (i := .iadd) (f := fun x y => x + y) (by decide +kernel) rfl) ?_
  refine gm_sz (fw_pi (pc := 39) (ix := 13) (ci := 0) (j := 1) (M' := fe M (t + (4 * m + 1)) (fdc a t (4 * m + 1) f)) (by decide +kernel) hk1 (by decide +kernel) (by decide +kernel) (by decide +kernel) (fe_t.trans (congrArg (fun z => fe M z _) (show t + (4 * m + 0) + 1 = t + (4 * m + 1) by omega)))) ?_
  refine gm_sz (gm_p_iinc (pc := 42) (j := 2) (z := (-8)) (by decide +kernel) rfl) ?_
  refine gm_sz (gm_p_goto (pc := 45) (off := (-42)) (by decide +kernel) (by decide)) ?_
  refine gm_sz (gm_p_load (pc := 3) (i := .iload_n 2) (sr := 0) (j := 2) (by decide +kernel) rfl rfl rfl) ?_
  refine fw_iffd (cc := .lt) (pc := 4) (off := 44) (by decide +kernel) (by decide) ⟨by decide, by decide⟩ (by decide) ?_
  refine gm_sz (gm_p_load (pc := 7) (i := .aload_n 0) (sr := 2) (j := 0) (by decide +kernel) rfl rfl rfl) ?_
  refine gm_sz (fw_gi (pc := 8) (ix := 13) (ci := 0) (j := 1) (x := t + (4 * m + 1)) (by decide +kernel) hk1 (by decide +kernel) (by decide +kernel) fe_1) ?_
  refine gm_sz (gm_p_load (pc := 11) (i := .aload_n 0) (sr := 2) (j := 0) (by decide +kernel) rfl rfl rfl) ?_
  refine gm_sz (fw_gr (pc := 12) (ix := 9) (ci := 0) (j := 0) (r := 2) (by decide +kernel) hk1 (by decide +kernel) (by decide +kernel) hr) ?_
  refine gm_sz (fw_al (pc := 15) (k := 2) (len := 400) (by decide +kernel) (e2 : (1 ≤ 2 ∧ 2 ≤ n) ∧ K 2 = (1, 400)).1 (e2 : (1 ≤ 2 ∧ 2 ≤ n) ∧ K 2 = (1, 400)).2 (by decide)) ?_
  refine fw_icf (cc := .ge) (pc := 16) (off := 26) (by decide +kernel) (by decide) ⟨by omega, by omega⟩ ⟨by decide, by decide⟩ (show ¬ 400 ≤ (t + (4 * m + 1)) by omega) ?_
  refine gm_sz (gm_p_load (pc := 19) (i := .aload_n 0) (sr := 2) (j := 0) (by decide +kernel) rfl rfl rfl) ?_
  refine gm_sz (fw_gr (pc := 20) (ix := 9) (ci := 0) (j := 0) (r := 2) (by decide +kernel) hk1 (by decide +kernel) (by decide +kernel) hr) ?_
  refine gm_sz (gm_p_load (pc := 23) (i := .aload_n 0) (sr := 2) (j := 0) (by decide +kernel) rfl rfl rfl) ?_
  refine gm_sz (fw_gi (pc := 24) (ix := 13) (ci := 0) (j := 1) (x := t + (4 * m + 1)) (by decide +kernel) hk1 (by decide +kernel) (by decide +kernel) fe_1) ?_
  refine gm_sz (gm_p_load (pc := 27) (i := .iload_n 1) (sr := 0) (j := 1) (by decide +kernel) rfl rfl rfl) ?_
  refine gm_sz (gm_p_load (pc := 28) (i := .iload_n 2) (sr := 0) (j := 2) (by decide +kernel) rfl rfl rfl) ?_
  refine gm_sz (gm_p_bin (pc := 29) (i := .iushr) (f := gm_ushr) (by decide +kernel) rfl) ?_
  refine gm_sz (gm_p_un (pc := 30) (i := .i2b) (f := fun x => gm_wb x) (by decide +kernel) rfl) ?_
  refine gm_sz (fw_bs (pc := 31) (k := 2) (len := 400) (e0 := t + (4 * m + 1)) (x := gm_wb (gm_ushr (a m) 16)) (M' := fe M (t + (4 * m + 1)) (fdc a t (4 * m + 2) f)) (by decide +kernel) (e2 : (1 ≤ 2 ∧ 2 ≤ n) ∧ K 2 = (1, 400)).1 (e2 : (1 ≤ 2 ∧ 2 ≤ n) ∧ K 2 = (1, 400)).2 (by decide) ⟨by omega, by omega⟩ (fe_put (k := 4 * m + 1) rfl (by omega) (by omega) (wb_wb.trans (fb1 (by omega) (by omega))))) ?_
  refine gm_sz (gm_p_load (pc := 32) (i := .aload_n 0) (sr := 2) (j := 0) (by decide +kernel) rfl rfl rfl) ?_
  refine gm_sz (gm_p_dup (pc := 33) (by decide +kernel) fw_sr) ?_
  refine gm_sz (fw_gi (pc := 34) (ix := 13) (ci := 0) (j := 1) (x := t + (4 * m + 1)) (by decide +kernel) hk1 (by decide +kernel) (by decide +kernel) fe_1) ?_
  refine gm_sz (gm_p_const (pc := 37) (i := .iconst 1) (v := gm_vi 1) (by decide +kernel) (by decide +kernel)) ?_
  refine gm_sz (gm_p_bin (pc := 38) (i := .iadd) (f := fun x y => x + y) (by decide +kernel) rfl) ?_
  refine gm_sz (fw_pi (pc := 39) (ix := 13) (ci := 0) (j := 1) (M' := fe M (t + (4 * m + 2)) (fdc a t (4 * m + 2) f)) (by decide +kernel) hk1 (by decide +kernel) (by decide +kernel) (by decide +kernel) (fe_t.trans (congrArg (fun z => fe M z _) (show t + (4 * m + 1) + 1 = t + (4 * m + 2) by omega)))) ?_
  refine gm_sz (gm_p_iinc (pc := 42) (j := 2) (z := (-8)) (by decide +kernel) rfl) ?_
  refine gm_sz (gm_p_goto (pc := 45) (off := (-42)) (by decide +kernel) (by decide)) ?_
  refine gm_sz (gm_p_load (pc := 3) (i := .iload_n 2) (sr := 0) (j := 2) (by decide +kernel) rfl rfl rfl) ?_
  refine fw_iffd (cc := .lt) (pc := 4) (off := 44) (by decide +kernel) (by decide) ⟨by decide, by decide⟩ (by decide) ?_
  refine gm_sz (gm_p_load (pc := 7) (i := .aload_n 0) (sr := 2) (j := 0) (by decide +kernel) rfl rfl rfl) ?_
  refine gm_sz (fw_gi (pc := 8) (ix := 13) (ci := 0) (j := 1) (x := t + (4 * m + 2)) (by decide +kernel) hk1 (by decide +kernel) (by decide +kernel) fe_1) ?_
  refine gm_sz (gm_p_load (pc := 11) (i := .aload_n 0) (sr := 2) (j := 0) (by decide +kernel) rfl rfl rfl) ?_
  refine gm_sz (fw_gr (pc := 12) (ix := 9) (ci := 0) (j := 0) (r := 2) (by decide +kernel) hk1 (by decide +kernel) (by decide +kernel) hr) ?_
  refine gm_sz (fw_al (pc := 15) (k := 2) (len := 400) (by decide +kernel) (e2 : (1 ≤ 2 ∧ 2 ≤ n) ∧ K 2 = (1, 400)).1 (e2 : (1 ≤ 2 ∧ 2 ≤ n) ∧ K 2 = (1, 400)).2 (by decide)) ?_
  refine fw_icf (cc := .ge) (pc := 16) (off := 26) (by decide +kernel) (by decide) ⟨by omega, by omega⟩ ⟨by decide, by decide⟩ (show ¬ 400 ≤ (t + (4 * m + 2)) by omega) ?_
  refine gm_sz (gm_p_load (pc := 19) (i := .aload_n 0) (sr := 2) (j := 0) (by decide +kernel) rfl rfl rfl) ?_
  refine gm_sz (fw_gr (pc := 20) (ix := 9) (ci := 0) (j := 0) (r := 2) (by decide +kernel) hk1 (by decide +kernel) (by decide +kernel) hr) ?_
  refine gm_sz (gm_p_load (pc := 23) (i := .aload_n 0) (sr := 2) (j := 0) (by decide +kernel) rfl rfl rfl) ?_
  refine gm_sz (fw_gi (pc := 24) (ix := 13) (ci := 0) (j := 1) (x := t + (4 * m + 2)) (by decide +kernel) hk1 (by decide +kernel) (by decide +kernel) fe_1) ?_
  refine gm_sz (gm_p_load (pc := 27) (i := .iload_n 1) (sr := 0) (j := 1) (by decide +kernel) rfl rfl rfl) ?_
  refine gm_sz (gm_p_load (pc := 28) (i := .iload_n 2) (sr := 0) (j := 2) (by decide +kernel) rfl rfl rfl) ?_
  refine gm_sz (gm_p_bin (pc := 29) (i := .iushr) (f := gm_ushr) (by decide +kernel) rfl) ?_
  refine gm_sz (gm_p_un (pc := 30) (i := .i2b) (f := fun x => gm_wb x) (by decide +kernel) rfl) ?_
  refine gm_sz (fw_bs (pc := 31) (k := 2) (len := 400) (e0 := t + (4 * m + 2)) (x := gm_wb (gm_ushr (a m) 8)) (M' := fe M (t + (4 * m + 2)) (fdc a t (4 * m + 3) f)) (by decide +kernel) (e2 : (1 ≤ 2 ∧ 2 ≤ n) ∧ K 2 = (1, 400)).1 (e2 : (1 ≤ 2 ∧ 2 ≤ n) ∧ K 2 = (1, 400)).2 (by decide) ⟨by omega, by omega⟩ (fe_put (k := 4 * m + 2) rfl (by omega) (by omega) (wb_wb.trans (fb2 (by omega) (by omega))))) ?_
  refine gm_sz (gm_p_load (pc := 32) (i := .aload_n 0) (sr := 2) (j := 0) (by decide +kernel) rfl rfl rfl) ?_
  refine gm_sz (gm_p_dup (pc := 33) (by decide +kernel) fw_sr) ?_
  refine gm_sz (fw_gi (pc := 34) (ix := 13) (ci := 0) (j := 1) (x := t + (4 * m + 2)) (by decide +kernel) hk1 (by decide +kernel) (by decide +kernel) fe_1) ?_
  refine gm_sz (gm_p_const (pc := 37) (i := .iconst 1) (v := gm_vi 1) (by decide +kernel) (by decide +kernel)) ?_
  refine gm_sz (gm_p_bin (pc := 38) (i := .iadd) (f := fun x y => x + y) (by decide +kernel) rfl) ?_
  refine gm_sz (fw_pi (pc := 39) (ix := 13) (ci := 0) (j := 1) (M' := fe M (t + (4 * m + 3)) (fdc a t (4 * m + 3) f)) (by decide +kernel) hk1 (by decide +kernel) (by decide +kernel) (by decide +kernel) (fe_t.trans (congrArg (fun z => fe M z _) (show t + (4 * m + 2) + 1 = t + (4 * m + 3) by omega)))) ?_
  refine gm_sz (gm_p_iinc (pc := 42) (j := 2) (z := (-8)) (by decide +kernel) rfl) ?_
  refine gm_sz (gm_p_goto (pc := 45) (off := (-42)) (by decide +kernel) (by decide)) ?_
  refine gm_sz (gm_p_load (pc := 3) (i := .iload_n 2) (sr := 0) (j := 2) (by decide +kernel) rfl rfl rfl) ?_
  refine fw_iffd (cc := .lt) (pc := 4) (off := 44) (by decide +kernel) (by decide) ⟨by decide, by decide⟩ (by decide) ?_
  refine gm_sz (gm_p_load (pc := 7) (i := .aload_n 0) (sr := 2) (j := 0) (by decide +kernel) rfl rfl rfl) ?_
  refine gm_sz (fw_gi (pc := 8) (ix := 13) (ci := 0) (j := 1) (x := t + (4 * m + 3)) (by decide +kernel) hk1 (by decide +kernel) (by decide +kernel) fe_1) ?_
  refine gm_sz (gm_p_load (pc := 11) (i := .aload_n 0) (sr := 2) (j := 0) (by decide +kernel) rfl rfl rfl) ?_
  refine gm_sz (fw_gr (pc := 12) (ix := 9) (ci := 0) (j := 0) (r := 2) (by decide +kernel) hk1 (by decide +kernel) (by decide +kernel) hr) ?_
  refine gm_sz (fw_al (pc := 15) (k := 2) (len := 400) (by decide +kernel) (e2 : (1 ≤ 2 ∧ 2 ≤ n) ∧ K 2 = (1, 400)).1 (e2 : (1 ≤ 2 ∧ 2 ≤ n) ∧ K 2 = (1, 400)).2 (by decide)) ?_
  refine fw_icf (cc := .ge) (pc := 16) (off := 26) (by decide +kernel) (by decide) ⟨by omega, by omega⟩ ⟨by decide, by decide⟩ (show ¬ 400 ≤ (t + (4 * m + 3)) by omega) ?_
  refine gm_sz (gm_p_load (pc := 19) (i := .aload_n 0) (sr := 2) (j := 0) (by decide +kernel) rfl rfl rfl) ?_
  refine gm_sz (fw_gr (pc := 20) (ix := 9) (ci := 0) (j := 0) (r := 2) (by decide +kernel) hk1 (by decide +kernel) (by decide +kernel) hr) ?_
  refine gm_sz (gm_p_load (pc := 23) (i := .aload_n 0) (sr := 2) (j := 0) (by decide +kernel) rfl rfl rfl) ?_
  refine gm_sz (fw_gi (pc := 24) (ix := 13) (ci := 0) (j := 1) (x := t + (4 * m + 3)) (by decide +kernel) hk1 (by decide +kernel) (by decide +kernel) fe_1) ?_
  refine gm_sz (gm_p_load (pc := 27) (i := .iload_n 1) (sr := 0) (j := 1) (by decide +kernel) rfl rfl rfl) ?_
  refine gm_sz (gm_p_load (pc := 28) (i := .iload_n 2) (sr := 0) (j := 2) (by decide +kernel) rfl rfl rfl) ?_
  refine gm_sz (gm_p_bin (pc := 29) (i := .iushr) (f := gm_ushr) (by decide +kernel) rfl) ?_
  refine gm_sz (gm_p_un (pc := 30) (i := .i2b) (f := fun x => gm_wb x) (by decide +kernel) rfl) ?_
  refine gm_sz (fw_bs (pc := 31) (k := 2) (len := 400) (e0 := t + (4 * m + 3)) (x := gm_wb (gm_ushr (a m) 0)) (M' := fe M (t + (4 * m + 3)) (fdc a t (4 * m + 4) f)) (by decide +kernel) (e2 : (1 ≤ 2 ∧ 2 ≤ n) ∧ K 2 = (1, 400)).1 (e2 : (1 ≤ 2 ∧ 2 ≤ n) ∧ K 2 = (1, 400)).2 (by decide) ⟨by omega, by omega⟩ (fe_put (k := 4 * m + 3) rfl (by omega) (by omega) (wb_wb.trans (fb3 (by omega) (by omega))))) ?_
  refine gm_sz (gm_p_load (pc := 32) (i := .aload_n 0) (sr := 2) (j := 0) (by decide +kernel) rfl rfl rfl) ?_
  refine gm_sz (gm_p_dup (pc := 33) (by decide +kernel) fw_sr) ?_
  refine gm_sz (fw_gi (pc := 34) (ix := 13) (ci := 0) (j := 1) (x := t + (4 * m + 3)) (by decide +kernel) hk1 (by decide +kernel) (by decide +kernel) fe_1) ?_
  refine gm_sz (gm_p_const (pc := 37) (i := .iconst 1) (v := gm_vi 1) (by decide +kernel) (by decide +kernel)) ?_
  refine gm_sz (gm_p_bin (pc := 38) (i := .iadd) (f := fun x y => x + y) (by decide +kernel) rfl) ?_
  refine gm_sz (fw_pi (pc := 39) (ix := 13) (ci := 0) (j := 1) (M' := fe M (t + (4 * m + 4)) (fdc a t (4 * m + 4) f)) (by decide +kernel) hk1 (by decide +kernel) (by decide +kernel) (by decide +kernel) (fe_t.trans (congrArg (fun z => fe M z _) (show t + (4 * m + 3) + 1 = t + (4 * m + 4) by omega)))) ?_
  refine gm_sz (gm_p_iinc (pc := 42) (j := 2) (z := (-8)) (by decide +kernel) rfl) ?_
  refine gm_sz (gm_p_goto (pc := 45) (off := (-42)) (by decide +kernel) (by decide)) ?_
  refine gm_sz (gm_p_load (pc := 3) (i := .iload_n 2) (sr := 0) (j := 2) (by decide +kernel) rfl rfl rfl) ?_
  refine fw_iftd (cc := .lt) (pc := 4) (off := 44) (by decide +kernel) (by decide) ⟨by decide, by decide⟩ (by decide) ?_
  exact gm_r_void (pc := 48) (by decide +kernel) (by decide +kernel) hq
theorem fd_c19 (hd : 1 ≤ d) (hk1 : (1 ≤ 1 ∧ 1 ≤ n) ∧ (K 1).1 = 0 + 4) (e2 : (1 ≤ 2 ∧ 2 ≤ n) ∧ K 2 = (1, 400)) (hr : R 1 ((0 : Nat) : Int) = 2) (ht : 0 ≤ t ∧ t ≤ 400) (h0 : 381 ≤ t → Q (.inl (some (gm_vi (-1)))) n K R (fe M t f)) (h1 : t ≤ 380 → Q (.inl (some (gm_vi (t + 20)))) n K R (fe M (t + 20) (fdc a t 20 f))) : gm_Wp X LX d bc bs 19 0 (gm_ent 19 [gm_vr 1, gm_vi (a 0), gm_vi (a 1), gm_vi (a 2), gm_vi (a 3), gm_vi (a 4)]) [] n K R (fe M t f) Q := by
  refine gm_sz (gm_p_load (pc := 0) (i := .aload_n 0) (sr := 2) (j := 0) (by decide +kernel) rfl rfl rfl) ?_
  refine gm_sz (fw_gi (pc := 1) (ix := 13) (ci := 0) (j := 1) (x := t) (by decide +kernel) hk1 (by decide +kernel) (by decide +kernel) fe_1) ?_
  refine gm_sz (gm_p_const (pc := 4) (i := .bipush 20) (v := gm_vi 20) (by decide +kernel) (by decide +kernel)) ?_
  refine gm_sz (gm_p_bin (pc := 6) (i := .iadd) (f := fun x y => x + y) (by decide +kernel) rfl) ?_
  refine gm_sz (gm_p_const (pc := 7) (i := .sipush 400) (v := gm_vi 400) (by decide +kernel) (by decide +kernel)) ?_
  refine fw_ic (cc := .le) (pc := 10) (off := 5) (by decide +kernel) (by decide) ⟨by omega, by omega⟩ ⟨by decide, by decide⟩ (fun j1 => ?_) (fun j1 => ?_)
  · have j1 : (t + 20) ≤ 400 := j1
    refine gm_sz (gm_p_load (pc := 15) (i := .aload_n 0) (sr := 2) (j := 0) (by decide +kernel) rfl rfl rfl) ?_
    refine gm_sz (gm_p_load (pc := 16) (i := .iload_n 1) (sr := 0) (j := 1) (by decide +kernel) rfl rfl rfl) ?_
    rw [show fe M t f = fe M (t + (4 * 0 + 0)) (fdc a t (4 * 0 + 0) f) by rw [show (4 * 0 + 0 : Int) = 0 by decide, fdc_0, Int.add_zero]]
    refine gm_c_virt (k := 1) (ci := 0) (mj := 20) (ix := 110) (pc := 17) (as := [gm_vi (a 0)]) (st := []) (d' := d - 1) (bc' := 0) (bs' := 0) (by decide +kernel) (by decide +kernel) (by decide +kernel) (by decide +kernel) hk1.1 hk1.2 (by decide) (by decide +kernel) (show 1 = gm_na 20 by decide +kernel) (fw_c1 fw_si) (show 2 ≤ gm_ml 20 by decide +kernel) (Nat.le_of_ble_eq_true rfl) (by omega) (Nat.zero_le _) (Nat.zero_le _) ?_
    refine fd_c20 (t := t) (m := 0) (a := a) (f := f) hk1 e2 hr ⟨by omega, by omega⟩ (by decide) ?_
    show gm_Wp X LX d _ _ 19 20 _ [] n K R _ Q
    refine gm_sz (gm_p_load (pc := 20) (i := .aload_n 0) (sr := 2) (j := 0) (by decide +kernel) rfl rfl rfl) ?_
    refine gm_sz (gm_p_load (pc := 21) (i := .iload_n 2) (sr := 0) (j := 2) (by decide +kernel) rfl rfl rfl) ?_
    refine gm_c_virt (k := 1) (ci := 0) (mj := 20) (ix := 110) (pc := 22) (as := [gm_vi (a 1)]) (st := []) (d' := d - 1) (bc' := 0) (bs' := 0) (by decide +kernel) (by decide +kernel) (by decide +kernel) (by decide +kernel) hk1.1 hk1.2 (by decide) (by decide +kernel) (show 1 = gm_na 20 by decide +kernel) (fw_c1 fw_si) (show 2 ≤ gm_ml 20 by decide +kernel) (Nat.le_of_ble_eq_true rfl) (by omega) (Nat.zero_le _) (Nat.zero_le _) ?_
    refine fd_c20 (t := t) (m := 1) (a := a) (f := f) hk1 e2 hr ⟨by omega, by omega⟩ (by decide) ?_
    show gm_Wp X LX d _ _ 19 25 _ [] n K R _ Q
    refine gm_sz (gm_p_load (pc := 25) (i := .aload_n 0) (sr := 2) (j := 0) (by decide +kernel) rfl rfl rfl) ?_
    refine gm_sz (gm_p_load (pc := 26) (i := .iload_n 3) (sr := 0) (j := 3) (by decide +kernel) rfl rfl rfl) ?_
    refine gm_c_virt (k := 1) (ci := 0) (mj := 20) (ix := 110) (pc := 27) (as := [gm_vi (a 2)]) (st := []) (d' := d - 1) (bc' := 0) (bs' := 0) (by decide +kernel) (by decide +kernel) (by decide +kernel) (by decide +kernel) hk1.1 hk1.2 (by decide) (by decide +kernel) (show 1 = gm_na 20 by decide +kernel) (fw_c1 fw_si) (show 2 ≤ gm_ml 20 by decide +kernel) (Nat.le_of_ble_eq_true rfl) (by omega) (Nat.zero_le _) (Nat.zero_le _) ?_
    refine fd_c20 (t := t) (m := 2) (a := a) (f := f) hk1 e2 hr ⟨by omega, by omega⟩ (by decide) ?_
    show gm_Wp X LX d _ _ 19 30 _ [] n K R _ Q
    refine gm_sz (gm_p_load (pc := 30) (i := .aload_n 0) (sr := 2) (j := 0) (by decide +kernel) rfl rfl rfl) ?_
    refine gm_sz (gm_p_load (pc := 31) (i := .iload 4) (sr := 0) (j := 4) (by decide +kernel) rfl rfl rfl) ?_
    refine gm_c_virt (k := 1) (ci := 0) (mj := 20) (ix := 110) (pc := 33) (as := [gm_vi (a 3)]) (st := []) (d' := d - 1) (bc' := 0) (bs' := 0) (by decide +kernel) (by decide +kernel) (by decide +kernel) (by decide +kernel) hk1.1 hk1.2 (by decide) (by decide +kernel) (show 1 = gm_na 20 by decide +kernel) (fw_c1 fw_si) (show 2 ≤ gm_ml 20 by decide +kernel) (Nat.le_of_ble_eq_true rfl) (by omega) (Nat.zero_le _) (Nat.zero_le _) ?_
    refine fd_c20 (t := t) (m := 3) (a := a) (f := f) hk1 e2 hr ⟨by omega, by omega⟩ (by decide) ?_
    show gm_Wp X LX d _ _ 19 36 _ [] n K R _ Q
    refine gm_sz (gm_p_load (pc := 36) (i := .aload_n 0) (sr := 2) (j := 0) (by decide +kernel) rfl rfl rfl) ?_
    refine gm_sz (gm_p_load (pc := 37) (i := .iload 5) (sr := 0) (j := 5) (by decide +kernel) rfl rfl rfl) ?_
    refine gm_c_virt (k := 1) (ci := 0) (mj := 20) (ix := 110) (pc := 39) (as := [gm_vi (a 4)]) (st := []) (d' := d - 1) (bc' := 0) (bs' := 0) (by decide +kernel) (by decide +kernel) (by decide +kernel) (by decide +kernel) hk1.1 hk1.2 (by decide) (by decide +kernel) (show 1 = gm_na 20 by decide +kernel) (fw_c1 fw_si) (show 2 ≤ gm_ml 20 by decide +kernel) (Nat.le_of_ble_eq_true rfl) (by omega) (Nat.zero_le _) (Nat.zero_le _) ?_
    refine fd_c20 (t := t) (m := 4) (a := a) (f := f) hk1 e2 hr ⟨by omega, by omega⟩ (by decide) ?_
    show gm_Wp X LX d _ _ 19 42 _ [] n K R _ Q
    refine gm_sz (gm_p_load (pc := 42) (i := .aload_n 0) (sr := 2) (j := 0) (by decide +kernel) rfl rfl rfl) ?_
    refine gm_sz (fw_gi (pc := 43) (ix := 13) (ci := 0) (j := 1) (x := t + (4 * 4 + 4)) (by decide +kernel) hk1 (by decide +kernel) (by decide +kernel) fe_1) ?_
    exact gm_r_int (pc := 46) (by decide +kernel) (Or.inl (by decide +kernel)) (h1 (by omega))
  · have j1 : ¬ (t + 20) ≤ 400 := j1
    refine gm_sz (gm_p_const (pc := 13) (i := .iconst (-1)) (v := gm_vi (-1)) (by decide +kernel) (by decide +kernel)) ?_
    exact gm_r_int (pc := 14) (by decide +kernel) (Or.inl (by decide +kernel)) (h0 (by omega))
/-- the reference's TAPE -/
def ff (M : gm_M) (t : Int) (F V : Int → Int) : gm_M := fun b j => if b = 226 then (if j = 0 then 0 else if j = 8 then t else M b j) else if b = 231 then F j else if b = 232 then V j else M b j
variable {V : Int → Int}
theorem ff_8 : ff M T F V 226 ((8 : Nat) : Int) = T := by
  show ff M T F V 226 8 = T
  unfold ff
  rw [if_pos rfl, if_neg (by decide), if_pos rfl]
theorem ff_t : gm_uM (ff M T F V) 226 ((8 : Nat) : Int) x = ff M x F V := by
  show gm_uM (ff M T F V) 226 8 x = ff M x F V
  funext b j
  by_cases h1 : b = 226 <;> by_cases h2 : j = 8 <;> simp [gm_uM, ff, h1, h2]
theorem ff_p {j : Int} : gm_uM (ff M T F V) 231 j x = ff M T (fun i => if i = j then x else F i) V := by
  funext b i
  by_cases h1 : b = 231 <;> by_cases h2 : i = j <;> simp [gm_uM, ff, h1, h2]
theorem ff_v {j : Int} : gm_uM (ff M T F V) 232 j x = ff M T F (fun i => if i = j then x else V i) := by
  funext b i
  by_cases h1 : b = 232 <;> by_cases h2 : i = j <;> simp [gm_uM, ff, h1, h2]
theorem ff_0 : gm_uM M 226 ((0 : Nat) : Int) 0 = ff M (M 226 8) (M 231) (M 232) := by
  show gm_uM M 226 0 0 = _
  funext b j
  unfold gm_uM ff
  by_cases h1 : b = 226
  · subst h1
    by_cases h2 : j = 0
    · subst h2; simp
    · by_cases h3 : j = 8
      · subst h3; simp
      · simp [h2, h3]
  · by_cases h2 : b = 231
    · subst h2; simp
    · by_cases h3 : b = 232
      · subst h3; simp
      · simp [h1, h2, h3]
theorem ff_put {e k v : Int} (he : e = t + k) (hk : 0 ≤ k) (hv : v = fb (a (k / 4)) (k % 4)) : gm_uM (ff M T (fdc a t k f) V) 231 e v = ff M T (fdc a t (k + 1) f) V := by
  rw [ff_p, he, fdc_s hk hv]
theorem ff_by {k : Int} (h : 0 ≤ k) : gm_wb (gm_shr x (24 - 8 * (k % 4))) = fb x (k % 4) := by
  have h4 : k % 4 = 0 ∨ k % 4 = 1 ∨ k % 4 = 2 ∨ k % 4 = 3 := by omega
  rcases h4 with h4 | h4 | h4 | h4 <;> rw [h4]
  · exact fb0s
  · exact fb1s
  · exact fb2s
  · exact fb3s
theorem fd_l239 (hk : (1 ≤ 226 ∧ 226 ≤ n) ∧ (K 226).1 = 11 + 4) (e1 : (1 ≤ 231 ∧ 231 ≤ n) ∧ K 231 = (1, 400)) (e5 : (1 ≤ 232 ∧ 232 ≤ n) ∧ K 232 = (0, 5)) (hr1 : R 226 ((7 : Nat) : Int) = 231) (hr5 : R 226 ((14 : Nat) : Int) = 232) (ht : 0 ≤ t ∧ t ≤ 380) (hV : ∀ j : Int, 0 ≤ j ∧ j ≤ 4 → V j = a j) (hq : Q (.inl (some (gm_vi (t + 20)))) n K R (ff M (t + 20) (fdc a t 20 f) V)) : ∀ (u : Nat) (k : Int), k + u = 20 → 0 ≤ k → gm_Wp X LX d bc bs 239 60 [some (gm_vr 226), some (gm_vi (a 0)), some (gm_vi (a 1)), some (gm_vi (a 2)), some (gm_vi (a 3)), some (gm_vi (a 4)), some (gm_vi k)] [] n K R (ff M t (fdc a t k f) V) Q := by
  intro u
  induction u with
  | zero =>
    intro k hku hk0
    have hk20 : k = 20 := by omega
    subst hk20
    refine gm_sz (gm_p_load (pc := 60) (i := .iload 6) (sr := 0) (j := 6) (by decide +kernel) rfl rfl rfl) ?_
    refine gm_sz (gm_p_const (pc := 62) (i := .bipush 20) (v := gm_vi 20) (by decide +kernel) (by decide +kernel)) ?_
    refine fw_ictd (cc := .ge) (pc := 64) (off := 42) (by decide +kernel) (by decide) ⟨by decide, by decide⟩ ⟨by decide, by decide⟩ (by decide) ?_
    refine gm_sz (gm_p_load (pc := 106) (i := .aload_n 0) (sr := 2) (j := 0) (by decide +kernel) rfl rfl rfl) ?_
    refine gm_sz (gm_p_dup (pc := 107) (by decide +kernel) fw_sr) ?_
    refine gm_sz (fw_gi (pc := 108) (ix := 103) (ci := 11) (j := 8) (x := t) (by decide +kernel) hk (by decide +kernel) (by decide +kernel) ff_8) ?_
    refine gm_sz (gm_p_const (pc := 111) (i := .bipush 20) (v := gm_vi 20) (by decide +kernel) (by decide +kernel)) ?_
    refine gm_sz (gm_p_bin (pc := 113) (i := .iadd) (f := fun x y => x + y) (by decide +kernel) rfl) ?_
    refine gm_sz (fw_pi (pc := 114) (ix := 103) (ci := 11) (j := 8) (M' := ff M (t + 20) (fdc a t 20 f) V) (by decide +kernel) hk (by decide +kernel) (by decide +kernel) (by decide +kernel) ff_t) ?_
    refine gm_sz (gm_p_load (pc := 117) (i := .aload_n 0) (sr := 2) (j := 0) (by decide +kernel) rfl rfl rfl) ?_
    refine gm_sz (fw_gi (pc := 118) (ix := 103) (ci := 11) (j := 8) (x := t + 20) (by decide +kernel) hk (by decide +kernel) (by decide +kernel) ff_8) ?_
    exact gm_r_int (pc := 121) (by decide +kernel) (Or.inl (by decide +kernel)) hq
  | succ u ih =>
    intro k hku hk0
    refine gm_sz (gm_p_load (pc := 60) (i := .iload 6) (sr := 0) (j := 6) (by decide +kernel) rfl rfl rfl) ?_
    refine gm_sz (gm_p_const (pc := 62) (i := .bipush 20) (v := gm_vi 20) (by decide +kernel) (by decide +kernel)) ?_
    refine fw_icf (cc := .ge) (pc := 64) (off := 42) (by decide +kernel) (by decide) ⟨by omega, by omega⟩ ⟨by decide, by decide⟩ (show ¬ 20 ≤ k by omega) ?_
    refine gm_sz (gm_p_load (pc := 67) (i := .aload_n 0) (sr := 2) (j := 0) (by decide +kernel) rfl rfl rfl) ?_
    refine gm_sz (fw_gr (pc := 68) (ix := 26) (ci := 11) (j := 7) (r := 231) (by decide +kernel) hk (by decide +kernel) (by decide +kernel) hr1) ?_
    refine gm_sz (gm_p_load (pc := 71) (i := .aload_n 0) (sr := 2) (j := 0) (by decide +kernel) rfl rfl rfl) ?_
    refine gm_sz (fw_gi (pc := 72) (ix := 103) (ci := 11) (j := 8) (x := t) (by decide +kernel) hk (by decide +kernel) (by decide +kernel) ff_8) ?_
    refine gm_sz (gm_p_load (pc := 75) (i := .iload 6) (sr := 0) (j := 6) (by decide +kernel) rfl rfl rfl) ?_
    refine gm_sz (gm_p_bin (pc := 77) (i := .iadd) (f := fun x y => x + y) (by decide +kernel) rfl) ?_
    refine gm_sz (gm_p_load (pc := 78) (i := .aload_n 0) (sr := 2) (j := 0) (by decide +kernel) rfl rfl rfl) ?_
    refine gm_sz (fw_gr (pc := 79) (ix := 33) (ci := 11) (j := 14) (r := 232) (by decide +kernel) hk (by decide +kernel) (by decide +kernel) hr5) ?_
    refine gm_sz (gm_p_load (pc := 82) (i := .iload 6) (sr := 0) (j := 6) (by decide +kernel) rfl rfl rfl) ?_
    refine gm_sz (gm_p_const (pc := 84) (i := .iconst 4) (v := gm_vi 4) (by decide +kernel) (by decide +kernel)) ?_
    refine gm_sz (gm_p_div (pc := 85) (by decide +kernel) (by decide)) ?_
    rw [fw_div (a := k) (b := 4) (by omega) (by omega) (by decide)]
    refine gm_sz (fw_ia (pc := 86) (k := 232) (len := 5) (e0 := k / 4) (x := a (k / 4)) (by decide +kernel) (e5 : (1 ≤ 232 ∧ 232 ≤ n) ∧ K 232 = (0, 5)).1 (e5 : (1 ≤ 232 ∧ 232 ≤ n) ∧ K 232 = (0, 5)).2 (by decide) ⟨by omega, by omega⟩ (hV _ ⟨by omega, by omega⟩)) ?_
    refine gm_sz (gm_p_const (pc := 87) (i := .bipush 24) (v := gm_vi 24) (by decide +kernel) (by decide +kernel)) ?_
    refine gm_sz (gm_p_const (pc := 89) (i := .bipush 8) (v := gm_vi 8) (by decide +kernel) (by decide +kernel)) ?_
    refine gm_sz (gm_p_load (pc := 91) (i := .iload 6) (sr := 0) (j := 6) (by decide +kernel) rfl rfl rfl) ?_
    refine gm_sz (gm_p_const (pc := 93) (i := .iconst 4) (v := gm_vi 4) (by decide +kernel) (by decide +kernel)) ?_
    refine gm_sz (gm_p_rem (pc := 94) (by decide +kernel) (by decide)) ?_
    rw [fw_rem (a := k) (b := 4) (by omega) (by omega) (by decide)]
    refine gm_sz (gm_p_bin (pc := 95) (i := .imul) (f := fun x y => x * y) (by decide +kernel) rfl) ?_
    refine gm_sz (gm_p_bin (pc := 96) (i := .isub) (f := fun x y => x - y) (by decide +kernel) rfl) ?_
    refine gm_sz (gm_p_bin (pc := 97) (i := .ishr) (f := gm_shr) (by decide +kernel) rfl) ?_
    refine gm_sz (gm_p_un (pc := 98) (i := .i2b) (f := fun x => gm_wb x) (by decide +kernel) rfl) ?_
    refine gm_sz (fw_bs (pc := 99) (k := 231) (len := 400) (e0 := t + k) (x := gm_wb (gm_shr (a (k / 4)) (24 - (8 * (k % 4))))) (M' := ff M t (fdc a t (k + 1) f) V) (by decide +kernel) (e1 : (1 ≤ 231 ∧ 231 ≤ n) ∧ K 231 = (1, 400)).1 (e1 : (1 ≤ 231 ∧ 231 ≤ n) ∧ K 231 = (1, 400)).2 (by decide) ⟨by omega, by omega⟩ (ff_put (k := k) (a := a) (t := t) rfl (by omega) (wb_wb.trans (ff_by (by omega))))) ?_
    refine gm_sz (gm_p_iinc (pc := 100) (j := 6) (z := 1) (by decide +kernel) rfl) ?_
    refine gm_sz (gm_p_goto (pc := 103) (off := (-43)) (by decide +kernel) (by decide)) ?_
    exact ih (k + 1) (by omega) (by omega)
theorem fd_c239 (hk : (1 ≤ 226 ∧ 226 ≤ n) ∧ (K 226).1 = 11 + 4) (e1 : (1 ≤ 231 ∧ 231 ≤ n) ∧ K 231 = (1, 400)) (e5 : (1 ≤ 232 ∧ 232 ≤ n) ∧ K 232 = (0, 5)) (hr1 : R 226 ((7 : Nat) : Int) = 231) (hr5 : R 226 ((14 : Nat) : Int) = 232) (ht : 0 ≤ M 226 8 ∧ M 226 8 ≤ 400) (h0 : 381 ≤ M 226 8 → Q (.inl (some (gm_vi (-1)))) n K R (ff M (M 226 8) (M 231) (M 232))) (h1 : ∀ V, M 226 8 ≤ 380 → Q (.inl (some (gm_vi (M 226 8 + 20)))) n K R (ff M (M 226 8 + 20) (fdc a (M 226 8) 20 (M 231)) V)) : gm_Wp X LX d bc bs 239 0 (gm_ent 239 [gm_vr 226, gm_vi (a 0), gm_vi (a 1), gm_vi (a 2), gm_vi (a 3), gm_vi (a 4)]) [] n K R M Q := by
  refine gm_sz (gm_p_load (pc := 0) (i := .aload_n 0) (sr := 2) (j := 0) (by decide +kernel) rfl rfl rfl) ?_
  refine gm_sz (gm_p_const (pc := 1) (i := .iconst 0) (v := gm_vi 0) (by decide +kernel) (by decide +kernel)) ?_
  refine gm_sz (fw_pi (pc := 2) (ix := 3) (ci := 11) (j := 0) (M' := ff M (M 226 8) (M 231) (M 232)) (by decide +kernel) hk (by decide +kernel) (by decide +kernel) (by decide +kernel) ff_0) ?_
  refine gm_sz (gm_p_load (pc := 5) (i := .aload_n 0) (sr := 2) (j := 0) (by decide +kernel) rfl rfl rfl) ?_
  refine gm_sz (fw_gi (pc := 6) (ix := 103) (ci := 11) (j := 8) (x := M 226 8) (by decide +kernel) hk (by decide +kernel) (by decide +kernel) ff_8) ?_
  refine gm_sz (gm_p_const (pc := 9) (i := .bipush 20) (v := gm_vi 20) (by decide +kernel) (by decide +kernel)) ?_
  refine gm_sz (gm_p_bin (pc := 11) (i := .iadd) (f := fun x y => x + y) (by decide +kernel) rfl) ?_
  refine gm_sz (gm_p_const (pc := 12) (i := .sipush 400) (v := gm_vi 400) (by decide +kernel) (by decide +kernel)) ?_
  refine fw_ic (cc := .le) (pc := 15) (off := 5) (by decide +kernel) (by decide) ⟨by omega, by omega⟩ ⟨by decide, by decide⟩ (fun j1 => ?_) (fun j1 => ?_)
  · have j1 : ((M 226 8) + 20) ≤ 400 := j1
    refine gm_sz (gm_p_load (pc := 20) (i := .aload_n 0) (sr := 2) (j := 0) (by decide +kernel) rfl rfl rfl) ?_
    refine gm_sz (fw_gr (pc := 21) (ix := 33) (ci := 11) (j := 14) (r := 232) (by decide +kernel) hk (by decide +kernel) (by decide +kernel) hr5) ?_
    refine gm_sz (gm_p_const (pc := 24) (i := .iconst 0) (v := gm_vi 0) (by decide +kernel) (by decide +kernel)) ?_
    refine gm_sz (gm_p_load (pc := 25) (i := .iload_n 1) (sr := 0) (j := 1) (by decide +kernel) rfl rfl rfl) ?_
    refine gm_sz (fw_is (pc := 26) (k := 232) (len := 5) (e0 := 0) (x := a 0) (M' := ff M (M 226 8) (M 231) (fun t9 => if t9 = 0 then a 0 else (M 232) t9)) (by decide +kernel) (e5 : (1 ≤ 232 ∧ 232 ≤ n) ∧ K 232 = (0, 5)).1 (e5 : (1 ≤ 232 ∧ 232 ≤ n) ∧ K 232 = (0, 5)).2 (by decide) ⟨by omega, by omega⟩ ff_v) ?_
    refine gm_sz (gm_p_load (pc := 27) (i := .aload_n 0) (sr := 2) (j := 0) (by decide +kernel) rfl rfl rfl) ?_
    refine gm_sz (fw_gr (pc := 28) (ix := 33) (ci := 11) (j := 14) (r := 232) (by decide +kernel) hk (by decide +kernel) (by decide +kernel) hr5) ?_
    refine gm_sz (gm_p_const (pc := 31) (i := .iconst 1) (v := gm_vi 1) (by decide +kernel) (by decide +kernel)) ?_
    refine gm_sz (gm_p_load (pc := 32) (i := .iload_n 2) (sr := 0) (j := 2) (by decide +kernel) rfl rfl rfl) ?_
    refine gm_sz (fw_is (pc := 33) (k := 232) (len := 5) (e0 := 1) (x := a 1) (M' := ff M (M 226 8) (M 231) (fun t9 => if t9 = 1 then a 1 else (fun t9 => if t9 = 0 then a 0 else (M 232) t9) t9)) (by decide +kernel) (e5 : (1 ≤ 232 ∧ 232 ≤ n) ∧ K 232 = (0, 5)).1 (e5 : (1 ≤ 232 ∧ 232 ≤ n) ∧ K 232 = (0, 5)).2 (by decide) ⟨by omega, by omega⟩ ff_v) ?_
    refine gm_sz (gm_p_load (pc := 34) (i := .aload_n 0) (sr := 2) (j := 0) (by decide +kernel) rfl rfl rfl) ?_
    refine gm_sz (fw_gr (pc := 35) (ix := 33) (ci := 11) (j := 14) (r := 232) (by decide +kernel) hk (by decide +kernel) (by decide +kernel) hr5) ?_
    refine gm_sz (gm_p_const (pc := 38) (i := .iconst 2) (v := gm_vi 2) (by decide +kernel) (by decide +kernel)) ?_
    refine gm_sz (gm_p_load (pc := 39) (i := .iload_n 3) (sr := 0) (j := 3) (by decide +kernel) rfl rfl rfl) ?_
    refine gm_sz (fw_is (pc := 40) (k := 232) (len := 5) (e0 := 2) (x := a 2) (M' := ff M (M 226 8) (M 231) (fun t9 => if t9 = 2 then a 2 else (fun t9 => if t9 = 1 then a 1 else (fun t9 => if t9 = 0 then a 0 else (M 232) t9) t9) t9)) (by decide +kernel) (e5 : (1 ≤ 232 ∧ 232 ≤ n) ∧ K 232 = (0, 5)).1 (e5 : (1 ≤ 232 ∧ 232 ≤ n) ∧ K 232 = (0, 5)).2 (by decide) ⟨by omega, by omega⟩ ff_v) ?_
    refine gm_sz (gm_p_load (pc := 41) (i := .aload_n 0) (sr := 2) (j := 0) (by decide +kernel) rfl rfl rfl) ?_
    refine gm_sz (fw_gr (pc := 42) (ix := 33) (ci := 11) (j := 14) (r := 232) (by decide +kernel) hk (by decide +kernel) (by decide +kernel) hr5) ?_
    refine gm_sz (gm_p_const (pc := 45) (i := .iconst 3) (v := gm_vi 3) (by decide +kernel) (by decide +kernel)) ?_
    refine gm_sz (gm_p_load (pc := 46) (i := .iload 4) (sr := 0) (j := 4) (by decide +kernel) rfl rfl rfl) ?_
    refine gm_sz (fw_is (pc := 48) (k := 232) (len := 5) (e0 := 3) (x := a 3) (M' := ff M (M 226 8) (M 231) (fun t9 => if t9 = 3 then a 3 else (fun t9 => if t9 = 2 then a 2 else (fun t9 => if t9 = 1 then a 1 else (fun t9 => if t9 = 0 then a 0 else (M 232) t9) t9) t9) t9)) (by decide +kernel) (e5 : (1 ≤ 232 ∧ 232 ≤ n) ∧ K 232 = (0, 5)).1 (e5 : (1 ≤ 232 ∧ 232 ≤ n) ∧ K 232 = (0, 5)).2 (by decide) ⟨by omega, by omega⟩ ff_v) ?_
    refine gm_sz (gm_p_load (pc := 49) (i := .aload_n 0) (sr := 2) (j := 0) (by decide +kernel) rfl rfl rfl) ?_
    refine gm_sz (fw_gr (pc := 50) (ix := 33) (ci := 11) (j := 14) (r := 232) (by decide +kernel) hk (by decide +kernel) (by decide +kernel) hr5) ?_
    refine gm_sz (gm_p_const (pc := 53) (i := .iconst 4) (v := gm_vi 4) (by decide +kernel) (by decide +kernel)) ?_
    refine gm_sz (gm_p_load (pc := 54) (i := .iload 5) (sr := 0) (j := 5) (by decide +kernel) rfl rfl rfl) ?_
    refine gm_sz (fw_is (pc := 56) (k := 232) (len := 5) (e0 := 4) (x := a 4) (M' := ff M (M 226 8) (M 231) (fun t9 => if t9 = 4 then a 4 else (fun t9 => if t9 = 3 then a 3 else (fun t9 => if t9 = 2 then a 2 else (fun t9 => if t9 = 1 then a 1 else (fun t9 => if t9 = 0 then a 0 else (M 232) t9) t9) t9) t9) t9)) (by decide +kernel) (e5 : (1 ≤ 232 ∧ 232 ≤ n) ∧ K 232 = (0, 5)).1 (e5 : (1 ≤ 232 ∧ 232 ≤ n) ∧ K 232 = (0, 5)).2 (by decide) ⟨by omega, by omega⟩ ff_v) ?_
    refine gm_sz (gm_p_const (pc := 57) (i := .iconst 0) (v := gm_vi 0) (by decide +kernel) (by decide +kernel)) ?_
    refine gm_sz (gm_p_stor (pc := 58) (i := .istore 6) (sr := 0) (j := 6) (by decide +kernel) rfl (show 7 ≤ _ from Nat.le_of_ble_eq_true rfl) rfl) ?_
    have hV9 : ∀ j : Int, 0 ≤ j ∧ j ≤ 4 → (fun t9 => if t9 = 4 then a 4 else (fun t9 => if t9 = 3 then a 3 else (fun t9 => if t9 = 2 then a 2 else (fun t9 => if t9 = 1 then a 1 else (fun t9 => if t9 = 0 then a 0 else (M 232) t9) t9) t9) t9) t9) j = a j := fun j hj => by
      have hj5 : j = 0 ∨ j = 1 ∨ j = 2 ∨ j = 3 ∨ j = 4 := by omega
      rcases hj5 with rfl | rfl | rfl | rfl | rfl <;> rfl
    have q := fd_l239 (X := X) (LX := LX) (d := d) (bc := bc) (bs := bs) (Q := Q) (t := M 226 8) (a := a) (f := M 231) (V := (fun t9 => if t9 = 4 then a 4 else (fun t9 => if t9 = 3 then a 3 else (fun t9 => if t9 = 2 then a 2 else (fun t9 => if t9 = 1 then a 1 else (fun t9 => if t9 = 0 then a 0 else (M 232) t9) t9) t9) t9) t9)) hk e1 e5 hr1 hr5 ⟨by omega, by omega⟩ hV9 (h1 _ (by omega)) 20 0 (by decide) (Int.le_refl _)
    rw [fdc_0] at q
    exact q
  · have j1 : ¬ ((M 226 8) + 20) ≤ 400 := j1
    refine gm_sz (gm_p_const (pc := 18) (i := .iconst (-1)) (v := gm_vi (-1)) (by decide +kernel) (by decide +kernel)) ?_
    exact gm_r_int (pc := 19) (by decide +kernel) (Or.inl (by decide +kernel)) (h0 (by omega))
end FD
