/-! 7a24.c14rn -/
section
/-! THE CLASS: heats, speeds and floods made anew (laid by wip/core/c14.py). -/
/-- the draws -/
noncomputable def hnum (s : Int) : Nat → Int
  | 0 => s
  | k + 1 => (1103515245 * hnum s k) + 12345
theorem and_b {x : Int} : 0 ≤ gm_and x 32767 ∧ gm_and x 32767 ≤ 32767 := by
  have h : (Int32.ofInt x &&& Int32.ofInt 32767).toBitVec = (Int32.ofInt x).toBitVec &&& 32767#32 := rfl
  have h2 : gm_and x 32767 = ((Int32.ofInt x).toBitVec &&& 32767#32).toInt := rfl
  rw [h2]
  have h3 : ((Int32.ofInt x).toBitVec &&& 32767#32).toNat ≤ 32767 := by
    rw [BitVec.toNat_and]
    exact Nat.and_le_right
  rw [BitVec.toInt_eq_toNat_of_lt (by omega)]
  exact ⟨by omega, by omega⟩
/-- the bits behind the sixteenth: a sign shifted in makes no odds -/
theorem and_sh {x : Int} : gm_and (gm_ushr x 16) 32767 = gm_and (gm_shr x 16) 32767 := by
  have e1 : gm_and (gm_ushr x 16) 32767 = ((bI (gm_ushr x 16)) &&& 32767#32).toInt := rfl
  have e2 : gm_and (gm_shr x 16) 32767 = ((bI (gm_shr x 16)) &&& 32767#32).toInt := rfl
  have e3 : bI (gm_ushr x 16) = (bI x) >>> 16 := by
    unfold gm_ushr
    rw [bI_toInt]
    show (Int32.ofInt x).toBitVec >>> (((Int32.ofInt 16).toUInt32 &&& Int32.toUInt32 31).toBitVec % 32#32) = _
    rw [show ((Int32.ofInt 16).toUInt32 &&& Int32.toUInt32 31).toBitVec % 32#32 = 16#32 by decide, BitVec.ushiftRight_eq']
    rfl
  have e4 : bI (gm_shr x 16) = (bI x).sshiftRight 16 := by
    unfold gm_shr
    rw [bI_toInt]
    show (Int32.ofInt x).toBitVec.sshiftRight' ((Int32.ofInt 16 &&& 31).toBitVec.smod 32#32) = _
    rw [show (Int32.ofInt 16 &&& 31).toBitVec.smod 32#32 = 16#32 by decide, BitVec.sshiftRight_eq']
    rfl
  rw [e1, e2, e3, e4]
  congr 1
  apply BitVec.eq_of_getLsbD_eq
  intro i hi
  rw [BitVec.getLsbD_and, BitVec.getLsbD_and, BitVec.getLsbD_ushiftRight, BitVec.getLsbD_sshiftRight]
  by_cases h : i < 15
  · have h1 : ¬ 32 ≤ i := by omega
    have h2 : 16 + i < 32 := by omega
    simp [h1, h2]
  · have h3 : (32767#32).getLsbD i = false := by
      have h32 : i < 32 := hi
      have : i = 15 ∨ i = 16 ∨ i = 17 ∨ i = 18 ∨ i = 19 ∨ i = 20 ∨ i = 21 ∨ i = 22 ∨ i = 23 ∨ i = 24 ∨ i = 25 ∨ i = 26 ∨ i = 27 ∨ i = 28 ∨ i = 29 ∨ i = 30 ∨ i = 31 := by omega
      rcases this with rfl | rfl | rfl | rfl | rfl | rfl | rfl | rfl | rfl | rfl | rfl | rfl | rfl | rfl | rfl | rfl | rfl <;> decide
    rw [h3, Bool.and_false, Bool.and_false]
/-- HEAT -/
noncomputable def hts (s y : Int) : Int := gm_and (gm_shr (hnum s (y.toNat + 1)) 16) 32767 % 10
theorem hts_b {s y : Int} : 0 ≤ hts s y ∧ hts s y ≤ 9 := by
  unfold hts
  exact ⟨by omega, by omega⟩
/-- speeds, those beside the valley 0 -/
noncomputable def spd (N : Int → Int) (l r : Int) : Int := if l < N 0 ∧ r < N 1 then nsp N l r else 0
theorem spd_b {N : Int → Int} (hN : NR N) (hS : NS N) {l r : Int} (h0 : 0 ≤ l) : 0 ≤ spd N l r ∧ spd N l r ≤ 20 := by
  have a2 := hN.2.1.1
  unfold spd
  split
  · rename_i h
    exact rsp_b hS ⟨h0, h.1⟩ (N 2).toNat (by omega)
  · exact ⟨Int.le_refl _, by decide⟩
/-- the speeds in the midst: s sections done, of the next LANES ahead of l, and of l ROWS ahead of r0 -/
noncomputable def SP2 (N : Int → Int) (s : Nat) (l r0 : Int) (M : gm_M) : Prop := ∀ l2 r, 0 ≤ l2 → l2 < 6 → 0 ≤ r → r < 99 → M 202 (l2 * 99 + r) = if l2 < N 0 ∧ r < N 1 then (if l2 < l ∨ (l2 = l ∧ r < r0) then rsp N l2 r (s + 1) else rsp N l2 r s) else 0
section SP14
variable {N : Int → Int} {M M2 : gm_M} {s : Nat} {l r0 : Int}
/-- ahead of the section's ROW nothing changes -/
theorem sp2_f (h : SP2 N s l 0 M) {f : Int} (hf : N (15 + 7 * (s : Int)) = f) : SP2 N s l f M := by
  intro l2 r a b c e
  rw [h l2 r a b c e]
  by_cases h1 : l2 < N 0 ∧ r < N 1
  · rw [if_pos h1, if_pos h1]
    by_cases h2 : l2 < l
    · rw [if_pos (Or.inl h2), if_pos (Or.inl h2)]
    · rw [if_neg (by omega)]
      by_cases h3 : l2 = l ∧ r < f
      · rw [if_pos (Or.inr h3)]
        show _ = if N (15 + 7 * (s : Int)) ≤ r then _ else rsp N l2 r s
        rw [hf, if_neg (by omega)]
      · rw [if_neg (by omega)]
  · rw [if_neg h1, if_neg h1]
theorem sp2_r (h : SP2 N s l r0 M) (hl : 0 ≤ l ∧ l < 6) (hr : 0 ≤ r0 ∧ r0 < 99) (hl0 : l < N 0) (hr1 : r0 < N 1) (hf : N (15 + 7 * (s : Int)) ≤ r0) {v : Int} (hv : N (15 + 7 * (s : Int) + 1 + l) = v) : SP2 N s l (r0 + 1) (gm_uM M 202 (l * 99 + r0) v) := by
  intro l2 r a b c e
  by_cases h9 : l2 = l ∧ r = r0
  · obtain ⟨rfl, rfl⟩ := h9
    rw [uM_at, if_pos ⟨hl0, hr1⟩, if_pos (Or.inr ⟨rfl, by omega⟩)]
    show v = if N (15 + 7 * (s : Int)) ≤ r then N (15 + 7 * (s : Int) + 1 + l2) else _
    rw [if_pos hf, hv]
  · rw [uM_ne (by omega), h l2 r a b c e]
    by_cases h1 : l2 < N 0 ∧ r < N 1
    · rw [if_pos h1, if_pos h1]
      by_cases h2 : l2 < l ∨ (l2 = l ∧ r < r0)
      · rw [if_pos h2, if_pos (by omega)]
      · rw [if_neg h2, if_neg (by omega)]
    · rw [if_neg h1, if_neg h1]
theorem sp2_x (h : SP2 N s l r0 M) (hr : N 1 ≤ r0) : SP2 N s (l + 1) 0 M := by
  intro l2 r a b c e
  rw [h l2 r a b c e]
  by_cases h1 : l2 < N 0 ∧ r < N 1
  · rw [if_pos h1, if_pos h1]
    by_cases h2 : l2 < l ∨ (l2 = l ∧ r < r0)
    · rw [if_pos h2, if_pos (by omega)]
    · rw [if_neg h2, if_neg (by omega)]
  · rw [if_neg h1, if_neg h1]
theorem sp2_n (h : SP2 N s l 0 M) (hl : N 0 ≤ l) : SP2 N (s + 1) 0 0 M := by
  intro l2 r a b c e
  rw [h l2 r a b c e]
  by_cases h1 : l2 < N 0 ∧ r < N 1
  · rw [if_pos h1, if_pos h1, if_pos (by omega), if_neg (by omega)]
  · rw [if_neg h1, if_neg h1]
theorem sp2_z (h : ∀ j, 0 ≤ j → j < 594 → M 202 j = 0) : SP2 N 0 0 0 M := by
  intro l2 r a b c e
  rw [h _ (by omega) (by omega)]
  by_cases h1 : l2 < N 0 ∧ r < N 1
  · rw [if_pos h1, if_neg (by omega)]
    rfl
  · rw [if_neg h1]
theorem sp2_d (h : SP2 N s 0 0 M) (hs : (N 2).toNat = s) : ∀ l2 r, 0 ≤ l2 → l2 < 6 → 0 ≤ r → r < 99 → M 202 (l2 * 99 + r) = spd N l2 r := by
  intro l2 r a b c e
  rw [h l2 r a b c e]
  unfold spd nsp
  rw [hs]
  by_cases h1 : l2 < N 0 ∧ r < N 1
  · rw [if_pos h1, if_pos h1, if_neg (by omega)]
  · rw [if_neg h1, if_neg h1]
end SP14
/-- bits -/
theorem n8 {f : Nat} (h : f < 8) : f = 0 ∨ f = 1 ∨ f = 2 ∨ f = 3 ∨ f = 4 ∨ f = 5 ∨ f = 6 ∨ f = 7 := by omega
theorem sh_8 {k : Nat} (hk : k < 8) : ((Int32.ofInt (k : Int)) &&& 31).toBitVec.smod 32#32 = BitVec.ofNat 32 k := by
  rcases n8 hk with rfl | rfl | rfl | rfl | rfl | rfl | rfl | rfl <;> decide
theorem bI_shr8 {a : Int} {k : Nat} (hk : k < 8) : bI (gm_shr a (k : Int)) = (bI a).sshiftRight k := by
  unfold gm_shr
  rw [bI_toInt]
  show (Int32.ofInt a).toBitVec.sshiftRight' ((Int32.ofInt (k : Int) &&& 31).toBitVec.smod 32#32) = _
  rw [sh_8 hk, BitVec.sshiftRight_eq', BitVec.toNat_ofNat, Nat.mod_eq_of_lt (by omega)]
  rfl
theorem and_1 {x : Int} : gm_and x 1 = 1 ↔ (bI x).getLsbD 0 = true := SB_top (l := []) ⟨by show 1 ≤ 32; decide, fun i v h => by
  cases i with
  | zero => simpa using h
  | succ i => simp at h⟩
theorem bit_8 {b : Int} {f : Nat} (hf : f < 8) : gm_and (gm_shr b (f : Int)) 1 = 1 ↔ (bI b).getLsbD f = true := by
  rw [and_1, bI_shr8 hf, BitVec.getLsbD_sshiftRight]
  have h2 : f < 32 := by omega
  have h3 : ¬ 32 ≤ f := by omega
  simp [h2, h3]
theorem bit_s {k f : Nat} (hk : k < 8) (hf : f < 8) : (bI (gm_shl 1 (k : Int))).getLsbD f = decide (f = k) := by
  rcases n8 hk with rfl | rfl | rfl | rfl | rfl | rfl | rfl | rfl <;> rcases n8 hf with rfl | rfl | rfl | rfl | rfl | rfl | rfl | rfl <;> decide
theorem bit_or {b : Int} {k f : Nat} (hk : k < 8) (hf : f < 8) : gm_and (gm_shr (gm_or b (gm_shl 1 (k : Int))) (f : Int)) 1 = 1 ↔ (gm_and (gm_shr b (f : Int)) 1 = 1 ∨ f = k) := by
  rw [bit_8 hf, bit_8 hf, bI_or, BitVec.getLsbD_or, bit_s hk hf, Bool.or_eq_true, decide_eq_true_eq]
/-- the bits of a year's floods, k of them looked at -/
noncomputable def fbk (N : Int → Int) (k : Nat) (y b : Int) : Prop := gm_ir b ∧ ∀ f : Nat, f < 8 → (gm_and (gm_shr b (f : Int)) 1 = 1 ↔ (f < k ∧ (N (71 + ((f : Int) * 3 + 0))) = y))
section FB14
variable {N : Int → Int} {k : Nat} {y b : Int}
theorem fbk_0 : fbk N 0 y 0 := ⟨⟨by decide, by decide⟩, fun f hf => ⟨fun h => absurd h (fbit_0 hf), fun h => absurd h.1 (Nat.not_lt_zero _)⟩⟩
theorem fbk_y (h : fbk N k y b) (hy : (N (71 + ((k : Int) * 3 + 0))) = y) (hk : k < 8) : fbk N (k + 1) y (gm_or b (gm_shl 1 (k : Int))) := ⟨or_ir, fun f hf => by
  rw [bit_or hk hf, h.2 f hf]
  constructor
  · rintro (h1 | rfl)
    · exact ⟨by omega, h1.2⟩
    · exact ⟨by omega, hy⟩
  · intro h1
    by_cases e : f = k
    · exact Or.inr e
    · exact Or.inl ⟨by omega, h1.2⟩⟩
theorem fbk_n (h : fbk N k y b) (hy : ¬ (N (71 + ((k : Int) * 3 + 0))) = y) : fbk N (k + 1) y b := ⟨h.1, fun f hf => by
  rw [h.2 f hf]
  constructor
  · intro h1
    exact ⟨by omega, h1.2⟩
  · intro h1
    refine ⟨?_, h1.2⟩
    by_cases e : f = k
    · subst e
      exact absurd h1.2 hy
    · omega⟩
theorem fbk_f (h : fbk N k y b) (hk : (k : Int) = N 5) : gm_ir b ∧ fbit N y b := ⟨h.1, fun f hf => by
  rw [h.2 f hf]
  exact ⟨fun a => ⟨by omega, a.2⟩, fun a => ⟨by omega, a.2⟩⟩⟩
end FB14
section RN14
variable {X : Int → Int} {LX d bc bs n : Nat} {K : gm_K} {R : gm_R} {M : gm_M} {Q : gm_Q} {s f v l : Int} {N : Int → Int}
/-- what is told, without what is made of it -/
noncomputable def TQ (N : Int → Int) (M : gm_M) : Prop := CST M ∧ cs M 3 = N
theorem tq_fr {M2 : gm_M} {W : List (Nat × Option Int)} (hT : TQ N M) (h9 : fr W M M2) (hw : W.all (fun w => !(decide (3 ≤ w.1) && decide (w.1 ≤ 15))) = true) (hc : W.all (fun w => cstL.all (fun q => !(q.1 == w.1 && (w.2 == none || w.2 == some q.2.1)))) = true) : TQ N M2 := ⟨cst_fr hT.1 h9 hc, (cs_same fun x j x1 x2 => h9 x j (fun hm => by have := List.all_eq_true.mp hw _ hm; simp at this; omega) (fun hm => by have := List.all_eq_true.mp hw _ hm; simp at this; omega)).trans hT.2⟩
theorem tq_lan (hT : TQ N M) : M 3 0 = N 0 := congrFun hT.2 0
theorem tq_las (hT : TQ N M) : M 3 1 = N 1 := congrFun hT.2 1
theorem tq_see (hT : TQ N M) : M 3 5 = N 13 := congrFun hT.2 13
theorem tq_sec (hT : TQ N M) : M 4 3 = N 2 := congrFun hT.2 2
theorem tq_flo (hT : TQ N M) : M 6 3 = N 5 := congrFun hT.2 5
theorem tq_aS (hT : TQ N M) {j : Int} (h0 : 0 ≤ j) (h1 : j < 56) : M 5 j = N (15 + j) := by
  have e := congrFun hT.2 (15 + j)
  rw [← e]
  unfold cs
  rw [if_neg (show ¬ 15 + j < 0 by omega), if_neg (show ¬ 15 + j < 15 by omega), if_pos (show 15 + j < 71 by omega)]
  show M 5 j = M 5 _
  congr 1
  omega
theorem tq_aF (hT : TQ N M) {j : Int} (h0 : 0 ≤ j) (h1 : j < 24) : M 7 j = N (71 + j) := by
  have e := congrFun hT.2 (71 + j)
  rw [← e]
  unfold cs
  rw [if_neg (show ¬ 71 + j < 0 by omega), if_neg (show ¬ 71 + j < 15 by omega), if_neg (show ¬ 71 + j < 71 by omega), if_pos (show 71 + j < 95 by omega)]
  show M 7 j = M 7 _
  congr 1
  omega
theorem rh_l (hE : E0 n K R) (hT : TQ N M) (hN : NR N) (hq : ∀ M2, fr [((201 : Nat), none)] M M2 → (∀ y, 0 ≤ y → y < 300 → M2 201 y = hts (N 13) y) → Q (.inl none) n K R M2) : ∀ (u k : Nat) (M1 : gm_M), k + u = 300 → fr [((201 : Nat), none)] M M1 → (∀ y, 0 ≤ y → y < (k : Int) → M1 201 y = hts (N 13) y) → gm_Wp X LX d bc bs 6 10 [some (gm_vr 200), some (gm_vi (hnum (N 13) k)), some (gm_vi (k : Int))] [] n K R M1 Q := by
  intro u
  induction u with
  | zero =>
    intro k M1 hk hf hy
    refine gm_sz (gm_p_load (pc := 10) (i := .iload_n 2) (sr := 0) (j := 2) (by decide +kernel) rfl rfl rfl) ?_
    refine gm_sz (gm_p_const (pc := 11) (i := .sipush 300) (v := gm_vi 300) (by decide +kernel) (by decide +kernel)) ?_
    refine fw_ict (cc := .ge) (pc := 14) (off := 35) (by decide +kernel) (by decide) ⟨by omega, by omega⟩ ⟨by decide, by decide⟩ (show 300 ≤ (k : Int) by omega) ?_
    exact gm_r_void (pc := 49) (by decide +kernel) (by decide +kernel) (hq M1 hf (fun y y0 y1 => hy y y0 (by omega)))
  | succ u ih =>
    intro k M1 hk hf hy
    refine gm_sz (gm_p_load (pc := 10) (i := .iload_n 2) (sr := 0) (j := 2) (by decide +kernel) rfl rfl rfl) ?_
    refine gm_sz (gm_p_const (pc := 11) (i := .sipush 300) (v := gm_vi 300) (by decide +kernel) (by decide +kernel)) ?_
    refine fw_icf (cc := .ge) (pc := 14) (off := 35) (by decide +kernel) (by decide) ⟨by omega, by omega⟩ ⟨by decide, by decide⟩ (show ¬ 300 ≤ (k : Int) by omega) ?_
    refine gm_sz (gm_p_ldci (pc := 17) (i := .ldc 56) (ix := 56) (v := 1103515245) (by decide +kernel) (Or.inl rfl) (by decide +kernel)) ?_
    refine gm_sz (gm_p_load (pc := 19) (i := .iload_n 1) (sr := 0) (j := 1) (by decide +kernel) rfl rfl rfl) ?_
    refine gm_sz (gm_p_bin (pc := 20) (i := .imul) (f := fun x y => x * y) (by decide +kernel) rfl) ?_
    refine gm_sz (gm_p_const (pc := 21) (i := .sipush 12345) (v := gm_vi 12345) (by decide +kernel) (by decide +kernel)) ?_
    refine gm_sz (gm_p_bin (pc := 24) (i := .iadd) (f := fun x y => x + y) (by decide +kernel) rfl) ?_
    refine gm_sz (gm_p_stor (pc := 25) (i := .istore_n 1) (sr := 0) (j := 1) (by decide +kernel) rfl (show 2 ≤ _ from Nat.le_of_ble_eq_true rfl) rfl) ?_
    refine gm_sz (gm_p_load (pc := 26) (i := .aload_n 0) (sr := 2) (j := 0) (by decide +kernel) rfl rfl rfl) ?_
    refine gm_sz (fw_gr (pc := 27) (ix := 9) (ci := 4) (j := 1) (r := 201) (by decide +kernel) (e0k hE (k := 200) (c := 4) (by decide +kernel)) (by decide +kernel) (by decide +kernel) (e0r hE (k := 200) (j := 1) (r := 201) (by decide +kernel))) ?_
    refine gm_sz (gm_p_load (pc := 30) (i := .iload_n 2) (sr := 0) (j := 2) (by decide +kernel) rfl rfl rfl) ?_
    refine gm_sz (gm_p_load (pc := 31) (i := .iload_n 1) (sr := 0) (j := 1) (by decide +kernel) rfl rfl rfl) ?_
    refine gm_sz (gm_p_const (pc := 32) (i := .bipush 16) (v := gm_vi 16) (by decide +kernel) (by decide +kernel)) ?_
    refine gm_sz (gm_p_bin (pc := 34) (i := .iushr) (f := gm_ushr) (by decide +kernel) rfl) ?_
    refine gm_sz (gm_p_const (pc := 35) (i := .sipush 32767) (v := gm_vi 32767) (by decide +kernel) (by decide +kernel)) ?_
    refine gm_sz (gm_p_bin (pc := 38) (i := .iand) (f := gm_and) (by decide +kernel) rfl) ?_
    have hb9 := and_b (x := gm_ushr ((1103515245 * (hnum (N 13) k)) + 12345) 16)
    refine gm_sz (gm_p_const (pc := 39) (i := .bipush 10) (v := gm_vi 10) (by decide +kernel) (by decide +kernel)) ?_
    refine gm_sz (gm_p_rem (pc := 41) (by decide +kernel) (by decide)) ?_
    rw [fw_rem (a := gm_and (gm_ushr ((1103515245 * (hnum (N 13) k)) + 12345) 16) 32767) (b := 10) (by omega) (by omega) (by decide)]
    refine gm_sz (fw_is (pc := 42) (k := 201) (len := 300) (e0 := (k : Int)) (x := (gm_and (gm_ushr ((1103515245 * (hnum (N 13) k)) + 12345) 16) 32767) % 10) (M' := gm_uM M1 201 (k : Int) ((gm_and (gm_ushr ((1103515245 * (hnum (N 13) k)) + 12345) 16) 32767) % 10)) (by decide +kernel) (e0a hE (k := 201) (q := ((0 : Nat), (300 : Nat))) (by decide +kernel)).1 (e0a hE (k := 201) (q := ((0 : Nat), (300 : Nat))) (by decide +kernel)).2 (by decide) ⟨by omega, by omega⟩ rfl) ?_
    refine gm_sz (gm_p_iinc (pc := 43) (j := 2) (z := 1) (by decide +kernel) rfl) ?_
    refine gm_sz (gm_p_goto (pc := 46) (off := (-36)) (by decide +kernel) (by decide)) ?_
    refine ih (k + 1) _ (by omega) (fr_p (fr_t fr_0 hf (by decide)) (Or.inl (by decide))) (fun y y0 y1 => ?_)
    by_cases e : y = (k : Int)
    · subst e
      rw [uM_at]
      unfold hts
      rw [show ((k : Int)).toNat = k from Int.toNat_natCast k, ← and_sh]
      rfl
    · exact (uM_ne (fun hh => e hh.2)).trans (hy y y0 (by omega))
theorem rh_c6 (hE : E0 n K R) (hT : TQ N M) (hN : NR N) (hq : ∀ M2, fr [((201 : Nat), none)] M M2 → (∀ y, 0 ≤ y → y < 300 → M2 201 y = hts (N 13) y) → Q (.inl none) n K R M2) : gm_Wp X LX d bc bs 6 0 (gm_ent 6 [gm_vr 200]) [] n K R M Q := by
  refine gm_sz (gm_p_load (pc := 0) (i := .aload_n 0) (sr := 2) (j := 0) (by decide +kernel) rfl rfl rfl) ?_
  refine gm_sz (fw_gr (pc := 1) (ix := 34) (ci := 4) (j := 0) (r := 3) (by decide +kernel) (e0k hE (k := 200) (c := 4) (by decide +kernel)) (by decide +kernel) (by decide +kernel) (e0r hE (k := 200) (j := 0) (r := 3) (by decide +kernel))) ?_
  refine gm_sz (fw_gi (pc := 4) (ix := 50) (ci := 1) (j := 5) (x := N 13) (by decide +kernel) (e0k hE (k := 3) (c := 1) (by decide +kernel)) (by decide +kernel) (by decide +kernel) (tq_see hT)) ?_
  refine gm_sz (gm_p_stor (pc := 7) (i := .istore_n 1) (sr := 0) (j := 1) (by decide +kernel) rfl (show 2 ≤ _ from Nat.le_of_ble_eq_true rfl) rfl) ?_
  refine gm_sz (gm_p_const (pc := 8) (i := .iconst 0) (v := gm_vi 0) (by decide +kernel) (by decide +kernel)) ?_
  refine gm_sz (gm_p_stor (pc := 9) (i := .istore_n 2) (sr := 0) (j := 2) (by decide +kernel) rfl (show 3 ≤ _ from Nat.le_of_ble_eq_true rfl) rfl) ?_
  exact rh_l hE hT hN hq 300 0 M rfl fr_0 (fun y y0 y1 => absurd y1 (by omega))
theorem rs_r (hE : E0 n K R) (hT : TQ N M) (hN : NR N) {k : Nat} (hk : (k : Int) < N 2) (hl : 0 ≤ l ∧ l < N 0 ∧ l < 6) (hf0 : 0 ≤ f) (hf1 : N (15 + 7 * (k : Int)) ≤ f) (hv : N (15 + 7 * (k : Int) + 1 + l) = v) {z2 : Option gm_V} (hq : ∀ M2 r, fr [((202 : Nat), none)] M M2 → N 1 ≤ r → SP2 N k l r M2 → gm_Wp X LX d bc bs 7 118 [some (gm_vr 200), some (gm_vi (k : Int)), z2, some (gm_vi l), some (gm_vi v), some (gm_vi r)] [] n K R M2 Q) : ∀ (u : Nat) (r : Int) (M1 : gm_M), (N 1 - r).toNat = u → f ≤ r → r ≤ 99 → fr [((202 : Nat), none)] M M1 → SP2 N k l r M1 → gm_Wp X LX d bc bs 7 79 [some (gm_vr 200), some (gm_vi (k : Int)), z2, some (gm_vi l), some (gm_vi v), some (gm_vi r)] [] n K R M1 Q := by
  have b1 := hN.1.2.1
  intro u
  induction u with
  | zero =>
    intro r M1 hu hfr hr9 hf hs
    refine gm_sz (gm_p_load (pc := 79) (i := .iload 5) (sr := 0) (j := 5) (by decide +kernel) rfl rfl rfl) ?_
    refine gm_sz (gm_p_load (pc := 81) (i := .aload_n 0) (sr := 2) (j := 0) (by decide +kernel) rfl rfl rfl) ?_
    refine gm_sz (fw_gr (pc := 82) (ix := 34) (ci := 4) (j := 0) (r := 3) (by decide +kernel) (e0k hE (k := 200) (c := 4) (by decide +kernel)) (by decide +kernel) (by decide +kernel) (e0r hE (k := 200) (j := 0) (r := 3) (by decide +kernel))) ?_
    refine gm_sz (fw_gi (pc := 85) (ix := 85) (ci := 1) (j := 1) (x := N 1) (by decide +kernel) (e0k hE (k := 3) (c := 1) (by decide +kernel)) (by decide +kernel) (by decide +kernel) ((fr_c hf (by decide)).trans (tq_las hT))) ?_
    refine fw_ict (cc := .ge) (pc := 88) (off := 30) (by decide +kernel) (by decide) ⟨by omega, by omega⟩ ⟨by omega, by omega⟩ (show (N 1) ≤ r by omega) ?_
    exact hq M1 r hf (by omega) hs
  | succ u ih =>
    intro r M1 hu hfr hr9 hf hs
    refine gm_sz (gm_p_load (pc := 79) (i := .iload 5) (sr := 0) (j := 5) (by decide +kernel) rfl rfl rfl) ?_
    refine gm_sz (gm_p_load (pc := 81) (i := .aload_n 0) (sr := 2) (j := 0) (by decide +kernel) rfl rfl rfl) ?_
    refine gm_sz (fw_gr (pc := 82) (ix := 34) (ci := 4) (j := 0) (r := 3) (by decide +kernel) (e0k hE (k := 200) (c := 4) (by decide +kernel)) (by decide +kernel) (by decide +kernel) (e0r hE (k := 200) (j := 0) (r := 3) (by decide +kernel))) ?_
    refine gm_sz (fw_gi (pc := 85) (ix := 85) (ci := 1) (j := 1) (x := N 1) (by decide +kernel) (e0k hE (k := 3) (c := 1) (by decide +kernel)) (by decide +kernel) (by decide +kernel) ((fr_c hf (by decide)).trans (tq_las hT))) ?_
    refine fw_icf (cc := .ge) (pc := 88) (off := 30) (by decide +kernel) (by decide) ⟨by omega, by omega⟩ ⟨by omega, by omega⟩ (show ¬ (N 1) ≤ r by omega) ?_
    refine gm_sz (gm_p_load (pc := 91) (i := .iload 5) (sr := 0) (j := 5) (by decide +kernel) rfl rfl rfl) ?_
    refine gm_sz (gm_p_const (pc := 93) (i := .bipush 99) (v := gm_vi 99) (by decide +kernel) (by decide +kernel)) ?_
    refine fw_icf (cc := .ge) (pc := 95) (off := 23) (by decide +kernel) (by decide) ⟨by omega, by omega⟩ ⟨by decide, by decide⟩ (show ¬ 99 ≤ r by omega) ?_
    refine gm_sz (gm_p_load (pc := 98) (i := .aload_n 0) (sr := 2) (j := 0) (by decide +kernel) rfl rfl rfl) ?_
    refine gm_sz (fw_gr (pc := 99) (ix := 15) (ci := 4) (j := 2) (r := 202) (by decide +kernel) (e0k hE (k := 200) (c := 4) (by decide +kernel)) (by decide +kernel) (by decide +kernel) (e0r hE (k := 200) (j := 2) (r := 202) (by decide +kernel))) ?_
    refine gm_sz (gm_p_load (pc := 102) (i := .iload_n 3) (sr := 0) (j := 3) (by decide +kernel) rfl rfl rfl) ?_
    refine gm_sz (gm_p_const (pc := 103) (i := .bipush 99) (v := gm_vi 99) (by decide +kernel) (by decide +kernel)) ?_
    refine gm_sz (gm_p_bin (pc := 105) (i := .imul) (f := fun x y => x * y) (by decide +kernel) rfl) ?_
    refine gm_sz (gm_p_load (pc := 106) (i := .iload 5) (sr := 0) (j := 5) (by decide +kernel) rfl rfl rfl) ?_
    refine gm_sz (gm_p_bin (pc := 108) (i := .iadd) (f := fun x y => x + y) (by decide +kernel) rfl) ?_
    refine gm_sz (gm_p_load (pc := 109) (i := .iload 4) (sr := 0) (j := 4) (by decide +kernel) rfl rfl rfl) ?_
    refine gm_sz (fw_is (pc := 111) (k := 202) (len := 594) (e0 := (l * 99) + r) (x := v) (M' := gm_uM M1 202 ((l * 99) + r) v) (by decide +kernel) (e0a hE (k := 202) (q := ((0 : Nat), (594 : Nat))) (by decide +kernel)).1 (e0a hE (k := 202) (q := ((0 : Nat), (594 : Nat))) (by decide +kernel)).2 (by decide) ⟨by omega, by omega⟩ rfl) ?_
    refine gm_sz (gm_p_iinc (pc := 112) (j := 5) (z := 1) (by decide +kernel) rfl) ?_
    refine gm_sz (gm_p_goto (pc := 115) (off := (-36)) (by decide +kernel) (by decide)) ?_
    exact ih (r + 1) _ (by omega) (by omega) (by omega) (fr_p (fr_t fr_0 hf (by decide)) (Or.inl (by decide))) (sp2_r hs ⟨hl.1, hl.2.2⟩ ⟨by omega, by omega⟩ hl.2.1 (by omega) (by omega) hv)
theorem rs_n (hd : 1 ≤ d) (hE : E0 n K R) (hT : TQ N M) (hN : NR N) (hS : NS N) {k : Nat} (hk : (k : Int) < N 2) (hf : N (15 + 7 * (k : Int)) = f) (hq : ∀ M2 z4 z5 l, fr [((202 : Nat), none)] M M2 → N 0 ≤ l → SP2 N k l 0 M2 → gm_Wp X LX d bc bs 7 124 [some (gm_vr 200), some (gm_vi (k : Int)), some (gm_vi f), some (gm_vi l), z4, z5] [] n K R M2 Q) : ∀ (u : Nat) (l : Int) (z4 z5 : Option gm_V) (M1 : gm_M), (N 0 - l).toNat = u → 0 ≤ l → l ≤ 6 → fr [((202 : Nat), none)] M M1 → SP2 N k l 0 M1 → gm_Wp X LX d bc bs 7 43 [some (gm_vr 200), some (gm_vi (k : Int)), some (gm_vi f), some (gm_vi l), z4, z5] [] n K R M1 Q := by
  have b0 := hN.1.1
  have b2 := hN.2.1.1
  obtain ⟨⟨s0, s1⟩, s2⟩ := hS (k : Int) (by omega) hk
  intro u
  induction u with
  | zero =>
    intro l z4 z5 M1 hu hl hl6 hf1 hs
    refine gm_sz (gm_p_load (pc := 43) (i := .iload_n 3) (sr := 0) (j := 3) (by decide +kernel) rfl rfl rfl) ?_
    refine gm_sz (gm_p_load (pc := 44) (i := .aload_n 0) (sr := 2) (j := 0) (by decide +kernel) rfl rfl rfl) ?_
    refine gm_sz (fw_gr (pc := 45) (ix := 34) (ci := 4) (j := 0) (r := 3) (by decide +kernel) (e0k hE (k := 200) (c := 4) (by decide +kernel)) (by decide +kernel) (by decide +kernel) (e0r hE (k := 200) (j := 0) (r := 3) (by decide +kernel))) ?_
    refine gm_sz (fw_gi (pc := 48) (ix := 82) (ci := 1) (j := 0) (x := N 0) (by decide +kernel) (e0k hE (k := 3) (c := 1) (by decide +kernel)) (by decide +kernel) (by decide +kernel) ((fr_c hf1 (by decide)).trans (tq_lan hT))) ?_
    refine fw_ict (cc := .ge) (pc := 51) (off := 73) (by decide +kernel) (by decide) ⟨by omega, by omega⟩ ⟨by omega, by omega⟩ (show (N 0) ≤ l by omega) ?_
    exact hq M1 _ _ l hf1 (by omega) hs
  | succ u ih =>
    intro l z4 z5 M1 hu hl hl6 hf1 hs
    refine gm_sz (gm_p_load (pc := 43) (i := .iload_n 3) (sr := 0) (j := 3) (by decide +kernel) rfl rfl rfl) ?_
    refine gm_sz (gm_p_load (pc := 44) (i := .aload_n 0) (sr := 2) (j := 0) (by decide +kernel) rfl rfl rfl) ?_
    refine gm_sz (fw_gr (pc := 45) (ix := 34) (ci := 4) (j := 0) (r := 3) (by decide +kernel) (e0k hE (k := 200) (c := 4) (by decide +kernel)) (by decide +kernel) (by decide +kernel) (e0r hE (k := 200) (j := 0) (r := 3) (by decide +kernel))) ?_
    refine gm_sz (fw_gi (pc := 48) (ix := 82) (ci := 1) (j := 0) (x := N 0) (by decide +kernel) (e0k hE (k := 3) (c := 1) (by decide +kernel)) (by decide +kernel) (by decide +kernel) ((fr_c hf1 (by decide)).trans (tq_lan hT))) ?_
    refine fw_icf (cc := .ge) (pc := 51) (off := 73) (by decide +kernel) (by decide) ⟨by omega, by omega⟩ ⟨by omega, by omega⟩ (show ¬ (N 0) ≤ l by omega) ?_
    refine gm_sz (gm_p_load (pc := 54) (i := .iload_n 3) (sr := 0) (j := 3) (by decide +kernel) rfl rfl rfl) ?_
    refine gm_sz (gm_p_const (pc := 55) (i := .bipush 6) (v := gm_vi 6) (by decide +kernel) (by decide +kernel)) ?_
    refine fw_icf (cc := .ge) (pc := 57) (off := 67) (by decide +kernel) (by decide) ⟨by omega, by omega⟩ ⟨by decide, by decide⟩ (show ¬ 6 ≤ l by omega) ?_
    refine gm_sz (gm_p_load (pc := 60) (i := .aload_n 0) (sr := 2) (j := 0) (by decide +kernel) rfl rfl rfl) ?_
    refine gm_sz (fw_gr (pc := 61) (ix := 34) (ci := 4) (j := 0) (r := 3) (by decide +kernel) (e0k hE (k := 200) (c := 4) (by decide +kernel)) (by decide +kernel) (by decide +kernel) (e0r hE (k := 200) (j := 0) (r := 3) (by decide +kernel))) ?_
    refine gm_sz (fw_gr (pc := 64) (ix := 63) (ci := 1) (j := 9) (r := 4) (by decide +kernel) (e0k hE (k := 3) (c := 1) (by decide +kernel)) (by decide +kernel) (by decide +kernel) (e0r hE (k := 3) (j := 9) (r := 4) (by decide +kernel))) ?_
    refine gm_sz (gm_p_load (pc := 67) (i := .iload_n 1) (sr := 0) (j := 1) (by decide +kernel) rfl rfl rfl) ?_
    refine gm_sz (gm_p_const (pc := 68) (i := .iconst 1) (v := gm_vi 1) (by decide +kernel) (by decide +kernel)) ?_
    refine gm_sz (gm_p_load (pc := 69) (i := .iload_n 3) (sr := 0) (j := 3) (by decide +kernel) rfl rfl rfl) ?_
    refine gm_sz (gm_p_bin (pc := 70) (i := .iadd) (f := fun x y => x + y) (by decide +kernel) rfl) ?_
    refine gm_c_virt (k := 4) (ci := 2) (mj := 10) (ix := 73) (pc := 71) (as := [gm_vi (k : Int), gm_vi (1 + l)]) (st := []) (d' := d - 1) (bc' := 0) (bs' := 0) (by decide +kernel) (by decide +kernel) (by decide +kernel) (by decide +kernel) (e0k hE (k := 4) (c := 2) (by decide +kernel)).1 (e0k hE (k := 4) (c := 2) (by decide +kernel)).2 (by decide) (by decide +kernel) (show 2 = gm_na 10 by decide +kernel) (fw_c2 fw_si fw_si) (show 3 ≤ gm_ml 10 by decide +kernel) (Nat.le_of_ble_eq_true rfl) (by omega) (Nat.zero_le _) (Nat.zero_le _) ?_
    refine rw_get (s := N 2) (w := 7) (x := N (15 + ((k : Int) * 7 + (1 + l)))) (e0k hE (k := 4) (c := 2) (by decide +kernel)) (e0a hE (k := 5) (q := ((0 : Nat), (56 : Nat))) (by decide +kernel)) (e0r hE (k := 4) (j := 2) (r := 5) (by decide +kernel)) (by decide) ((fr_c hf1 (by decide)).trans (tq_sec hT)) ((fr_c hf1 (by decide)).trans (hT.1 (4, 1, 7) (by decide))) ⟨by omega, by omega⟩ ⟨by omega, by omega⟩ ⟨by omega, by omega⟩ ⟨by omega, by omega⟩ ((fr_c hf1 (by decide)).trans (tq_aS hT (by omega) (by omega))) ?_
    show gm_Wp X LX d _ _ 7 74 _ [gm_vi (N (15 + ((k : Int) * 7 + (1 + l))))] n K _ _ Q
    refine gm_sz (gm_p_stor (pc := 74) (i := .istore 4) (sr := 0) (j := 4) (by decide +kernel) rfl (show 5 ≤ _ from Nat.le_of_ble_eq_true rfl) rfl) ?_
    refine gm_sz (gm_p_load (pc := 76) (i := .iload_n 2) (sr := 0) (j := 2) (by decide +kernel) rfl rfl rfl) ?_
    refine gm_sz (gm_p_stor (pc := 77) (i := .istore 5) (sr := 0) (j := 5) (by decide +kernel) rfl (show 6 ≤ _ from Nat.le_of_ble_eq_true rfl) rfl) ?_
    have e9 : N (15 + 7 * (k : Int) + 1 + l) = N (15 + ((k : Int) * 7 + (1 + l))) := congrArg N (by omega)
    refine rs_r hE (tq_fr hT hf1 (by decide) (by decide +kernel)) hN hk ⟨by omega, by omega, by omega⟩ (f := f) (by omega) (by omega) e9 (fun M2 r hf2 hr hs2 => ?_) (N 1 - f).toNat f M1 rfl (Int.le_refl _) (by omega) fr_0 (sp2_f hs hf)
    refine gm_sz (gm_p_iinc (pc := 118) (j := 3) (z := 1) (by decide +kernel) rfl) ?_
    refine gm_sz (gm_p_goto (pc := 121) (off := (-78)) (by decide +kernel) (by decide)) ?_
    exact ih (l + 1) _ _ M2 (by omega) (by omega) (by omega) (fr_t hf1 hf2 (by decide)) (sp2_x hs2 hr)
theorem rs_s (hd : 1 ≤ d) (hE : E0 n K R) (hT : TQ N M) (hN : NR N) (hS : NS N) (hq : ∀ M2, fr [((202 : Nat), none)] M M2 → (∀ l2 r, 0 ≤ l2 → l2 < 6 → 0 ≤ r → r < 99 → M2 202 (l2 * 99 + r) = spd N l2 r) → Q (.inl none) n K R M2) : ∀ (u k : Nat) (z2 z3 z4 z5 : Option gm_V) (M1 : gm_M), (k : Int) + (u : Int) = N 2 → fr [((202 : Nat), none)] M M1 → SP2 N k 0 0 M1 → gm_Wp X LX d bc bs 7 10 [some (gm_vr 200), some (gm_vi (k : Int)), z2, z3, z4, z5] [] n K R M1 Q := by
  have b2 := hN.2.1.1
  intro u
  induction u with
  | zero =>
    intro k z2 z3 z4 z5 M1 hu hf hs
    refine gm_sz (gm_p_load (pc := 10) (i := .iload_n 1) (sr := 0) (j := 1) (by decide +kernel) rfl rfl rfl) ?_
    refine gm_sz (gm_p_load (pc := 11) (i := .aload_n 0) (sr := 2) (j := 0) (by decide +kernel) rfl rfl rfl) ?_
    refine gm_sz (fw_gr (pc := 12) (ix := 34) (ci := 4) (j := 0) (r := 3) (by decide +kernel) (e0k hE (k := 200) (c := 4) (by decide +kernel)) (by decide +kernel) (by decide +kernel) (e0r hE (k := 200) (j := 0) (r := 3) (by decide +kernel))) ?_
    refine gm_sz (fw_gr (pc := 15) (ix := 63) (ci := 1) (j := 9) (r := 4) (by decide +kernel) (e0k hE (k := 3) (c := 1) (by decide +kernel)) (by decide +kernel) (by decide +kernel) (e0r hE (k := 3) (j := 9) (r := 4) (by decide +kernel))) ?_
    refine gm_c_virt (k := 4) (ci := 2) (mj := 9) (ix := 67) (pc := 18) (as := []) (st := [gm_vi (k : Int)]) (d' := d - 1) (bc' := 0) (bs' := 0) (by decide +kernel) (by decide +kernel) (by decide +kernel) (by decide +kernel) (e0k hE (k := 4) (c := 2) (by decide +kernel)).1 (e0k hE (k := 4) (c := 2) (by decide +kernel)).2 (by decide) (by decide +kernel) (show 0 = gm_na 9 by decide +kernel) fw_c0 (show 1 ≤ gm_ml 9 by decide +kernel) (Nat.le_of_ble_eq_true rfl) (by omega) (Nat.zero_le _) (Nat.zero_le _) ?_
    refine rw_size (s := N 2) (e0k hE (k := 4) (c := 2) (by decide +kernel)) ((fr_c hf (by decide)).trans (tq_sec hT)) ?_
    show gm_Wp X LX d _ _ 7 21 _ [gm_vi (N 2), gm_vi (k : Int)] n K _ _ Q
    refine fw_ict (cc := .ge) (pc := 21) (off := 109) (by decide +kernel) (by decide) ⟨by omega, by omega⟩ ⟨by omega, by omega⟩ (show (N 2) ≤ (k : Int) by omega) ?_
    exact gm_r_void (pc := 130) (by decide +kernel) (by decide +kernel) (hq M1 hf (sp2_d hs (by omega)))
  | succ u ih =>
    intro k z2 z3 z4 z5 M1 hu hf hs
    obtain ⟨⟨s0, s1⟩, s2⟩ := hS (k : Int) (by omega) (by omega)
    have e0 : N (15 + 7 * (k : Int)) = N (15 + ((k : Int) * 7 + 0)) := congrArg N (by omega)
    rw [e0] at s0 s1
    refine gm_sz (gm_p_load (pc := 10) (i := .iload_n 1) (sr := 0) (j := 1) (by decide +kernel) rfl rfl rfl) ?_
    refine gm_sz (gm_p_load (pc := 11) (i := .aload_n 0) (sr := 2) (j := 0) (by decide +kernel) rfl rfl rfl) ?_
    refine gm_sz (fw_gr (pc := 12) (ix := 34) (ci := 4) (j := 0) (r := 3) (by decide +kernel) (e0k hE (k := 200) (c := 4) (by decide +kernel)) (by decide +kernel) (by decide +kernel) (e0r hE (k := 200) (j := 0) (r := 3) (by decide +kernel))) ?_
    refine gm_sz (fw_gr (pc := 15) (ix := 63) (ci := 1) (j := 9) (r := 4) (by decide +kernel) (e0k hE (k := 3) (c := 1) (by decide +kernel)) (by decide +kernel) (by decide +kernel) (e0r hE (k := 3) (j := 9) (r := 4) (by decide +kernel))) ?_
    refine gm_c_virt (k := 4) (ci := 2) (mj := 9) (ix := 67) (pc := 18) (as := []) (st := [gm_vi (k : Int)]) (d' := d - 1) (bc' := 0) (bs' := 0) (by decide +kernel) (by decide +kernel) (by decide +kernel) (by decide +kernel) (e0k hE (k := 4) (c := 2) (by decide +kernel)).1 (e0k hE (k := 4) (c := 2) (by decide +kernel)).2 (by decide) (by decide +kernel) (show 0 = gm_na 9 by decide +kernel) fw_c0 (show 1 ≤ gm_ml 9 by decide +kernel) (Nat.le_of_ble_eq_true rfl) (by omega) (Nat.zero_le _) (Nat.zero_le _) ?_
    refine rw_size (s := N 2) (e0k hE (k := 4) (c := 2) (by decide +kernel)) ((fr_c hf (by decide)).trans (tq_sec hT)) ?_
    show gm_Wp X LX d _ _ 7 21 _ [gm_vi (N 2), gm_vi (k : Int)] n K _ _ Q
    refine fw_icf (cc := .ge) (pc := 21) (off := 109) (by decide +kernel) (by decide) ⟨by omega, by omega⟩ ⟨by omega, by omega⟩ (show ¬ (N 2) ≤ (k : Int) by omega) ?_
    refine gm_sz (gm_p_const (pc := 24) (i := .iconst 0) (v := gm_vi 0) (by decide +kernel) (by decide +kernel)) ?_
    refine gm_sz (gm_p_load (pc := 25) (i := .aload_n 0) (sr := 2) (j := 0) (by decide +kernel) rfl rfl rfl) ?_
    refine gm_sz (fw_gr (pc := 26) (ix := 34) (ci := 4) (j := 0) (r := 3) (by decide +kernel) (e0k hE (k := 200) (c := 4) (by decide +kernel)) (by decide +kernel) (by decide +kernel) (e0r hE (k := 200) (j := 0) (r := 3) (by decide +kernel))) ?_
    refine gm_sz (fw_gr (pc := 29) (ix := 63) (ci := 1) (j := 9) (r := 4) (by decide +kernel) (e0k hE (k := 3) (c := 1) (by decide +kernel)) (by decide +kernel) (by decide +kernel) (e0r hE (k := 3) (j := 9) (r := 4) (by decide +kernel))) ?_
    refine gm_sz (gm_p_load (pc := 32) (i := .iload_n 1) (sr := 0) (j := 1) (by decide +kernel) rfl rfl rfl) ?_
    refine gm_sz (gm_p_const (pc := 33) (i := .iconst 0) (v := gm_vi 0) (by decide +kernel) (by decide +kernel)) ?_
    refine gm_c_virt (k := 4) (ci := 2) (mj := 10) (ix := 73) (pc := 34) (as := [gm_vi (k : Int), gm_vi 0]) (st := [gm_vi 0]) (d' := d - 1) (bc' := 0) (bs' := 0) (by decide +kernel) (by decide +kernel) (by decide +kernel) (by decide +kernel) (e0k hE (k := 4) (c := 2) (by decide +kernel)).1 (e0k hE (k := 4) (c := 2) (by decide +kernel)).2 (by decide) (by decide +kernel) (show 2 = gm_na 10 by decide +kernel) (fw_c2 fw_si fw_si) (show 3 ≤ gm_ml 10 by decide +kernel) (Nat.le_of_ble_eq_true rfl) (by omega) (Nat.zero_le _) (Nat.zero_le _) ?_
    refine rw_get (s := N 2) (w := 7) (x := N (15 + ((k : Int) * 7 + 0))) (e0k hE (k := 4) (c := 2) (by decide +kernel)) (e0a hE (k := 5) (q := ((0 : Nat), (56 : Nat))) (by decide +kernel)) (e0r hE (k := 4) (j := 2) (r := 5) (by decide +kernel)) (by decide) ((fr_c hf (by decide)).trans (tq_sec hT)) ((fr_c hf (by decide)).trans (hT.1 (4, 1, 7) (by decide))) ⟨by omega, by omega⟩ ⟨by omega, by omega⟩ ⟨by omega, by omega⟩ ⟨by omega, by omega⟩ ((fr_c hf (by decide)).trans (tq_aS hT (by omega) (by omega))) ?_
    show gm_Wp X LX d _ _ 7 37 _ [gm_vi (N (15 + ((k : Int) * 7 + 0))), gm_vi 0] n K _ _ Q
    refine gm_sz (gm_p_max (pc := 37) (ix := 77) (x := 0) (y := N (15 + ((k : Int) * 7 + 0))) (by decide +kernel) (by decide +kernel) (gm_w_id (by omega) (by omega)) (gm_w_id (by omega) (by omega)) (Nat.le_of_ble_eq_true rfl) (by omega)) ?_
    rw [show max 0 (N (15 + ((k : Int) * 7 + 0))) = N (15 + ((k : Int) * 7 + 0)) by omega]
    refine gm_sz (gm_p_stor (pc := 40) (i := .istore_n 2) (sr := 0) (j := 2) (by decide +kernel) rfl (show 3 ≤ _ from Nat.le_of_ble_eq_true rfl) rfl) ?_
    refine gm_sz (gm_p_const (pc := 41) (i := .iconst 0) (v := gm_vi 0) (by decide +kernel) (by decide +kernel)) ?_
    refine gm_sz (gm_p_stor (pc := 42) (i := .istore_n 3) (sr := 0) (j := 3) (by decide +kernel) rfl (show 4 ≤ _ from Nat.le_of_ble_eq_true rfl) rfl) ?_
    refine rs_n hd hE (tq_fr hT hf (by decide) (by decide +kernel)) hN hS (by omega) e0 (fun M2 z4 z5 l hf2 hl hs2 => ?_) (N 0).toNat 0 _ _ M1 (by omega) (Int.le_refl _) (by decide) fr_0 hs
    refine gm_sz (gm_p_iinc (pc := 124) (j := 1) (z := 1) (by decide +kernel) rfl) ?_
    refine gm_sz (gm_p_goto (pc := 127) (off := (-117)) (by decide +kernel) (by decide)) ?_
    exact ih (k + 1) _ _ _ _ M2 (by omega) (fr_t hf hf2 (by decide)) (sp2_n hs2 hl)
theorem rs_c7 (hd : 1 ≤ d) (hE : E0 n K R) (hT : TQ N M) (hN : NR N) (hS : NS N) (hq : ∀ M2, fr [((202 : Nat), none)] M M2 → (∀ l2 r, 0 ≤ l2 → l2 < 6 → 0 ≤ r → r < 99 → M2 202 (l2 * 99 + r) = spd N l2 r) → Q (.inl none) n K R M2) : gm_Wp X LX d bc bs 7 0 (gm_ent 7 [gm_vr 200]) [] n K R M Q := by
  have b2 := hN.2.1.1
  refine gm_sz (gm_p_load (pc := 0) (i := .aload_n 0) (sr := 2) (j := 0) (by decide +kernel) rfl rfl rfl) ?_
  refine gm_sz (fw_gr (pc := 1) (ix := 15) (ci := 4) (j := 2) (r := 202) (by decide +kernel) (e0k hE (k := 200) (c := 4) (by decide +kernel)) (by decide +kernel) (by decide +kernel) (e0r hE (k := 200) (j := 2) (r := 202) (by decide +kernel))) ?_
  refine gm_sz (gm_p_const (pc := 4) (i := .iconst 0) (v := gm_vi 0) (by decide +kernel) (by decide +kernel)) ?_
  refine gm_c_stat (mj := 8) (ix := 57) (pc := 5) (as := [gm_vr 202, gm_vi 0]) (st := []) (d' := d - 1) (bc' := 0) (bs' := 0) (by decide +kernel) (by decide +kernel) (by decide +kernel) (by decide +kernel) (show 2 = gm_na 8 by decide +kernel) (fw_c2 fw_sr fw_si) (show 2 ≤ gm_ml 8 by decide +kernel) (Nat.le_of_ble_eq_true rfl) (by omega) (Nat.zero_le _) (Nat.zero_le _) ?_
  refine fl_c8 (e0a hE (k := 202) (q := ((0 : Nat), (594 : Nat))) (by decide +kernel)) (by decide) ?_
  show gm_Wp X LX d _ _ 7 8 _ [] n K _ _ Q
  refine gm_sz (gm_p_const (pc := 8) (i := .iconst 0) (v := gm_vi 0) (by decide +kernel) (by decide +kernel)) ?_
  refine gm_sz (gm_p_stor (pc := 9) (i := .istore_n 1) (sr := 0) (j := 1) (by decide +kernel) rfl (show 2 ≤ _ from Nat.le_of_ble_eq_true rfl) rfl) ?_
  exact rs_s hd hE hT hN hS hq (N 2).toNat 0 _ _ _ _ _ (by omega) (fr_t fr_0 gm_fil_fr (by decide)) (sp2_z (fun j j0 j1 => gm_fil_in j0 j1))
theorem rf_l (hd : 1 ≤ d) (hE : E0 n K R) (hT : TQ N M) (hN : NR N) (hq : ∀ M2, fr [((203 : Nat), none)] M M2 → (∀ y, 0 ≤ y → y < 300 → gm_ir (M2 203 y) ∧ fbit N y (M2 203 y)) → Q (.inl none) n K R M2) : ∀ (u k : Nat) (z2 : Option gm_V) (M1 : gm_M), (k : Int) + (u : Int) = N 5 → fr [((203 : Nat), none)] M M1 → (∀ y, 0 ≤ y → y < 300 → fbk N k y (M1 203 y)) → gm_Wp X LX d bc bs 12 10 [some (gm_vr 200), some (gm_vi (k : Int)), z2] [] n K R M1 Q := by
  have b5 := hN.2.1.2.1
  intro u
  induction u with
  | zero =>
    intro k z2 M1 hu hf hb
    refine gm_sz (gm_p_load (pc := 10) (i := .iload_n 1) (sr := 0) (j := 1) (by decide +kernel) rfl rfl rfl) ?_
    refine gm_sz (gm_p_load (pc := 11) (i := .aload_n 0) (sr := 2) (j := 0) (by decide +kernel) rfl rfl rfl) ?_
    refine gm_sz (fw_gr (pc := 12) (ix := 34) (ci := 4) (j := 0) (r := 3) (by decide +kernel) (e0k hE (k := 200) (c := 4) (by decide +kernel)) (by decide +kernel) (by decide +kernel) (e0r hE (k := 200) (j := 0) (r := 3) (by decide +kernel))) ?_
    refine gm_sz (fw_gr (pc := 15) (ix := 88) (ci := 1) (j := 10) (r := 6) (by decide +kernel) (e0k hE (k := 3) (c := 1) (by decide +kernel)) (by decide +kernel) (by decide +kernel) (e0r hE (k := 3) (j := 10) (r := 6) (by decide +kernel))) ?_
    refine gm_c_virt (k := 6) (ci := 2) (mj := 9) (ix := 67) (pc := 18) (as := []) (st := [gm_vi (k : Int)]) (d' := d - 1) (bc' := 0) (bs' := 0) (by decide +kernel) (by decide +kernel) (by decide +kernel) (by decide +kernel) (e0k hE (k := 6) (c := 2) (by decide +kernel)).1 (e0k hE (k := 6) (c := 2) (by decide +kernel)).2 (by decide) (by decide +kernel) (show 0 = gm_na 9 by decide +kernel) fw_c0 (show 1 ≤ gm_ml 9 by decide +kernel) (Nat.le_of_ble_eq_true rfl) (by omega) (Nat.zero_le _) (Nat.zero_le _) ?_
    refine rw_size (s := N 5) (e0k hE (k := 6) (c := 2) (by decide +kernel)) ((fr_c hf (by decide)).trans (tq_flo hT)) ?_
    show gm_Wp X LX d _ _ 12 21 _ [gm_vi (N 5), gm_vi (k : Int)] n K _ _ Q
    refine fw_ict (cc := .ge) (pc := 21) (off := 45) (by decide +kernel) (by decide) ⟨by omega, by omega⟩ ⟨by omega, by omega⟩ (show (N 5) ≤ (k : Int) by omega) ?_
    exact gm_r_void (pc := 66) (by decide +kernel) (by decide +kernel) (hq M1 hf (fun y y0 y1 => fbk_f (hb y y0 y1) (by omega)))
  | succ u ih =>
    intro k z2 M1 hu hf hb
    obtain ⟨⟨f0, f1⟩, -⟩ := hN.2.2.1 (k : Int) (by omega) (by omega)
    have f0 : 0 ≤ N (71 + ((k : Int) * 3 + 0)) := f0
    have f1 : N (71 + ((k : Int) * 3 + 0)) ≤ 299 := f1
    refine gm_sz (gm_p_load (pc := 10) (i := .iload_n 1) (sr := 0) (j := 1) (by decide +kernel) rfl rfl rfl) ?_
    refine gm_sz (gm_p_load (pc := 11) (i := .aload_n 0) (sr := 2) (j := 0) (by decide +kernel) rfl rfl rfl) ?_
    refine gm_sz (fw_gr (pc := 12) (ix := 34) (ci := 4) (j := 0) (r := 3) (by decide +kernel) (e0k hE (k := 200) (c := 4) (by decide +kernel)) (by decide +kernel) (by decide +kernel) (e0r hE (k := 200) (j := 0) (r := 3) (by decide +kernel))) ?_
    refine gm_sz (fw_gr (pc := 15) (ix := 88) (ci := 1) (j := 10) (r := 6) (by decide +kernel) (e0k hE (k := 3) (c := 1) (by decide +kernel)) (by decide +kernel) (by decide +kernel) (e0r hE (k := 3) (j := 10) (r := 6) (by decide +kernel))) ?_
    refine gm_c_virt (k := 6) (ci := 2) (mj := 9) (ix := 67) (pc := 18) (as := []) (st := [gm_vi (k : Int)]) (d' := d - 1) (bc' := 0) (bs' := 0) (by decide +kernel) (by decide +kernel) (by decide +kernel) (by decide +kernel) (e0k hE (k := 6) (c := 2) (by decide +kernel)).1 (e0k hE (k := 6) (c := 2) (by decide +kernel)).2 (by decide) (by decide +kernel) (show 0 = gm_na 9 by decide +kernel) fw_c0 (show 1 ≤ gm_ml 9 by decide +kernel) (Nat.le_of_ble_eq_true rfl) (by omega) (Nat.zero_le _) (Nat.zero_le _) ?_
    refine rw_size (s := N 5) (e0k hE (k := 6) (c := 2) (by decide +kernel)) ((fr_c hf (by decide)).trans (tq_flo hT)) ?_
    show gm_Wp X LX d _ _ 12 21 _ [gm_vi (N 5), gm_vi (k : Int)] n K _ _ Q
    refine fw_icf (cc := .ge) (pc := 21) (off := 45) (by decide +kernel) (by decide) ⟨by omega, by omega⟩ ⟨by omega, by omega⟩ (show ¬ (N 5) ≤ (k : Int) by omega) ?_
    refine gm_sz (gm_p_load (pc := 24) (i := .aload_n 0) (sr := 2) (j := 0) (by decide +kernel) rfl rfl rfl) ?_
    refine gm_sz (fw_gr (pc := 25) (ix := 34) (ci := 4) (j := 0) (r := 3) (by decide +kernel) (e0k hE (k := 200) (c := 4) (by decide +kernel)) (by decide +kernel) (by decide +kernel) (e0r hE (k := 200) (j := 0) (r := 3) (by decide +kernel))) ?_
    refine gm_sz (fw_gr (pc := 28) (ix := 88) (ci := 1) (j := 10) (r := 6) (by decide +kernel) (e0k hE (k := 3) (c := 1) (by decide +kernel)) (by decide +kernel) (by decide +kernel) (e0r hE (k := 3) (j := 10) (r := 6) (by decide +kernel))) ?_
    refine gm_sz (gm_p_load (pc := 31) (i := .iload_n 1) (sr := 0) (j := 1) (by decide +kernel) rfl rfl rfl) ?_
    refine gm_sz (gm_p_const (pc := 32) (i := .iconst 0) (v := gm_vi 0) (by decide +kernel) (by decide +kernel)) ?_
    refine gm_c_virt (k := 6) (ci := 2) (mj := 10) (ix := 73) (pc := 33) (as := [gm_vi (k : Int), gm_vi 0]) (st := []) (d' := d - 1) (bc' := 0) (bs' := 0) (by decide +kernel) (by decide +kernel) (by decide +kernel) (by decide +kernel) (e0k hE (k := 6) (c := 2) (by decide +kernel)).1 (e0k hE (k := 6) (c := 2) (by decide +kernel)).2 (by decide) (by decide +kernel) (show 2 = gm_na 10 by decide +kernel) (fw_c2 fw_si fw_si) (show 3 ≤ gm_ml 10 by decide +kernel) (Nat.le_of_ble_eq_true rfl) (by omega) (Nat.zero_le _) (Nat.zero_le _) ?_
    refine rw_get (s := N 5) (w := 3) (x := N (71 + ((k : Int) * 3 + 0))) (e0k hE (k := 6) (c := 2) (by decide +kernel)) (e0a hE (k := 7) (q := ((0 : Nat), (24 : Nat))) (by decide +kernel)) (e0r hE (k := 6) (j := 2) (r := 7) (by decide +kernel)) (by decide) ((fr_c hf (by decide)).trans (tq_flo hT)) ((fr_c hf (by decide)).trans (hT.1 (6, 1, 3) (by decide))) ⟨by omega, by omega⟩ ⟨by omega, by omega⟩ ⟨by omega, by omega⟩ ⟨by omega, by omega⟩ ((fr_c hf (by decide)).trans (tq_aF hT (by omega) (by omega))) ?_
    show gm_Wp X LX d _ _ 12 36 _ [gm_vi (N (71 + ((k : Int) * 3 + 0)))] n K _ _ Q
    refine gm_sz (gm_p_stor (pc := 36) (i := .istore_n 2) (sr := 0) (j := 2) (by decide +kernel) rfl (show 3 ≤ _ from Nat.le_of_ble_eq_true rfl) rfl) ?_
    refine gm_sz (gm_p_load (pc := 37) (i := .iload_n 2) (sr := 0) (j := 2) (by decide +kernel) rfl rfl rfl) ?_
    refine fw_iff (cc := .lt) (pc := 38) (off := 22) (by decide +kernel) (by decide) ⟨by omega, by omega⟩ (show ¬ (N (71 + ((k : Int) * 3 + 0))) < 0 by omega) ?_
    refine gm_sz (gm_p_load (pc := 41) (i := .iload_n 2) (sr := 0) (j := 2) (by decide +kernel) rfl rfl rfl) ?_
    refine gm_sz (gm_p_const (pc := 42) (i := .sipush 300) (v := gm_vi 300) (by decide +kernel) (by decide +kernel)) ?_
    refine fw_icf (cc := .ge) (pc := 45) (off := 15) (by decide +kernel) (by decide) ⟨by omega, by omega⟩ ⟨by decide, by decide⟩ (show ¬ 300 ≤ (N (71 + ((k : Int) * 3 + 0))) by omega) ?_
    refine gm_sz (gm_p_load (pc := 48) (i := .aload_n 0) (sr := 2) (j := 0) (by decide +kernel) rfl rfl rfl) ?_
    refine gm_sz (fw_gr (pc := 49) (ix := 18) (ci := 4) (j := 3) (r := 203) (by decide +kernel) (e0k hE (k := 200) (c := 4) (by decide +kernel)) (by decide +kernel) (by decide +kernel) (e0r hE (k := 200) (j := 3) (r := 203) (by decide +kernel))) ?_
    refine gm_sz (gm_p_load (pc := 52) (i := .iload_n 2) (sr := 0) (j := 2) (by decide +kernel) rfl rfl rfl) ?_
    refine gm_sz (gm_p_dup2 (pc := 53) (by decide +kernel) fw_si fw_sr) ?_
    refine gm_sz (fw_ia (pc := 54) (k := 203) (len := 300) (e0 := N (71 + ((k : Int) * 3 + 0))) (x := M1 203 (N (71 + ((k : Int) * 3 + 0)))) (by decide +kernel) (e0a hE (k := 203) (q := ((0 : Nat), (300 : Nat))) (by decide +kernel)).1 (e0a hE (k := 203) (q := ((0 : Nat), (300 : Nat))) (by decide +kernel)).2 (by decide) ⟨by omega, by omega⟩ rfl) ?_
    refine gm_sz (gm_p_const (pc := 55) (i := .iconst 1) (v := gm_vi 1) (by decide +kernel) (by decide +kernel)) ?_
    refine gm_sz (gm_p_load (pc := 56) (i := .iload_n 1) (sr := 0) (j := 1) (by decide +kernel) rfl rfl rfl) ?_
    refine gm_sz (gm_p_bin (pc := 57) (i := .ishl) (f := gm_shl) (by decide +kernel) rfl) ?_
    refine gm_sz (gm_p_bin (pc := 58) (i := .ior) (f := gm_or) (by decide +kernel) rfl) ?_
    refine gm_sz (fw_is (pc := 59) (k := 203) (len := 300) (e0 := N (71 + ((k : Int) * 3 + 0))) (x := gm_or (M1 203 (N (71 + ((k : Int) * 3 + 0)))) (gm_shl 1 (k : Int))) (M' := gm_uM M1 203 (N (71 + ((k : Int) * 3 + 0))) (gm_or (M1 203 (N (71 + ((k : Int) * 3 + 0)))) (gm_shl 1 (k : Int)))) (by decide +kernel) (e0a hE (k := 203) (q := ((0 : Nat), (300 : Nat))) (by decide +kernel)).1 (e0a hE (k := 203) (q := ((0 : Nat), (300 : Nat))) (by decide +kernel)).2 (by decide) ⟨by omega, by omega⟩ rfl) ?_
    refine gm_sz (gm_p_iinc (pc := 60) (j := 1) (z := 1) (by decide +kernel) rfl) ?_
    refine gm_sz (gm_p_goto (pc := 63) (off := (-53)) (by decide +kernel) (by decide)) ?_
    refine ih (k + 1) _ _ (by omega) (fr_p (fr_t fr_0 hf (by decide)) (Or.inl (by decide))) (fun y y0 y1 => ?_)
    by_cases e : y = N (71 + ((k : Int) * 3 + 0))
    · rw [e, uM_at]
      exact fbk_y (hb _ (by omega) (by omega)) rfl (by omega)
    · rw [uM_ne (fun hh => e hh.2)]
      exact fbk_n (hb y y0 y1) (fun hh => e hh.symm)
theorem rf_c12 (hd : 1 ≤ d) (hE : E0 n K R) (hT : TQ N M) (hN : NR N) (hq : ∀ M2, fr [((203 : Nat), none)] M M2 → (∀ y, 0 ≤ y → y < 300 → gm_ir (M2 203 y) ∧ fbit N y (M2 203 y)) → Q (.inl none) n K R M2) : gm_Wp X LX d bc bs 12 0 (gm_ent 12 [gm_vr 200]) [] n K R M Q := by
  have b5 := hN.2.1.2.1
  refine gm_sz (gm_p_load (pc := 0) (i := .aload_n 0) (sr := 2) (j := 0) (by decide +kernel) rfl rfl rfl) ?_
  refine gm_sz (fw_gr (pc := 1) (ix := 18) (ci := 4) (j := 3) (r := 203) (by decide +kernel) (e0k hE (k := 200) (c := 4) (by decide +kernel)) (by decide +kernel) (by decide +kernel) (e0r hE (k := 200) (j := 3) (r := 203) (by decide +kernel))) ?_
  refine gm_sz (gm_p_const (pc := 4) (i := .iconst 0) (v := gm_vi 0) (by decide +kernel) (by decide +kernel)) ?_
  refine gm_c_stat (mj := 8) (ix := 57) (pc := 5) (as := [gm_vr 203, gm_vi 0]) (st := []) (d' := d - 1) (bc' := 0) (bs' := 0) (by decide +kernel) (by decide +kernel) (by decide +kernel) (by decide +kernel) (show 2 = gm_na 8 by decide +kernel) (fw_c2 fw_sr fw_si) (show 2 ≤ gm_ml 8 by decide +kernel) (Nat.le_of_ble_eq_true rfl) (by omega) (Nat.zero_le _) (Nat.zero_le _) ?_
  refine fl_c8 (e0a hE (k := 203) (q := ((0 : Nat), (300 : Nat))) (by decide +kernel)) (by decide) ?_
  show gm_Wp X LX d _ _ 12 8 _ [] n K _ _ Q
  refine gm_sz (gm_p_const (pc := 8) (i := .iconst 0) (v := gm_vi 0) (by decide +kernel) (by decide +kernel)) ?_
  refine gm_sz (gm_p_stor (pc := 9) (i := .istore_n 1) (sr := 0) (j := 1) (by decide +kernel) rfl (show 2 ≤ _ from Nat.le_of_ble_eq_true rfl) rfl) ?_
  refine rf_l hd hE hT hN hq (N 5).toNat 0 _ _ (by omega) (fr_t fr_0 gm_fil_fr (by decide)) (fun y y0 y1 => ?_)
  rw [show gm_fil M 203 ((300 : Nat) : Int) 0 203 y = 0 from gm_fil_in y0 y1]
  exact fbk_0
theorem rn_c5 (hd : 2 ≤ d) (hE : E0 n K R) (hT : TQ N M) (hN : NR N) (hS : NS N) (hq : ∀ M2, fr [((201 : Nat), none), ((202 : Nat), none), ((203 : Nat), none), ((200 : Nat), some (6 : Int))] M M2 → TI N (hts (N 13)) (spd N) M2 → M2 200 6 = 1 → Q (.inl none) n K R M2) : gm_Wp X LX d bc bs 5 0 (gm_ent 5 [gm_vr 200]) [] n K R M Q := by
  refine gm_sz (gm_p_load (pc := 0) (i := .aload_n 0) (sr := 2) (j := 0) (by decide +kernel) rfl rfl rfl) ?_
  refine gm_c_virt (k := 200) (ci := 4) (mj := 6) (ix := 41) (pc := 1) (as := []) (st := []) (d' := d - 1) (bc' := 0) (bs' := 0) (by decide +kernel) (by decide +kernel) (by decide +kernel) (by decide +kernel) (e0k hE (k := 200) (c := 4) (by decide +kernel)).1 (e0k hE (k := 200) (c := 4) (by decide +kernel)).2 (by decide) (by decide +kernel) (show 0 = gm_na 6 by decide +kernel) fw_c0 (show 1 ≤ gm_ml 6 by decide +kernel) (Nat.le_of_ble_eq_true rfl) (by omega) (Nat.zero_le _) (Nat.zero_le _) ?_
  refine rh_c6 hE hT hN (fun M6 hf6 hh6 => ?_)
  show gm_Wp X LX d _ _ 5 4 _ [] n K _ _ Q
  refine gm_sz (gm_p_load (pc := 4) (i := .aload_n 0) (sr := 2) (j := 0) (by decide +kernel) rfl rfl rfl) ?_
  refine gm_c_virt (k := 200) (ci := 4) (mj := 7) (ix := 44) (pc := 5) (as := []) (st := []) (d' := d - 1) (bc' := 0) (bs' := 0) (by decide +kernel) (by decide +kernel) (by decide +kernel) (by decide +kernel) (e0k hE (k := 200) (c := 4) (by decide +kernel)).1 (e0k hE (k := 200) (c := 4) (by decide +kernel)).2 (by decide) (by decide +kernel) (show 0 = gm_na 7 by decide +kernel) fw_c0 (show 1 ≤ gm_ml 7 by decide +kernel) (Nat.le_of_ble_eq_true rfl) (by omega) (Nat.zero_le _) (Nat.zero_le _) ?_
  refine rs_c7 (by omega) hE (tq_fr (W := [((201 : Nat), none)]) hT (fr_t fr_0 hf6 (by decide)) (by decide) (by decide +kernel)) hN hS (fun M7 hf7 hh7 => ?_)
  show gm_Wp X LX d _ _ 5 8 _ [] n K _ _ Q
  refine gm_sz (gm_p_load (pc := 8) (i := .aload_n 0) (sr := 2) (j := 0) (by decide +kernel) rfl rfl rfl) ?_
  refine gm_c_virt (k := 200) (ci := 4) (mj := 12) (ix := 47) (pc := 9) (as := []) (st := []) (d' := d - 1) (bc' := 0) (bs' := 0) (by decide +kernel) (by decide +kernel) (by decide +kernel) (by decide +kernel) (e0k hE (k := 200) (c := 4) (by decide +kernel)).1 (e0k hE (k := 200) (c := 4) (by decide +kernel)).2 (by decide) (by decide +kernel) (show 0 = gm_na 12 by decide +kernel) fw_c0 (show 1 ≤ gm_ml 12 by decide +kernel) (Nat.le_of_ble_eq_true rfl) (by omega) (Nat.zero_le _) (Nat.zero_le _) ?_
  refine rf_c12 (by omega) hE (tq_fr (W := [((201 : Nat), none), ((202 : Nat), none)]) hT (fr_t (fr_t fr_0 hf6 (by decide)) hf7 (by decide)) (by decide) (by decide +kernel)) hN (fun M12 hf12 hh12 => ?_)
  show gm_Wp X LX d _ _ 5 12 _ [] n K _ _ Q
  refine gm_sz (gm_p_load (pc := 12) (i := .aload_n 0) (sr := 2) (j := 0) (by decide +kernel) rfl rfl rfl) ?_
  refine gm_sz (gm_p_const (pc := 13) (i := .iconst 1) (v := gm_vi 1) (by decide +kernel) (by decide +kernel)) ?_
  refine gm_sz (fw_pz (pc := 14) (ix := 30) (ci := 4) (j := 6) (M' := gm_uM M12 200 6 1) (by decide +kernel) (e0k hE (k := 200) (c := 4) (by decide +kernel)) (by decide +kernel) (by decide +kernel) (by decide +kernel) (Or.inr rfl) rfl) ?_
  have t9 : TQ N (gm_uM M12 200 6 1) := (tq_fr (W := [((201 : Nat), none), ((202 : Nat), none), ((203 : Nat), none), ((200 : Nat), some (6 : Int))]) hT (fr_p (fr_t (fr_t (fr_t fr_0 hf6 (by decide)) hf7 (by decide)) hf12 (by decide)) (Or.inr (by decide))) (by decide) (by decide +kernel))
  refine gm_r_void (pc := 17) (by decide +kernel) (by decide +kernel) (hq (gm_uM M12 200 6 1) (fr_p (fr_t (fr_t (fr_t fr_0 hf6 (by decide)) hf7 (by decide)) hf12 (by decide)) (Or.inr (by decide))) ⟨t9.1, t9.2, fun y y0 y1 => ?_, fun l r l0 l1 r0 r1 => ?_⟩ uM_at)
  · rw [show (gm_uM M12 200 6 1) 201 y = M6 201 y from (uM_ne (by omega)).trans ((fr_c hf12 (by decide)).trans (fr_c hf7 (by decide))), show (gm_uM M12 200 6 1) 203 y = M12 203 y from uM_ne (by omega)]
    exact ⟨hh6 y y0 y1, hts_b, (hh12 y y0 y1).1, (hh12 y y0 y1).2⟩
  · rw [show (gm_uM M12 200 6 1) 202 (l * 99 + r) = M7 202 (l * 99 + r) from (uM_ne (by omega)).trans (fr_c hf12 (by decide))]
    exact hh7 l r l0 l1 r0 r1
theorem fg_c62 (hE : E0 n K R) (q0 : Q (.inl (none)) n K R (gm_uM M 42 2 0)) : gm_Wp X LX d bc bs 62 0 (gm_ent 62 [gm_vr 42]) [] n K R M Q := by
  refine gm_sz (gm_p_load (pc := 0) (i := .aload_n 0) (sr := 2) (j := 0) (by decide +kernel) rfl rfl rfl) ?_
  refine gm_sz (gm_p_const (pc := 1) (i := .iconst 0) (v := gm_vi 0) (by decide +kernel) (by decide +kernel)) ?_
  refine gm_sz (fw_pi (pc := 2) (ix := 21) (ci := 3) (j := 2) (M' := gm_uM M 42 2 0) (by decide +kernel) (e0k hE (k := 42) (c := 3) (by decide +kernel)) (by decide +kernel) (by decide +kernel) (by decide +kernel) rfl) ?_
  exact gm_r_void (pc := 5) (by decide +kernel) (by decide +kernel) q0
theorem fw_c61 (hd : 3 ≤ d) (hE : E0 n K R) (hT : TQ N M) (hN : NR N) (hS : NS N) (hq : ∀ M2, fr [((201 : Nat), none), ((202 : Nat), none), ((203 : Nat), none), ((200 : Nat), some (6 : Int)), ((42 : Nat), some (2 : Int)), ((1 : Nat), some (15 : Int))] M M2 → TI N (hts (N 13)) (spd N) M2 → M2 200 6 = 1 → M2 42 2 = 0 → M2 1 15 = 0 → Q (.inl none) n K R M2) : gm_Wp X LX d bc bs 61 0 (gm_ent 61 [gm_vr 1]) [] n K R M Q := by
  refine gm_sz (gm_p_load (pc := 0) (i := .aload_n 0) (sr := 2) (j := 0) (by decide +kernel) rfl rfl rfl) ?_
  refine gm_sz (fw_gr (pc := 1) (ix := 49) (ci := 0) (j := 8) (r := 200) (by decide +kernel) (e0k hE (k := 1) (c := 0) (by decide +kernel)) (by decide +kernel) (by decide +kernel) (e0r hE (k := 1) (j := 8) (r := 200) (by decide +kernel))) ?_
  refine gm_c_virt (k := 200) (ci := 4) (mj := 5) (ix := 154) (pc := 4) (as := []) (st := []) (d' := d - 1) (bc' := 0) (bs' := 0) (by decide +kernel) (by decide +kernel) (by decide +kernel) (by decide +kernel) (e0k hE (k := 200) (c := 4) (by decide +kernel)).1 (e0k hE (k := 200) (c := 4) (by decide +kernel)).2 (by decide) (by decide +kernel) (show 0 = gm_na 5 by decide +kernel) fw_c0 (show 1 ≤ gm_ml 5 by decide +kernel) (Nat.le_of_ble_eq_true rfl) (by omega) (Nat.zero_le _) (Nat.zero_le _) ?_
  refine rn_c5 (by omega) hE hT hN hS (fun M5 hf5 ht5 h56 => ?_)
  show gm_Wp X LX d _ _ 61 7 _ [] n K _ _ Q
  refine gm_sz (gm_p_load (pc := 7) (i := .aload_n 0) (sr := 2) (j := 0) (by decide +kernel) rfl rfl rfl) ?_
  refine gm_sz (fw_gr (pc := 8) (ix := 40) (ci := 0) (j := 7) (r := 42) (by decide +kernel) (e0k hE (k := 1) (c := 0) (by decide +kernel)) (by decide +kernel) (by decide +kernel) (e0r hE (k := 1) (j := 7) (r := 42) (by decide +kernel))) ?_
  refine gm_c_virt (k := 42) (ci := 3) (mj := 62) (ix := 157) (pc := 11) (as := []) (st := []) (d' := d - 1) (bc' := 0) (bs' := 0) (by decide +kernel) (by decide +kernel) (by decide +kernel) (by decide +kernel) (e0k hE (k := 42) (c := 3) (by decide +kernel)).1 (e0k hE (k := 42) (c := 3) (by decide +kernel)).2 (by decide) (by decide +kernel) (show 0 = gm_na 62 by decide +kernel) fw_c0 (show 1 ≤ gm_ml 62 by decide +kernel) (Nat.le_of_ble_eq_true rfl) (by omega) (Nat.zero_le _) (Nat.zero_le _) ?_
  refine fg_c62 hE ?_
  show gm_Wp X LX d _ _ 61 14 _ [] n K _ _ Q
  refine gm_sz (gm_p_load (pc := 14) (i := .aload_n 0) (sr := 2) (j := 0) (by decide +kernel) rfl rfl rfl) ?_
  refine gm_sz (gm_p_const (pc := 15) (i := .iconst 0) (v := gm_vi 0) (by decide +kernel) (by decide +kernel)) ?_
  refine gm_sz (fw_pz (pc := 16) (ix := 101) (ci := 0) (j := 15) (M' := gm_uM (gm_uM M5 42 2 0) 1 15 0) (by decide +kernel) (e0k hE (k := 1) (c := 0) (by decide +kernel)) (by decide +kernel) (by decide +kernel) (by decide +kernel) (Or.inl rfl) rfl) ?_
  refine gm_r_void (pc := 19) (by decide +kernel) (by decide +kernel) (hq (gm_uM (gm_uM M5 42 2 0) 1 15 0) (fr_p (fr_p (fr_t fr_0 hf5 (by decide)) (Or.inr (by decide))) (Or.inr (by decide))) (ti_fr (W := [((42 : Nat), some (2 : Int)), ((1 : Nat), some (15 : Int))]) ht5 (fr_p (fr_p fr_0 (Or.inr (by decide))) (Or.inr (by decide))) (by decide) (by decide +kernel)) ((uM_ne (by omega)).trans ((uM_ne (by omega)).trans h56)) ((uM_ne (by omega)).trans uM_at) uM_at)
end RN14
end
/-! 7a25.c15ys -/
section
/-! THE CLASS: years, undo, back (laid by wip/core/c15.py). -/
section YS15
variable {X : Int → Int} {LX d bc bs n : Nat} {K : gm_K} {R : gm_R} {M : gm_M} {Q : gm_Q} {l p f t v w y : Int} {N NI h : Int → Int} {sp : Int → Int → Int} {FI : gm_M → Prop} {φ : Int → Int → Int → Int} {Ψ : (Int → Int) → Int → Int → Int → Int → Prop} {o dd : Int → Int} {A : List (Int → Int)}
/-- k YEARS more: the world, how many opened -/
noncomputable def yrs (Ψ : (Int → Int) → Int → Int → Int → Int → Prop) (o dd : Int → Int) (s : (Int → Int) × Int) : Nat → (Int → Int) × Int
  | 0 => s
  | k + 1 => ((yrun Ψ o dd (nyr (yrs Ψ o dd s k).1, 0) ((yrs Ψ o dd s k).1 4).toNat).1, (yrs Ψ o dd s k).2 + (yrun Ψ o dd (nyr (yrs Ψ o dd s k).1, 0) ((yrs Ψ o dd s k).1 4).toNat).2)
theorem ym_9 (hN : NR N) (hg : LOGI N) {s0 : Int} (h0 : 0 ≤ s0) : ∀ k : Nat, (k : Int) ≤ N 4 → (yrun Ψ o dd (N, s0) k).1 9 = N 9 := by
  intro k
  induction k with
  | zero => exact fun _ => rfl
  | succ k ih =>
    intro hk
    have i9 := ih (by omega)
    obtain ⟨i1, i2, i3, i4, i5, i6⟩ := ym_i (Ψ := Ψ) (o := o) (dd := dd) hN hg h0 k (by omega)
    show (ystep Ψ o dd (k : Int) (yrun Ψ o dd (N, s0) k)).1 9 = N 9
    generalize yrun Ψ o dd (N, s0) k = s at i1 i2 i3 i4 i5 i6 i9 ⊢
    unfold ystep
    by_cases h : WTS s.1 (k : Int) (o (k : Int)) ∧ ¬ opf s.1 (Ψ s.1) (k : Int) (dd (k : Int)) = -1
    · rw [tif_t h]
      have hl : 0 ≤ (k : Int) ∧ (k : Int) < s.1 4 := ⟨by omega, by omega⟩
      have b4 := i1.2.1.2.2.2.1
      have ho := logi_lt i1 i2 hl h.1.2.1
      exact (nopn_o (i := 9) (by decide) (by decide) ⟨hl.1, by omega⟩ ho).trans i9
    · rw [tif_f h]
      exact i9
/-- what years keep -/
theorem yrs_i (hN : NR N) (hg : LOGI N) : ∀ k : Nat, N 9 + (k : Int) ≤ 299 → NR (yrs Ψ o dd (N, 0) k).1 ∧ LOGI (yrs Ψ o dd (N, 0) k).1 ∧ geo N (yrs Ψ o dd (N, 0) k).1 ∧ (yrs Ψ o dd (N, 0) k).1 4 = N 4 ∧ (yrs Ψ o dd (N, 0) k).1 9 = N 9 + (k : Int) ∧ 0 ≤ (yrs Ψ o dd (N, 0) k).2 ∧ (yrs Ψ o dd (N, 0) k).2 ≤ 24 * (k : Int) := by
  intro k
  induction k with
  | zero => exact fun _ => ⟨hN, hg, geo_r, rfl, by show N 9 = N 9 + ((0 : Nat) : Int); omega, Int.le_refl _, by show (0 : Int) ≤ 24 * ((0 : Nat) : Int); omega⟩
  | succ k ih =>
    intro hk
    obtain ⟨i1, i2, i3, i4, i5, i6, i7⟩ := ih (by omega)
    show NR (yrun Ψ o dd (nyr (yrs Ψ o dd (N, 0) k).1, 0) ((yrs Ψ o dd (N, 0) k).1 4).toNat).1 ∧ LOGI (yrun Ψ o dd (nyr (yrs Ψ o dd (N, 0) k).1, 0) ((yrs Ψ o dd (N, 0) k).1 4).toNat).1 ∧ geo N (yrun Ψ o dd (nyr (yrs Ψ o dd (N, 0) k).1, 0) ((yrs Ψ o dd (N, 0) k).1 4).toNat).1 ∧ (yrun Ψ o dd (nyr (yrs Ψ o dd (N, 0) k).1, 0) ((yrs Ψ o dd (N, 0) k).1 4).toNat).1 4 = N 4 ∧ (yrun Ψ o dd (nyr (yrs Ψ o dd (N, 0) k).1, 0) ((yrs Ψ o dd (N, 0) k).1 4).toNat).1 9 = N 9 + ((k + 1 : Nat) : Int) ∧ 0 ≤ (yrs Ψ o dd (N, 0) k).2 + (yrun Ψ o dd (nyr (yrs Ψ o dd (N, 0) k).1, 0) ((yrs Ψ o dd (N, 0) k).1 4).toNat).2 ∧ (yrs Ψ o dd (N, 0) k).2 + (yrun Ψ o dd (nyr (yrs Ψ o dd (N, 0) k).1, 0) ((yrs Ψ o dd (N, 0) k).1 4).toNat).2 ≤ 24 * ((k + 1 : Nat) : Int)
    generalize yrs Ψ o dd (N, 0) k = s at i1 i2 i3 i4 i5 i6 i7 ⊢
    have b4 := i1.2.1.2.2.2.1
    have e4 : nyr s.1 4 = s.1 4 := nup_ne (by decide)
    obtain ⟨j1, j2, j3, j4, j5, j6⟩ := ym_i (Ψ := Ψ) (o := o) (dd := dd) (nr_nyr i1 (by omega)) (logi_nyr i2) (Int.le_refl 0) (s.1 4).toNat (by rw [e4]; omega)
    have j9 := ym_9 (Ψ := Ψ) (o := o) (dd := dd) (nr_nyr i1 (by omega)) (logi_nyr i2) (s0 := 0) (Int.le_refl 0) (s.1 4).toNat (by rw [e4]; omega)
    have e9 : nyr s.1 9 = s.1 9 + 1 := nup_at
    exact ⟨j1, j2, geo_t i3 (geo_t geo_nyr j3), by rw [j4, e4]; exact i4, by rw [j9, e9, i5]; omega, by omega, by omega⟩

theorem ys_l (hd : 7 ≤ d) (hE : E0 n K R) (hT : TI N h sp M) (hN : NR N) (hg : LOGI N) (hst : FSt FI) (hmo : ∀ N2, geo N N2 → NR N2 → MOW X LX n K R N2 h sp FI (Ψ N2)) (hI : FI M) (hen : ENF N o dd M) (hv : 0 ≤ v ∧ v ≤ 50 ∧ v + N 9 ≤ 299) (hq : ∀ M2, fr [((3 : Nat), some (6 : Int)), ((11 : Nat), none), ((14 : Nat), some (3 : Int)), ((15 : Nat), none), ((204 : Nat), none)] M M2 → cs M2 3 = (yrs Ψ o dd (N, 0) v.toNat).1 → Q (.inl (some (gm_vi (yrs Ψ o dd (N, 0) v.toNat).2))) n K R M2) : ∀ (u k : Nat) (M1 : gm_M), (k : Int) + (u : Int) = v → fr [((3 : Nat), some (6 : Int)), ((11 : Nat), none), ((14 : Nat), some (3 : Int)), ((15 : Nat), none), ((204 : Nat), none)] M M1 → cs M1 3 = (yrs Ψ o dd (N, 0) k).1 → gm_Wp X LX d bc bs 161 56 [some (gm_vr 1), some (gm_vi v), some (gm_vi ((yrs Ψ o dd (N, 0) k).2)), some (gm_vi (k : Int))] [] n K R M1 Q := by
  intro u
  induction u with
  | zero =>
    intro k M1 hk hf hc
    have ek : v.toNat = k := by omega
    rw [ek] at hq
    refine gm_sz (gm_p_load (pc := 56) (i := .iload_n 3) (sr := 0) (j := 3) (by decide +kernel) rfl rfl rfl) ?_
    refine gm_sz (gm_p_load (pc := 57) (i := .iload_n 1) (sr := 0) (j := 1) (by decide +kernel) rfl rfl rfl) ?_
    refine fw_ict (cc := .ge) (pc := 58) (off := 16) (by decide +kernel) (by decide) ⟨by omega, by omega⟩ ⟨by omega, by omega⟩ (show v ≤ (k : Int) by omega) ?_
    refine gm_sz (gm_p_load (pc := 74) (i := .iload_n 2) (sr := 0) (j := 2) (by decide +kernel) rfl rfl rfl) ?_
    exact gm_r_int (pc := 75) (by decide +kernel) (Or.inl (by decide +kernel)) (hq M1 hf hc)
  | succ u ih =>
    intro k M1 hk hf hc
    obtain ⟨i1, i2, i3, i4, i5, i6, i7⟩ := yrs_i (Ψ := Ψ) (o := o) (dd := dd) hN hg k (by omega)
    have t1 : TI (yrs Ψ o dd (N, 0) k).1 h sp M1 := ti_geo i3 hT (cst_fr hT.1 hf (by decide +kernel)) hc (fun a j a1 a2 => hf a j (fun hm => by simp at hm; omega) (fun hm => by simp at hm; omega))
    have en : ENF (yrs Ψ o dd (N, 0) k).1 o dd M1 := ⟨by rw [i4]; exact (fr_c hf (by decide)).trans hen.1, fun l l0 l1 => by
      rw [i4] at l1
      obtain ⟨a, b, c⟩ := hen.2 l l0 l1
      exact ⟨(fr_c hf (by decide)).trans a, (fr_c hf (by decide)).trans b, c⟩⟩
    refine gm_sz (gm_p_load (pc := 56) (i := .iload_n 3) (sr := 0) (j := 3) (by decide +kernel) rfl rfl rfl) ?_
    refine gm_sz (gm_p_load (pc := 57) (i := .iload_n 1) (sr := 0) (j := 1) (by decide +kernel) rfl rfl rfl) ?_
    refine fw_icf (cc := .ge) (pc := 58) (off := 16) (by decide +kernel) (by decide) ⟨by omega, by omega⟩ ⟨by omega, by omega⟩ (show ¬ v ≤ (k : Int) by omega) ?_
    refine gm_sz (gm_p_load (pc := 61) (i := .iload_n 2) (sr := 0) (j := 2) (by decide +kernel) rfl rfl rfl) ?_
    refine gm_sz (gm_p_load (pc := 62) (i := .aload_n 0) (sr := 2) (j := 0) (by decide +kernel) rfl rfl rfl) ?_
    refine gm_c_virt (k := 1) (ci := 0) (mj := 162) (ix := 274) (pc := 63) (as := []) (st := [gm_vi ((yrs Ψ o dd (N, 0) k).2)]) (d' := d - 1) (bc' := 0) (bs' := 0) (by decide +kernel) (by decide +kernel) (by decide +kernel) (by decide +kernel) (e0k hE (k := 1) (c := 0) (by decide +kernel)).1 (e0k hE (k := 1) (c := 0) (by decide +kernel)).2 (by decide) (by decide +kernel) (show 0 = gm_na 162 by decide +kernel) fw_c0 (show 1 ≤ gm_ml 162 by decide +kernel) (Nat.le_of_ble_eq_true rfl) (by omega) (Nat.zero_le _) (Nat.zero_le _) ?_
    refine ym_c162 (by omega) hE t1 i1 i2 (by omega) hst (fun N2 g2 n2 => hmo N2 (geo_t i3 g2) n2) (hst [(3, some 6), (11, none), (14, some 3), (15, none), (204, none)] _ _ (by decide) hf hI) en (fun M9 hf9 hc9 => ?_)
    show gm_Wp X LX d _ _ 161 66 _ [gm_vi ((yrun Ψ o dd (nyr (yrs Ψ o dd (N, 0) k).1, 0) ((yrs Ψ o dd (N, 0) k).1 4).toNat).2), gm_vi ((yrs Ψ o dd (N, 0) k).2)] n K _ _ Q
    refine gm_sz (gm_p_bin (pc := 66) (i := .iadd) (f := fun x y => x + y) (by decide +kernel) rfl) ?_
    refine gm_sz (gm_p_stor (pc := 67) (i := .istore_n 2) (sr := 0) (j := 2) (by decide +kernel) rfl (show 3 ≤ _ from Nat.le_of_ble_eq_true rfl) rfl) ?_
    refine gm_sz (gm_p_iinc (pc := 68) (j := 3) (z := 1) (by decide +kernel) rfl) ?_
    refine gm_sz (gm_p_goto (pc := 71) (off := (-15)) (by decide +kernel) (by decide)) ?_
    have q := ih (k + 1) M9 (by omega) (fr_t (fr_t fr_0 hf (by decide)) hf9 (by decide)) hc9
    rwa [show ((k + 1 : Nat) : Int) = (k : Int) + 1 by omega] at q
theorem ends_e {M2 : gm_M} (he : ENDS N h φ M) (e : ∀ (x : Nat) (j : Int), 220 ≤ x → M2 x j = M x j) : ENDS N h φ M2 := ⟨by rw [e 220 3 (by decide)]; exact he.1, fun l l0 l1 => by rw [e 221 _ (by decide), e 221 _ (by decide)]; exact he.2 l l0 l1⟩
/-- years hang on the ends as far as these are told -/
theorem yrun_e {o2 dd2 : Int → Int} (hN : NR N) (hg : LOGI N) {s0 : Int} (h0 : 0 ≤ s0) (he : ∀ l, 0 ≤ l → l < N 4 → (o l = o2 l ∧ -1 ≤ o l) ∧ (0 ≤ o l → dd l = dd2 l)) : ∀ k : Nat, (k : Int) ≤ N 4 → yrun Ψ o dd (N, s0) k = yrun Ψ o2 dd2 (N, s0) k := by
  intro k
  induction k with
  | zero => exact fun _ => rfl
  | succ k ih =>
    intro hk
    obtain ⟨-, -, -, i4, -, -⟩ := ym_i (Ψ := Ψ) (o := o) (dd := dd) hN hg h0 k (by omega)
    show ystep Ψ o dd (k : Int) (yrun Ψ o dd (N, s0) k) = ystep Ψ o2 dd2 (k : Int) (yrun Ψ o2 dd2 (N, s0) k)
    rw [← ih (by omega)]
    generalize yrun Ψ o dd (N, s0) k = s at i4 ⊢
    obtain ⟨⟨a1, a0⟩, a2⟩ := he (k : Int) (by omega) (by omega)
    unfold ystep
    rw [← a1]
    by_cases h : WTS s.1 (k : Int) (o (k : Int))
    · rw [a2 (by have := h.2.2.1; have := h.2.2.2; omega)]
    · rw [tif_f (fun hh => h hh.1), tif_f (fun hh => h hh.1)]
theorem yrs_e {o2 dd2 : Int → Int} (hN : NR N) (hg : LOGI N) (he : ∀ l, 0 ≤ l → l < N 4 → (o l = o2 l ∧ -1 ≤ o l) ∧ (0 ≤ o l → dd l = dd2 l)) : ∀ k : Nat, N 9 + (k : Int) ≤ 299 → yrs Ψ o dd (N, 0) k = yrs Ψ o2 dd2 (N, 0) k := by
  intro k
  induction k with
  | zero => exact fun _ => rfl
  | succ k ih =>
    intro hk
    obtain ⟨i1, i2, i3, i4, i5, i6, i7⟩ := yrs_i (Ψ := Ψ) (o := o) (dd := dd) hN hg k (by omega)
    show ((yrun Ψ o dd (nyr (yrs Ψ o dd (N, 0) k).1, 0) ((yrs Ψ o dd (N, 0) k).1 4).toNat).1, (yrs Ψ o dd (N, 0) k).2 + (yrun Ψ o dd (nyr (yrs Ψ o dd (N, 0) k).1, 0) ((yrs Ψ o dd (N, 0) k).1 4).toNat).2) = ((yrun Ψ o2 dd2 (nyr (yrs Ψ o2 dd2 (N, 0) k).1, 0) ((yrs Ψ o2 dd2 (N, 0) k).1 4).toNat).1, (yrs Ψ o2 dd2 (N, 0) k).2 + (yrun Ψ o2 dd2 (nyr (yrs Ψ o2 dd2 (N, 0) k).1, 0) ((yrs Ψ o2 dd2 (N, 0) k).1 4).toNat).2)
    rw [← ih (by omega)]
    have b4 := i1.2.1.2.2.2.1
    have e4 : nyr (yrs Ψ o dd (N, 0) k).1 4 = (yrs Ψ o dd (N, 0) k).1 4 := nup_ne (by decide)
    rw [yrun_e (o2 := o2) (dd2 := dd2) (nr_nyr i1 (by omega)) (logi_nyr i2) (Int.le_refl 0) (fun l l0 l1 => he l l0 (by rw [e4, i4] at l1; exact l1)) _ (by rw [e4]; omega)]
theorem ac_161 (hd : 24 ≤ d) (hbc : 4 ≤ bc) (hbs : 24 ≤ bs) (hE : E0 n K R) (hT : TI N h sp M) (hN : NR N) (hg : LOGI N) (hH : HIS A M) (hfw : FLW X LX n K R N h sp FI φ) (hI : FI M) (hk : M 1 15 = 0 ∨ (M 1 15 = 1 ∧ ENDS N h φ M)) (hrr : ∀ M M2 : gm_M, (∀ (x : Nat) (j : Int), x < 42 ∨ 199 < x → M2 x j = M x j) → FI M → FI M2) (hfw2 : ∀ p : Nat, p < 12 → FLW X LX n K (gm_uR R (44 + 13 * p) 8 (R 3 8)) N h sp FI φ) (hmo : ∀ p : Nat, p < 12 → ∀ N2, geo N N2 → NR N2 → MOW X LX n K (gm_uR R (44 + 13 * p) 8 (R 3 8)) N2 h sp FI (Ψ N2)) (hy : gm_ir y) (ho : ∀ l, 0 ≤ l → l < N 4 → OUTR N h φ l (o l) (dd l)) (q0 : ¬ (1 ≤ y ∧ y ≤ 50 ∧ y ≤ 299 - N 9) → Q (.inr 0) n K R M) (hq : 1 ≤ y ∧ y ≤ 50 ∧ y ≤ 299 - N 9 → ∀ (p : Nat) (M1 M2 : gm_M), p < 12 → (M 42 1 = (p : Int) ∧ M2 42 1 = ((p : Int) + 1) % 12) → HIS ((N :: A).take 12) M2 → FI M2 → M2 1 15 = 1 → M2 220 3 = N 4 → (∀ l, 0 ≤ l → l < N 4 → OUTR N h φ l (M2 221 (l * 2 + 0)) (M2 221 (l * 2 + 1))) → CST M2 → cs M2 3 = (yrs Ψ o dd (N, 0) y.toNat).1 → (∀ (x : Nat) (j : Int), x < 42 ∨ 199 < x → M1 x j = M x j) → fr [((206 : Nat), some (2 : Int)), ((206 : Nat), some (3 : Int)), ((206 : Nat), some (4 : Int)), ((206 : Nat), some (5 : Int)), ((206 : Nat), some (6 : Int)), ((206 : Nat), some (7 : Int)), ((206 : Nat), some (8 : Int)), ((200 : Nat), some (6 : Int)), ((204 : Nat), none), ((205 : Nat), none), ((220 : Nat), some (3 : Int)), ((221 : Nat), none), ((1 : Nat), some (15 : Int)), ((3 : Nat), some (6 : Int)), ((11 : Nat), none), ((14 : Nat), some (3 : Int)), ((15 : Nat), none), ((204 : Nat), none)] M1 M2 → Q (.inl (some (gm_vi (yrs Ψ o dd (N, 0) y.toNat).2))) n K (gm_uR R (44 + 13 * p) 8 (R 3 8)) M2) : gm_Wp X LX d bc bs 161 0 (gm_ent 161 [gm_vr 1, gm_vi y]) [] n K R M Q := by
  obtain ⟨⟨⟨a0, b0⟩, ⟨a1, b1⟩, ⟨a10, b10⟩, ⟨a11, b11⟩, ⟨a12, b12⟩, a9, b9⟩, ⟨⟨a2, b2⟩, ⟨a5, b5⟩, ⟨a3, b3⟩, ⟨a4, b4⟩, ⟨a6, b6⟩, ⟨a14, b14⟩, ⟨a7, b7⟩, a13, b13⟩, rF, rP, rL⟩ := id hN
  refine gm_sz (gm_p_load (pc := 0) (i := .iload_n 1) (sr := 0) (j := 1) (by decide +kernel) rfl rfl rfl) ?_
  refine gm_sz (gm_p_const (pc := 1) (i := .iconst 1) (v := gm_vi 1) (by decide +kernel) (by decide +kernel)) ?_
  refine fw_ic (cc := .lt) (pc := 2) (off := 24) (by decide +kernel) (by decide) hy ⟨by decide, by decide⟩ (fun h2 => ?_) (fun h2 => ?_)
  · have h2 : y < 1 := h2
    exact gm_throw (ik := 121) (is := 272) (ic := 125) (x := 0) (id := 39) (lw := true) (by decide +kernel) (by decide +kernel) (by decide +kernel) (by decide +kernel) (by decide +kernel) (by decide +kernel) (by decide +kernel) (by decide +kernel) (Nat.le_of_ble_eq_true rfl) (by omega) (by omega) (by omega) (q0 (by omega))
  · have h2 : ¬ y < 1 := h2
    refine gm_sz (gm_p_load (pc := 5) (i := .iload_n 1) (sr := 0) (j := 1) (by decide +kernel) rfl rfl rfl) ?_
    refine gm_sz (gm_p_const (pc := 6) (i := .bipush 50) (v := gm_vi 50) (by decide +kernel) (by decide +kernel)) ?_
    refine fw_ic (cc := .gt) (pc := 8) (off := 18) (by decide +kernel) (by decide) hy ⟨by decide, by decide⟩ (fun h8 => ?_) (fun h8 => ?_)
    · have h8 : 50 < y := h8
      exact gm_throw (ik := 121) (is := 272) (ic := 125) (x := 0) (id := 39) (lw := true) (by decide +kernel) (by decide +kernel) (by decide +kernel) (by decide +kernel) (by decide +kernel) (by decide +kernel) (by decide +kernel) (by decide +kernel) (Nat.le_of_ble_eq_true rfl) (by omega) (by omega) (by omega) (q0 (by omega))
    · have h8 : ¬ 50 < y := h8
      refine gm_sz (gm_p_load (pc := 11) (i := .iload_n 1) (sr := 0) (j := 1) (by decide +kernel) rfl rfl rfl) ?_
      refine gm_sz (gm_p_const (pc := 12) (i := .sipush 299) (v := gm_vi 299) (by decide +kernel) (by decide +kernel)) ?_
      refine gm_sz (gm_p_load (pc := 15) (i := .aload_n 0) (sr := 2) (j := 0) (by decide +kernel) rfl rfl rfl) ?_
      refine gm_sz (fw_gr (pc := 16) (ix := 23) (ci := 0) (j := 3) (r := 3) (by decide +kernel) (e0k hE (k := 1) (c := 0) (by decide +kernel)) (by decide +kernel) (by decide +kernel) (e0r hE (k := 1) (j := 3) (r := 3) (by decide +kernel))) ?_
      refine gm_sz (fw_gi (pc := 19) (ix := 269) (ci := 1) (j := 6) (x := N 9) (by decide +kernel) (e0k hE (k := 3) (c := 1) (by decide +kernel)) (by decide +kernel) (by decide +kernel) (ti_now hT)) ?_
      refine gm_sz (gm_p_bin (pc := 22) (i := .isub) (f := fun x y => x - y) (by decide +kernel) rfl) ?_
      refine fw_ic (cc := .le) (pc := 23) (off := 14) (by decide +kernel) (by decide) hy ⟨by omega, by omega⟩ (fun h23 => ?_) (fun h23 => ?_)
      · have h23 : y ≤ (299 - (N 9)) := h23
        refine gm_sz (gm_p_load (pc := 37) (i := .aload_n 0) (sr := 2) (j := 0) (by decide +kernel) rfl rfl rfl) ?_
        refine gm_sz (fw_gr (pc := 38) (ix := 40) (ci := 0) (j := 7) (r := 42) (by decide +kernel) (e0k hE (k := 1) (c := 0) (by decide +kernel)) (by decide +kernel) (by decide +kernel) (e0r hE (k := 1) (j := 7) (r := 42) (by decide +kernel))) ?_
        refine gm_sz (gm_p_load (pc := 41) (i := .aload_n 0) (sr := 2) (j := 0) (by decide +kernel) rfl rfl rfl) ?_
        refine gm_sz (fw_gr (pc := 42) (ix := 23) (ci := 0) (j := 3) (r := 3) (by decide +kernel) (e0k hE (k := 1) (c := 0) (by decide +kernel)) (by decide +kernel) (by decide +kernel) (e0r hE (k := 1) (j := 3) (r := 3) (by decide +kernel))) ?_
        refine gm_c_virt (k := 42) (ci := 3) (mj := 154) (ix := 243) (pc := 45) (as := [gm_vr 3]) (st := []) (d' := d - 1) (bc' := 0) (bs' := 0) (by decide +kernel) (by decide +kernel) (by decide +kernel) (by decide +kernel) (e0k hE (k := 42) (c := 3) (by decide +kernel)).1 (e0k hE (k := 42) (c := 3) (by decide +kernel)).2 (by decide) (by decide +kernel) (show 1 = gm_na 154 by decide +kernel) (fw_c1 fw_sr) (show 2 ≤ gm_ml 154 by decide +kernel) (Nat.le_of_ble_eq_true rfl) (by omega) (Nat.zero_le _) (Nat.zero_le _) ?_
        refine rem_c154 (by omega) hE hT hN hH (fun p45 M45 hp45 hk45 hs45 ht45 hx45 => ?_)
        show gm_Wp X LX d _ _ 161 48 _ [] n K _ _ Q
        refine gm_sz (gm_p_load (pc := 48) (i := .aload_n 0) (sr := 2) (j := 0) (by decide +kernel) rfl rfl rfl) ?_
        refine gm_c_virt (k := 1) (ci := 0) (mj := 24) (ix := 254) (pc := 49) (as := []) (st := []) (d' := d - 1) (bc' := 0) (bs' := 0) (by decide +kernel) (by decide +kernel) (by decide +kernel) (by decide +kernel) (e0k hE (k := 1) (c := 0) (by decide +kernel)).1 (e0k hE (k := 1) (c := 0) (by decide +kernel)).2 (by decide) (by decide +kernel) (show 0 = gm_na 24 by decide +kernel) fw_c0 (show 1 ≤ gm_ml 24 by decide +kernel) (Nat.le_of_ble_eq_true rfl) (by omega) (Nat.zero_le _) (Nat.zero_le _) ?_
        refine en_c24 (by omega) (e0h hE (v := R 3 8) hp45) ht45 hN (hfw2 p45 hp45) (hrr M M45 hx45 hI) (by rw [hx45 1 15 (by decide)]; exact hk.elim (fun hk => by rw [hk]; exact ⟨by decide, by decide⟩) (fun hk => by rw [hk.1]; exact ⟨by decide, by decide⟩)) (fun hz => by rw [hx45 1 15 (by decide)] at hz ⊢; have hk2 := hk.resolve_left hz; exact ⟨hk2.1, ends_e hk2.2 (fun x j hx => hx45 x j (by omega))⟩) (fun M24 hf24 hI24 h24 he24 => ?_)
        show gm_Wp X LX d _ _ 161 52 _ [] n K _ _ Q
        refine gm_sz (gm_p_const (pc := 52) (i := .iconst 0) (v := gm_vi 0) (by decide +kernel) (by decide +kernel)) ?_
        refine gm_sz (gm_p_stor (pc := 53) (i := .istore_n 2) (sr := 0) (j := 2) (by decide +kernel) rfl (show 3 ≤ _ from Nat.le_of_ble_eq_true rfl) rfl) ?_
        refine gm_sz (gm_p_const (pc := 54) (i := .iconst 0) (v := gm_vi 0) (by decide +kernel) (by decide +kernel)) ?_
        refine gm_sz (gm_p_stor (pc := 55) (i := .istore_n 3) (sr := 0) (j := 3) (by decide +kernel) rfl (show 4 ≤ _ from Nat.le_of_ble_eq_true rfl) rfl) ?_
        have en : ENF N (fun l => M24 221 (l * 2 + 0)) (fun l => M24 221 (l * 2 + 1)) M24 := ⟨he24.1, fun l l0 l1 => ⟨rfl, rfl, OUTR_b (he24.2 l l0 l1) (rL l l0 l1).2.2.2.1.1⟩⟩
        have ey := yrs_e (Ψ := Ψ) (o := o) (dd := dd) (o2 := fun l => M24 221 (l * 2 + 0)) (dd2 := fun l => M24 221 (l * 2 + 1)) hN hg (fun l l0 l1 => by obtain ⟨a1, a2⟩ := OUTR_u (ho l l0 l1) (he24.2 l l0 l1); exact ⟨⟨a1, (OUTR_b (ho l l0 l1) (rL l l0 l1).2.2.2.1.1).1⟩, a2 (rL l l0 l1).2.2.2.1.1⟩) y.toNat (by omega)
        refine ys_l (Ψ := Ψ) (by omega) (e0h hE (v := R 3 8) hp45) (ti_fr (W := [((206 : Nat), some (2 : Int)), ((206 : Nat), some (3 : Int)), ((206 : Nat), some (4 : Int)), ((206 : Nat), some (5 : Int)), ((206 : Nat), some (6 : Int)), ((206 : Nat), some (7 : Int)), ((206 : Nat), some (8 : Int)), ((200 : Nat), some (6 : Int)), ((204 : Nat), none), ((205 : Nat), none), ((220 : Nat), some (3 : Int)), ((221 : Nat), none), ((1 : Nat), some (15 : Int))]) ht45 (fr_t fr_0 hf24 (by decide)) (by decide) (by decide +kernel)) hN hg (hfw2 p45 hp45).2.1 (hmo p45 hp45) hI24 en ⟨by omega, by omega, by omega⟩ (fun M2 hf2 hc2 => ?_) y.toNat 0 M24 (by omega) fr_0 (ti_fr (W := [((206 : Nat), some (2 : Int)), ((206 : Nat), some (3 : Int)), ((206 : Nat), some (4 : Int)), ((206 : Nat), some (5 : Int)), ((206 : Nat), some (6 : Int)), ((206 : Nat), some (7 : Int)), ((206 : Nat), some (8 : Int)), ((200 : Nat), some (6 : Int)), ((204 : Nat), none), ((205 : Nat), none), ((220 : Nat), some (3 : Int)), ((221 : Nat), none), ((1 : Nat), some (15 : Int))]) ht45 (fr_t fr_0 hf24 (by decide)) (by decide) (by decide +kernel)).2.1
        rw [← ey] at hc2 ⊢
        have hw2 : fr [((206 : Nat), some (2 : Int)), ((206 : Nat), some (3 : Int)), ((206 : Nat), some (4 : Int)), ((206 : Nat), some (5 : Int)), ((206 : Nat), some (6 : Int)), ((206 : Nat), some (7 : Int)), ((206 : Nat), some (8 : Int)), ((200 : Nat), some (6 : Int)), ((204 : Nat), none), ((205 : Nat), none), ((220 : Nat), some (3 : Int)), ((221 : Nat), none), ((1 : Nat), some (15 : Int)), ((3 : Nat), some (6 : Int)), ((11 : Nat), none), ((14 : Nat), some (3 : Int)), ((15 : Nat), none), ((204 : Nat), none)] M45 M2 := fr_t (fr_t fr_0 hf24 (by decide)) hf2 (by decide)
        exact hq ⟨by omega, by omega, by omega⟩ p45 M45 M2 hp45 ⟨hk45.1, (fr_c hw2 (by decide)).trans hk45.2⟩ (his_w hs45 hw2 (by decide)) ((hfw2 p45 hp45).2.1 _ _ _ (by decide) hf2 hI24) ((fr_j hf2 (by decide)).trans h24) ((fr_c hf2 (by decide)).trans he24.1) (fun l l0 l1 => by rw [fr_c hf2 (show ([(3, some 6), (11, none), (14, some 3), (15, none), (204, none)]).all (fun w => !(w.1 == 221)) = true by decide), fr_c hf2 (show ([(3, some 6), (11, none), (14, some 3), (15, none), (204, none)]).all (fun w => !(w.1 == 221)) = true by decide)]; exact he24.2 l l0 l1) (cst_fr (ti_fr (W := [((206 : Nat), some (2 : Int)), ((206 : Nat), some (3 : Int)), ((206 : Nat), some (4 : Int)), ((206 : Nat), some (5 : Int)), ((206 : Nat), some (6 : Int)), ((206 : Nat), some (7 : Int)), ((206 : Nat), some (8 : Int)), ((200 : Nat), some (6 : Int)), ((204 : Nat), none), ((205 : Nat), none), ((220 : Nat), some (3 : Int)), ((221 : Nat), none), ((1 : Nat), some (15 : Int))]) ht45 (fr_t fr_0 hf24 (by decide)) (by decide) (by decide +kernel)).1 hf2 (by decide +kernel)) hc2 hx45 hw2
      · have h23 : ¬ y ≤ (299 - (N 9)) := h23
        exact gm_throw (ik := 121) (is := 272) (ic := 125) (x := 0) (id := 39) (lw := true) (by decide +kernel) (by decide +kernel) (by decide +kernel) (by decide +kernel) (by decide +kernel) (by decide +kernel) (by decide +kernel) (by decide +kernel) (Nat.le_of_ble_eq_true rfl) (by omega) (by omega) (by omega) (q0 (by omega))
theorem ac_54 (hd : 8 ≤ d) (hE : E0 n K R) (hT : TI N h sp M) (hN : NR N) (hH : HIS A M) (hA : ∀ N1 ∈ A, NR N1) (hq0 : A = [] → ∀ M2 : gm_M, fr [((1 : Nat), some (15 : Int))] M M2 → M2 1 15 = 0 → Q (.inl (some (gm_vi 0))) n K R M2) (hq1 : ∀ (N0 : Int → Int) (A1 : List (Int → Int)) (p : Nat) (M2 : gm_M), A = N0 :: A1 → p < 12 → (M2 42 1 = (p : Int) ∧ M 42 1 = ((p : Int) + 1) % 12) → HIS A1 M2 → CST M2 → cs M2 3 = N0 → M2 1 15 = 0 → (∀ (x : Nat) (j : Int), x < 3 ∨ (15 < x ∧ ¬ x = 42) → ¬ (x = 1 ∧ j = 15) → M2 x j = M x j) → Q (.inl (some (gm_vi 1))) n K (gm_uR R 3 8 (R (44 + 13 * p) 8)) M2) : gm_Wp X LX d bc bs 54 0 (gm_ent 54 [gm_vr 1]) [] n K R M Q := by
  refine gm_sz (gm_p_load (pc := 0) (i := .aload_n 0) (sr := 2) (j := 0) (by decide +kernel) rfl rfl rfl) ?_
  refine gm_sz (gm_p_const (pc := 1) (i := .iconst 0) (v := gm_vi 0) (by decide +kernel) (by decide +kernel)) ?_
  refine gm_sz (fw_pz (pc := 2) (ix := 101) (ci := 0) (j := 15) (M' := gm_uM M 1 15 0) (by decide +kernel) (e0k hE (k := 1) (c := 0) (by decide +kernel)) (by decide +kernel) (by decide +kernel) (by decide +kernel) (Or.inl rfl) rfl) ?_
  refine gm_sz (gm_p_load (pc := 5) (i := .aload_n 0) (sr := 2) (j := 0) (by decide +kernel) rfl rfl rfl) ?_
  refine gm_sz (fw_gr (pc := 6) (ix := 40) (ci := 0) (j := 7) (r := 42) (by decide +kernel) (e0k hE (k := 1) (c := 0) (by decide +kernel)) (by decide +kernel) (by decide +kernel) (e0r hE (k := 1) (j := 7) (r := 42) (by decide +kernel))) ?_
  refine gm_sz (gm_p_load (pc := 9) (i := .aload_n 0) (sr := 2) (j := 0) (by decide +kernel) rfl rfl rfl) ?_
  refine gm_sz (fw_gr (pc := 10) (ix := 23) (ci := 0) (j := 3) (r := 3) (by decide +kernel) (e0k hE (k := 1) (c := 0) (by decide +kernel)) (by decide +kernel) (by decide +kernel) (e0r hE (k := 1) (j := 3) (r := 3) (by decide +kernel))) ?_
  refine gm_c_virt (k := 42) (ci := 3) (mj := 55) (ix := 419) (pc := 13) (as := [gm_vr 3]) (st := []) (d' := d - 1) (bc' := 0) (bs' := 0) (by decide +kernel) (by decide +kernel) (by decide +kernel) (by decide +kernel) (e0k hE (k := 42) (c := 3) (by decide +kernel)).1 (e0k hE (k := 42) (c := 3) (by decide +kernel)).2 (by decide) (by decide +kernel) (show 1 = gm_na 55 by decide +kernel) (fw_c1 fw_sr) (show 2 ≤ gm_ml 55 by decide +kernel) (Nat.le_of_ble_eq_true rfl) (by omega) (Nat.zero_le _) (Nat.zero_le _) ?_
  refine tb_c55 (by omega) hE (ti_fr (W := [((1 : Nat), some (15 : Int))]) hT (fr_p fr_0 (Or.inr (by decide))) (by decide) (by decide +kernel)) (his_w (W := [((1 : Nat), some (15 : Int))]) hH (fr_p fr_0 (Or.inr (by decide))) (by decide)) hA (fun ha9 => ?_) (fun N0 A1 p9 M9 ha9 hp9 hk9 hh9 hc9 hn9 hx9 => ?_)
  · show gm_Wp X LX d _ _ 54 16 _ [gm_vi 0] n K _ _ Q
    exact gm_r_int (pc := 16) (by decide +kernel) (Or.inr ⟨(by decide +kernel), Or.inl rfl⟩) (hq0 ha9 _ (fr_p fr_0 (Or.inr (by decide))) uM_at)
  · show gm_Wp X LX d _ _ 54 16 _ [gm_vi 1] n K _ _ Q
    exact gm_r_int (pc := 16) (by decide +kernel) (Or.inr ⟨(by decide +kernel), Or.inr rfl⟩) (hq1 N0 A1 p9 M9 ha9 hp9 ⟨hk9.1, (uM_ne (by decide)).symm.trans hk9.2⟩ hh9 hc9 hn9 ((hx9 1 15 (by decide)).trans uM_at) (fun x j hx h15 => (hx9 x j hx).trans (uM_ne (fun hh => h15 ⟨hh.1, hh.2⟩))))
theorem ac_60 (hd : 8 ≤ d) (hE : E0 n K R) (hT : TI N h sp M) (hN : NR N) (hb : M 1 6 = 0 ∨ M 1 6 = 1) (q0 : M 1 6 = 0 → Q (.inl (some (gm_vi 0))) n K R M) (hi : M 1 6 = 1 → cs M 29 = NI ∧ NR NI ∧ NS NI) (hq : M 1 6 = 1 → ∀ M2 : gm_M, TI NI (hts (NI 13)) (spd NI) M2 → M2 200 6 = 1 → M2 42 2 = 0 → M2 1 15 = 0 → (∀ (x : Nat) (j : Int), x < 3 ∨ 15 < x → ¬ x = 201 → ¬ x = 202 → ¬ x = 203 → ¬ (x = 200 ∧ j = 6) → ¬ (x = 42 ∧ j = 2) → ¬ (x = 1 ∧ j = 15) → M2 x j = M x j) → Q (.inl (some (gm_vi 1))) n K (gm_uR R 3 8 (R 29 8)) M2) : gm_Wp X LX d bc bs 60 0 (gm_ent 60 [gm_vr 1]) [] n K R M Q := by
  refine gm_sz (gm_p_load (pc := 0) (i := .aload_n 0) (sr := 2) (j := 0) (by decide +kernel) rfl rfl rfl) ?_
  refine gm_sz (fw_gi (pc := 1) (ix := 33) (ci := 0) (j := 6) (x := M 1 6) (by decide +kernel) (e0k hE (k := 1) (c := 0) (by decide +kernel)) (by decide +kernel) (by decide +kernel) rfl) ?_
  refine fw_if (cc := .ne) (pc := 4) (off := 5) (by decide +kernel) (by decide) (by rcases hb with h | h <;> rw [h] <;> exact ⟨by decide, by decide⟩) (fun h4 => ?_) (fun h4 => ?_)
  · have h4 : ¬ (M 1 6) = 0 := h4
    obtain ⟨i1, i2, i3⟩ := hi (by omega)
    refine gm_sz (gm_p_load (pc := 9) (i := .aload_n 0) (sr := 2) (j := 0) (by decide +kernel) rfl rfl rfl) ?_
    refine gm_sz (fw_gr (pc := 10) (ix := 23) (ci := 0) (j := 3) (r := 3) (by decide +kernel) (e0k hE (k := 1) (c := 0) (by decide +kernel)) (by decide +kernel) (by decide +kernel) (e0r hE (k := 1) (j := 3) (r := 3) (by decide +kernel))) ?_
    refine gm_sz (gm_p_load (pc := 13) (i := .aload_n 0) (sr := 2) (j := 0) (by decide +kernel) rfl rfl rfl) ?_
    refine gm_sz (fw_gr (pc := 14) (ix := 30) (ci := 0) (j := 5) (r := 29) (by decide +kernel) (e0k hE (k := 1) (c := 0) (by decide +kernel)) (by decide +kernel) (by decide +kernel) (e0r hE (k := 1) (j := 5) (r := 29) (by decide +kernel))) ?_
    refine gm_c_virt (k := 3) (ci := 1) (mj := 57) (ix := 114) (pc := 17) (as := [gm_vr 29]) (st := []) (d' := d - 1) (bc' := 0) (bs' := 0) (by decide +kernel) (by decide +kernel) (by decide +kernel) (by decide +kernel) (e0k hE (k := 3) (c := 1) (by decide +kernel)).1 (e0k hE (k := 3) (c := 1) (by decide +kernel)).2 (by decide) (by decide +kernel) (show 1 = gm_na 57 by decide +kernel) (fw_c1 fw_sr) (show 2 ≤ gm_ml 57 by decide +kernel) (Nat.le_of_ble_eq_true rfl) (by omega) (Nat.zero_le _) (Nat.zero_le _) ?_
    refine st_copy (b := 3) (s := 29) (by omega) (ks_3 hE) (ks_29 hE) (by omega) (mx_3 hT.1) (sz_cs i2 i1) (fun M9 hx9 hy9 hc9 => ?_)
    show gm_Wp X LX d _ _ 60 20 _ [] n K _ _ Q
    have t9 : TQ NI M9 := ⟨cst_cpy0 (List.all_eq_true.mp cst_cpf 3 (by decide)) hT.1 ⟨hx9, hy9, hc9⟩, hc9.trans i1⟩
    refine gm_sz (gm_p_load (pc := 20) (i := .aload_n 0) (sr := 2) (j := 0) (by decide +kernel) rfl rfl rfl) ?_
    refine gm_c_virt (k := 1) (ci := 0) (mj := 61) (ix := 136) (pc := 21) (as := []) (st := []) (d' := d - 1) (bc' := 0) (bs' := 0) (by decide +kernel) (by decide +kernel) (by decide +kernel) (by decide +kernel) (e0k hE (k := 1) (c := 0) (by decide +kernel)).1 (e0k hE (k := 1) (c := 0) (by decide +kernel)).2 (by decide) (by decide +kernel) (show 0 = gm_na 61 by decide +kernel) fw_c0 (show 1 ≤ gm_ml 61 by decide +kernel) (Nat.le_of_ble_eq_true rfl) (by omega) (Nat.zero_le _) (Nat.zero_le _) ?_
    refine fw_c61 (by omega) (e0h3 hE) t9 i2 i3 (fun M61 hf61 ht61 h6 h42 h15 => ?_)
    show gm_Wp X LX d _ _ 60 24 _ [] n K _ _ Q
    refine gm_sz (gm_p_const (pc := 24) (i := .iconst 1) (v := gm_vi 1) (by decide +kernel) (by decide +kernel)) ?_
    exact gm_r_int (pc := 25) (by decide +kernel) (Or.inr ⟨(by decide +kernel), Or.inr rfl⟩) (hq (by omega) M61 ht61 h6 h42 h15 (fun x j hx h1 h2 h3 h4 h5 h7 => (hf61 x j (by intro hm; simp at hm; omega) (by intro hm; simp at hm; omega)).trans (hx9 x j (by omega))))
  · have h4 : (M 1 6) = 0 := Classical.not_not.mp h4
    refine gm_sz (gm_p_const (pc := 7) (i := .iconst 0) (v := gm_vi 0) (by decide +kernel) (by decide +kernel)) ?_
    exact gm_r_int (pc := 8) (by decide +kernel) (Or.inr ⟨(by decide +kernel), Or.inl rfl⟩) (q0 (by omega))
end YS15
end
/-! 7a26.r5ac -/
section
/-! THE REFERENCE: what is refused, what is remembered, image, heats (laid by wip/core/r5.py). -/
section AR5
variable {X : Int → Int} {LX d bc bs n : Nat} {K : gm_K} {R : gm_R} {M : gm_M} {Q : gm_Q} {i x y z c v : Int} {N h : Int → Int} {A : List (Int → Int)}
theorem tf_1 (hE : E0 n K R) (hq : Q (.inl (some (gm_vi 1))) n K R (gm_uM M 226 0 c)) : gm_Wp X LX d bc bs 282 0 (gm_ent 282 [gm_vr 226, gm_vi 1, gm_vi c]) [] n K R M Q := by
  refine gm_sz (gm_p_load (pc := 0) (i := .iload_n 1) (sr := 0) (j := 1) (by decide +kernel) rfl rfl rfl) ?_
  refine fw_iffd (cc := .eq) (pc := 1) (off := 8) (by decide +kernel) (by decide) ⟨by decide, by decide⟩ (by decide) ?_
  refine gm_sz (gm_p_load (pc := 4) (i := .aload_n 0) (sr := 2) (j := 0) (by decide +kernel) rfl rfl rfl) ?_
  refine gm_sz (gm_p_load (pc := 5) (i := .iload_n 2) (sr := 0) (j := 2) (by decide +kernel) rfl rfl rfl) ?_
  refine gm_sz (fw_pi (pc := 6) (ix := 3) (ci := 11) (j := 0) (M' := gm_uM M 226 0 c) (by decide +kernel) (e0k hE (k := 226) (c := 11) (by decide +kernel)) (by decide +kernel) (by decide +kernel) (by decide +kernel) rfl) ?_
  refine gm_sz (gm_p_load (pc := 9) (i := .iload_n 1) (sr := 0) (j := 1) (by decide +kernel) rfl rfl rfl) ?_
  exact gm_r_int (pc := 10) (by decide +kernel) (Or.inr ⟨(by decide +kernel), Or.inr rfl⟩) hq
theorem tf_0 (hE : E0 n K R) (hq : Q (.inl (some (gm_vi 0))) n K R M) : gm_Wp X LX d bc bs 282 0 (gm_ent 282 [gm_vr 226, gm_vi 0, gm_vi c]) [] n K R M Q := by
  refine gm_sz (gm_p_load (pc := 0) (i := .iload_n 1) (sr := 0) (j := 1) (by decide +kernel) rfl rfl rfl) ?_
  refine fw_iftd (cc := .eq) (pc := 1) (off := 8) (by decide +kernel) (by decide) ⟨by decide, by decide⟩ (by decide) ?_
  refine gm_sz (gm_p_load (pc := 9) (i := .iload_n 1) (sr := 0) (j := 1) (by decide +kernel) rfl rfl rfl) ?_
  exact gm_r_int (pc := 10) (by decide +kernel) (Or.inr ⟨(by decide +kernel), Or.inl rfl⟩) hq
theorem in_286 (hx : gm_ir x) (hy : gm_ir y) (hz : gm_ir z) (q1 : y ≤ x → x ≤ z → Q (.inl (some (gm_vi 1))) n K R M) (q0 : ¬ (y ≤ x ∧ x ≤ z) → Q (.inl (some (gm_vi 0))) n K R M) : gm_Wp X LX d bc bs 286 0 (gm_ent 286 [gm_vi x, gm_vi y, gm_vi z]) [] n K R M Q := by
  refine gm_sz (gm_p_load (pc := 0) (i := .iload_n 0) (sr := 0) (j := 0) (by decide +kernel) rfl rfl rfl) ?_
  refine gm_sz (gm_p_load (pc := 1) (i := .iload_n 1) (sr := 0) (j := 1) (by decide +kernel) rfl rfl rfl) ?_
  refine fw_ic (cc := .lt) (pc := 2) (off := 12) (by decide +kernel) (by decide) hx hy (fun h2 => ?_) (fun h2 => ?_)
  · have h2 : x < y := h2
    refine gm_sz (gm_p_const (pc := 14) (i := .iconst 0) (v := gm_vi 0) (by decide +kernel) (by decide +kernel)) ?_
    exact gm_r_int (pc := 15) (by decide +kernel) (Or.inr ⟨(by decide +kernel), Or.inl rfl⟩) (q0 (by omega))
  · have h2 : ¬ x < y := h2
    refine gm_sz (gm_p_load (pc := 5) (i := .iload_n 0) (sr := 0) (j := 0) (by decide +kernel) rfl rfl rfl) ?_
    refine gm_sz (gm_p_load (pc := 6) (i := .iload_n 2) (sr := 0) (j := 2) (by decide +kernel) rfl rfl rfl) ?_
    refine fw_ic (cc := .gt) (pc := 7) (off := 7) (by decide +kernel) (by decide) hx hz (fun h7 => ?_) (fun h7 => ?_)
    · have h7 : z < x := h7
      refine gm_sz (gm_p_const (pc := 14) (i := .iconst 0) (v := gm_vi 0) (by decide +kernel) (by decide +kernel)) ?_
      exact gm_r_int (pc := 15) (by decide +kernel) (Or.inr ⟨(by decide +kernel), Or.inl rfl⟩) (q0 (by omega))
    · have h7 : ¬ z < x := h7
      refine gm_sz (gm_p_const (pc := 10) (i := .iconst 1) (v := gm_vi 1) (by decide +kernel) (by decide +kernel)) ?_
      refine gm_sz (gm_p_goto (pc := 11) (off := 4) (by decide +kernel) (by decide)) ?_
      exact gm_r_int (pc := 15) (by decide +kernel) (Or.inr ⟨(by decide +kernel), Or.inr rfl⟩) (q1 (by omega) (by omega))
theorem no_288 (hd : 1 ≤ d) (hE : E0 n K R) (hT : TR N h M) (hN : NR N) (hi : gm_ir i) (q1 : ¬ (0 ≤ i ∧ i < N 0) → Q (.inl (some (gm_vi 1))) n K R M) (q0 : 0 ≤ i ∧ i < N 0 → Q (.inl (some (gm_vi 0))) n K R M) : gm_Wp X LX d bc bs 288 0 (gm_ent 288 [gm_vr 226, gm_vi i]) [] n K R M Q := by
  obtain ⟨⟨⟨a0, b0⟩, ⟨a1, b1⟩, ⟨a10, b10⟩, ⟨a11, b11⟩, ⟨a12, b12⟩, a9, b9⟩, ⟨⟨a2, b2⟩, ⟨a5, b5⟩, ⟨a3, b3⟩, ⟨a4, b4⟩, ⟨a6, b6⟩, ⟨a14, b14⟩, ⟨a7, b7⟩, a13, b13⟩, rF, rP, rL⟩ := id hN
  refine gm_sz (gm_p_load (pc := 0) (i := .iload_n 1) (sr := 0) (j := 1) (by decide +kernel) rfl rfl rfl) ?_
  refine gm_sz (gm_p_const (pc := 1) (i := .iconst 0) (v := gm_vi 0) (by decide +kernel) (by decide +kernel)) ?_
  refine gm_sz (gm_p_load (pc := 2) (i := .aload_n 0) (sr := 2) (j := 0) (by decide +kernel) rfl rfl rfl) ?_
  refine gm_c_virt (k := 226) (ci := 11) (mj := 261) (ix := 86) (pc := 3) (as := []) (st := [gm_vi 0, gm_vi i]) (d' := d - 1) (bc' := 0) (bs' := 0) (by decide +kernel) (by decide +kernel) (by decide +kernel) (by decide +kernel) (e0k hE (k := 226) (c := 11) (by decide +kernel)).1 (e0k hE (k := 226) (c := 11) (by decide +kernel)).2 (by decide) (by decide +kernel) (show 0 = gm_na 261 by decide +kernel) fw_c0 (show 1 ≤ gm_ml 261 by decide +kernel) (Nat.le_of_ble_eq_true rfl) (by omega) (Nat.zero_le _) (Nat.zero_le _) ?_
  refine re_lan hE hT hN ?_
  show gm_Wp X LX d _ _ 288 6 _ [gm_vi (N 0), gm_vi 0, gm_vi i] n K _ _ Q
  refine gm_sz (gm_p_const (pc := 6) (i := .iconst 1) (v := gm_vi 1) (by decide +kernel) (by decide +kernel)) ?_
  refine gm_sz (gm_p_bin (pc := 7) (i := .isub) (f := fun x y => x - y) (by decide +kernel) rfl) ?_
  refine gm_c_stat (mj := 286) (ix := 90) (pc := 8) (as := [gm_vi i, gm_vi 0, gm_vi ((N 0) - 1)]) (st := []) (d' := d - 1) (bc' := 0) (bs' := 0) (by decide +kernel) (by decide +kernel) (by decide +kernel) (by decide +kernel) (show 3 = gm_na 286 by decide +kernel) (fw_c3 fw_si fw_si fw_si) (show 3 ≤ gm_ml 286 by decide +kernel) (Nat.le_of_ble_eq_true rfl) (by omega) (Nat.zero_le _) (Nat.zero_le _) ?_
  refine in_286 (x := i) (y := 0) (z := ((N 0) - 1)) hi ⟨by decide, by decide⟩ ⟨by omega, by omega⟩ (fun k8a k8 => ?_) (fun k8 => ?_)
  · show gm_Wp X LX d _ _ 288 11 _ [gm_vi 1] n K _ _ Q
    have k8a : 0 ≤ i := k8a
    have k8 : i ≤ ((N 0) - 1) := k8
    refine fw_iftd (cc := .ne) (pc := 11) (off := 7) (by decide +kernel) (by decide) ⟨by decide, by decide⟩ (by decide) ?_
    refine gm_sz (gm_p_const (pc := 18) (i := .iconst 0) (v := gm_vi 0) (by decide +kernel) (by decide +kernel)) ?_
    exact gm_r_int (pc := 19) (by decide +kernel) (Or.inr ⟨(by decide +kernel), Or.inl rfl⟩) (q0 (by omega))
  · show gm_Wp X LX d _ _ 288 11 _ [gm_vi 0] n K _ _ Q
    have k8 : ¬ (0 ≤ i ∧ i ≤ ((N 0) - 1)) := k8
    refine fw_iffd (cc := .ne) (pc := 11) (off := 7) (by decide +kernel) (by decide) ⟨by decide, by decide⟩ (by decide) ?_
    refine gm_sz (gm_p_const (pc := 14) (i := .iconst 1) (v := gm_vi 1) (by decide +kernel) (by decide +kernel)) ?_
    refine gm_sz (gm_p_goto (pc := 15) (off := 4) (by decide +kernel) (by decide)) ?_
    exact gm_r_int (pc := 19) (by decide +kernel) (Or.inr ⟨(by decide +kernel), Or.inr rfl⟩) (q1 (by omega))
theorem no_298 (hd : 1 ≤ d) (hE : E0 n K R) (hT : TR N h M) (hN : NR N) (hi : gm_ir i) (q1 : ¬ (0 ≤ i ∧ i < N 3) → Q (.inl (some (gm_vi 1))) n K R M) (q0 : 0 ≤ i ∧ i < N 3 → Q (.inl (some (gm_vi 0))) n K R M) : gm_Wp X LX d bc bs 298 0 (gm_ent 298 [gm_vr 226, gm_vi i]) [] n K R M Q := by
  obtain ⟨⟨⟨a0, b0⟩, ⟨a1, b1⟩, ⟨a10, b10⟩, ⟨a11, b11⟩, ⟨a12, b12⟩, a9, b9⟩, ⟨⟨a2, b2⟩, ⟨a5, b5⟩, ⟨a3, b3⟩, ⟨a4, b4⟩, ⟨a6, b6⟩, ⟨a14, b14⟩, ⟨a7, b7⟩, a13, b13⟩, rF, rP, rL⟩ := id hN
  refine gm_sz (gm_p_load (pc := 0) (i := .iload_n 1) (sr := 0) (j := 1) (by decide +kernel) rfl rfl rfl) ?_
  refine gm_sz (gm_p_const (pc := 1) (i := .iconst 0) (v := gm_vi 0) (by decide +kernel) (by decide +kernel)) ?_
  refine gm_sz (gm_p_load (pc := 2) (i := .aload_n 0) (sr := 2) (j := 0) (by decide +kernel) rfl rfl rfl) ?_
  refine gm_c_virt (k := 226) (ci := 11) (mj := 253) (ix := 97) (pc := 3) (as := []) (st := [gm_vi 0, gm_vi i]) (d' := d - 1) (bc' := 0) (bs' := 0) (by decide +kernel) (by decide +kernel) (by decide +kernel) (by decide +kernel) (e0k hE (k := 226) (c := 11) (by decide +kernel)).1 (e0k hE (k := 226) (c := 11) (by decide +kernel)).2 (by decide) (by decide +kernel) (show 0 = gm_na 253 by decide +kernel) fw_c0 (show 1 ≤ gm_ml 253 by decide +kernel) (Nat.le_of_ble_eq_true rfl) (by omega) (Nat.zero_le _) (Nat.zero_le _) ?_
  refine re_peo hE hT hN ?_
  show gm_Wp X LX d _ _ 298 6 _ [gm_vi (N 3), gm_vi 0, gm_vi i] n K _ _ Q
  refine gm_sz (gm_p_const (pc := 6) (i := .iconst 1) (v := gm_vi 1) (by decide +kernel) (by decide +kernel)) ?_
  refine gm_sz (gm_p_bin (pc := 7) (i := .isub) (f := fun x y => x - y) (by decide +kernel) rfl) ?_
  refine gm_c_stat (mj := 286) (ix := 90) (pc := 8) (as := [gm_vi i, gm_vi 0, gm_vi ((N 3) - 1)]) (st := []) (d' := d - 1) (bc' := 0) (bs' := 0) (by decide +kernel) (by decide +kernel) (by decide +kernel) (by decide +kernel) (show 3 = gm_na 286 by decide +kernel) (fw_c3 fw_si fw_si fw_si) (show 3 ≤ gm_ml 286 by decide +kernel) (Nat.le_of_ble_eq_true rfl) (by omega) (Nat.zero_le _) (Nat.zero_le _) ?_
  refine in_286 (x := i) (y := 0) (z := ((N 3) - 1)) hi ⟨by decide, by decide⟩ ⟨by omega, by omega⟩ (fun k8a k8 => ?_) (fun k8 => ?_)
  · show gm_Wp X LX d _ _ 298 11 _ [gm_vi 1] n K _ _ Q
    have k8a : 0 ≤ i := k8a
    have k8 : i ≤ ((N 3) - 1) := k8
    refine fw_iftd (cc := .ne) (pc := 11) (off := 7) (by decide +kernel) (by decide) ⟨by decide, by decide⟩ (by decide) ?_
    refine gm_sz (gm_p_const (pc := 18) (i := .iconst 0) (v := gm_vi 0) (by decide +kernel) (by decide +kernel)) ?_
    exact gm_r_int (pc := 19) (by decide +kernel) (Or.inr ⟨(by decide +kernel), Or.inl rfl⟩) (q0 (by omega))
  · show gm_Wp X LX d _ _ 298 11 _ [gm_vi 0] n K _ _ Q
    have k8 : ¬ (0 ≤ i ∧ i ≤ ((N 3) - 1)) := k8
    refine fw_iffd (cc := .ne) (pc := 11) (off := 7) (by decide +kernel) (by decide) ⟨by decide, by decide⟩ (by decide) ?_
    refine gm_sz (gm_p_const (pc := 14) (i := .iconst 1) (v := gm_vi 1) (by decide +kernel) (by decide +kernel)) ?_
    refine gm_sz (gm_p_goto (pc := 15) (off := 4) (by decide +kernel) (by decide)) ?_
    exact gm_r_int (pc := 19) (by decide +kernel) (Or.inr ⟨(by decide +kernel), Or.inr rfl⟩) (q1 (by omega))
theorem no_309 (hd : 1 ≤ d) (hE : E0 n K R) (hT : TR N h M) (hN : NR N) (hi : gm_ir i) (q1 : ¬ (0 ≤ i ∧ i < N 4) → Q (.inl (some (gm_vi 1))) n K R M) (q0 : 0 ≤ i ∧ i < N 4 → Q (.inl (some (gm_vi 0))) n K R M) : gm_Wp X LX d bc bs 309 0 (gm_ent 309 [gm_vr 226, gm_vi i]) [] n K R M Q := by
  obtain ⟨⟨⟨a0, b0⟩, ⟨a1, b1⟩, ⟨a10, b10⟩, ⟨a11, b11⟩, ⟨a12, b12⟩, a9, b9⟩, ⟨⟨a2, b2⟩, ⟨a5, b5⟩, ⟨a3, b3⟩, ⟨a4, b4⟩, ⟨a6, b6⟩, ⟨a14, b14⟩, ⟨a7, b7⟩, a13, b13⟩, rF, rP, rL⟩ := id hN
  refine gm_sz (gm_p_load (pc := 0) (i := .iload_n 1) (sr := 0) (j := 1) (by decide +kernel) rfl rfl rfl) ?_
  refine gm_sz (gm_p_const (pc := 1) (i := .iconst 0) (v := gm_vi 0) (by decide +kernel) (by decide +kernel)) ?_
  refine gm_sz (gm_p_load (pc := 2) (i := .aload_n 0) (sr := 2) (j := 0) (by decide +kernel) rfl rfl rfl) ?_
  refine gm_c_virt (k := 226) (ci := 11) (mj := 254) (ix := 100) (pc := 3) (as := []) (st := [gm_vi 0, gm_vi i]) (d' := d - 1) (bc' := 0) (bs' := 0) (by decide +kernel) (by decide +kernel) (by decide +kernel) (by decide +kernel) (e0k hE (k := 226) (c := 11) (by decide +kernel)).1 (e0k hE (k := 226) (c := 11) (by decide +kernel)).2 (by decide) (by decide +kernel) (show 0 = gm_na 254 by decide +kernel) fw_c0 (show 1 ≤ gm_ml 254 by decide +kernel) (Nat.le_of_ble_eq_true rfl) (by omega) (Nat.zero_le _) (Nat.zero_le _) ?_
  refine re_let hE hT hN ?_
  show gm_Wp X LX d _ _ 309 6 _ [gm_vi (N 4), gm_vi 0, gm_vi i] n K _ _ Q
  refine gm_sz (gm_p_const (pc := 6) (i := .iconst 1) (v := gm_vi 1) (by decide +kernel) (by decide +kernel)) ?_
  refine gm_sz (gm_p_bin (pc := 7) (i := .isub) (f := fun x y => x - y) (by decide +kernel) rfl) ?_
  refine gm_c_stat (mj := 286) (ix := 90) (pc := 8) (as := [gm_vi i, gm_vi 0, gm_vi ((N 4) - 1)]) (st := []) (d' := d - 1) (bc' := 0) (bs' := 0) (by decide +kernel) (by decide +kernel) (by decide +kernel) (by decide +kernel) (show 3 = gm_na 286 by decide +kernel) (fw_c3 fw_si fw_si fw_si) (show 3 ≤ gm_ml 286 by decide +kernel) (Nat.le_of_ble_eq_true rfl) (by omega) (Nat.zero_le _) (Nat.zero_le _) ?_
  refine in_286 (x := i) (y := 0) (z := ((N 4) - 1)) hi ⟨by decide, by decide⟩ ⟨by omega, by omega⟩ (fun k8a k8 => ?_) (fun k8 => ?_)
  · show gm_Wp X LX d _ _ 309 11 _ [gm_vi 1] n K _ _ Q
    have k8a : 0 ≤ i := k8a
    have k8 : i ≤ ((N 4) - 1) := k8
    refine fw_iftd (cc := .ne) (pc := 11) (off := 7) (by decide +kernel) (by decide) ⟨by decide, by decide⟩ (by decide) ?_
    refine gm_sz (gm_p_const (pc := 18) (i := .iconst 0) (v := gm_vi 0) (by decide +kernel) (by decide +kernel)) ?_
    exact gm_r_int (pc := 19) (by decide +kernel) (Or.inr ⟨(by decide +kernel), Or.inl rfl⟩) (q0 (by omega))
  · show gm_Wp X LX d _ _ 309 11 _ [gm_vi 0] n K _ _ Q
    have k8 : ¬ (0 ≤ i ∧ i ≤ ((N 4) - 1)) := k8
    refine fw_iffd (cc := .ne) (pc := 11) (off := 7) (by decide +kernel) (by decide) ⟨by decide, by decide⟩ (by decide) ?_
    refine gm_sz (gm_p_const (pc := 14) (i := .iconst 1) (v := gm_vi 1) (by decide +kernel) (by decide +kernel)) ?_
    refine gm_sz (gm_p_goto (pc := 15) (off := 4) (by decide +kernel) (by decide)) ?_
    exact gm_r_int (pc := 19) (by decide +kernel) (Or.inr ⟨(by decide +kernel), Or.inr rfl⟩) (q1 (by omega))
theorem no_285 (hd : 1 ≤ d) (hi : gm_ir i) (q1 : ¬ (0 ≤ i ∧ i ≤ 299) → Q (.inl (some (gm_vi 1))) n K R M) (q0 : 0 ≤ i ∧ i ≤ 299 → Q (.inl (some (gm_vi 0))) n K R M) : gm_Wp X LX d bc bs 285 0 (gm_ent 285 [gm_vi i]) [] n K R M Q := by
  refine gm_sz (gm_p_load (pc := 0) (i := .iload_n 0) (sr := 0) (j := 0) (by decide +kernel) rfl rfl rfl) ?_
  refine gm_sz (gm_p_const (pc := 1) (i := .iconst 0) (v := gm_vi 0) (by decide +kernel) (by decide +kernel)) ?_
  refine gm_sz (gm_p_const (pc := 2) (i := .sipush 299) (v := gm_vi 299) (by decide +kernel) (by decide +kernel)) ?_
  refine gm_c_stat (mj := 286) (ix := 90) (pc := 5) (as := [gm_vi i, gm_vi 0, gm_vi 299]) (st := []) (d' := d - 1) (bc' := 0) (bs' := 0) (by decide +kernel) (by decide +kernel) (by decide +kernel) (by decide +kernel) (show 3 = gm_na 286 by decide +kernel) (fw_c3 fw_si fw_si fw_si) (show 3 ≤ gm_ml 286 by decide +kernel) (Nat.le_of_ble_eq_true rfl) (by omega) (Nat.zero_le _) (Nat.zero_le _) ?_
  refine in_286 (x := i) (y := 0) (z := 299) hi ⟨by decide, by decide⟩ ⟨by decide, by decide⟩ (fun k5a k5 => ?_) (fun k5 => ?_)
  · show gm_Wp X LX d _ _ 285 8 _ [gm_vi 1] n K _ _ Q
    have k5a : 0 ≤ i := k5a
    have k5 : i ≤ 299 := k5
    refine fw_iftd (cc := .ne) (pc := 8) (off := 7) (by decide +kernel) (by decide) ⟨by decide, by decide⟩ (by decide) ?_
    refine gm_sz (gm_p_const (pc := 15) (i := .iconst 0) (v := gm_vi 0) (by decide +kernel) (by decide +kernel)) ?_
    exact gm_r_int (pc := 16) (by decide +kernel) (Or.inr ⟨(by decide +kernel), Or.inl rfl⟩) (q0 (by omega))
  · show gm_Wp X LX d _ _ 285 8 _ [gm_vi 0] n K _ _ Q
    have k5 : ¬ (0 ≤ i ∧ i ≤ 299) := k5
    refine fw_iffd (cc := .ne) (pc := 8) (off := 7) (by decide +kernel) (by decide) ⟨by decide, by decide⟩ (by decide) ?_
    refine gm_sz (gm_p_const (pc := 11) (i := .iconst 1) (v := gm_vi 1) (by decide +kernel) (by decide +kernel)) ?_
    refine gm_sz (gm_p_goto (pc := 12) (off := 4) (by decide +kernel) (by decide)) ?_
    exact gm_r_int (pc := 16) (by decide +kernel) (Or.inr ⟨(by decide +kernel), Or.inr rfl⟩) (q1 (by omega))
theorem rs_w (hw : ws (M 227) = N) {j : Int} (h0 : 0 ≤ j) (h1 : j < 395) (h8 : ¬ j = 8) : M 227 j = N j := by
  rw [← hw]
  unfold ws
  rw [if_pos ⟨h0, h1, h8⟩]
theorem wa_l (hE : E0 n K R) (hq : ∀ M2, fr [((234 : Nat), none), ((226 : Nat), some (26 : Int))] M M2 → (∀ y, 0 ≤ y → y < 300 → M2 234 y = hts (N 13) y) → M2 226 26 = -1 → Q (.inl none) n K R M2) : ∀ (u k : Nat) (M1 : gm_M), k + u = 300 → fr [((234 : Nat), none)] M M1 → (∀ y, 0 ≤ y → y < (k : Int) → M1 234 y = hts (N 13) y) → gm_Wp X LX d bc bs 235 10 [some (gm_vr 226), some (gm_vi (hnum (N 13) k)), some (gm_vi (k : Int))] [] n K R M1 Q := by
  intro u
  induction u with
  | zero =>
    intro k M1 hk hf hy
    refine gm_sz (gm_p_load (pc := 10) (i := .iload_n 2) (sr := 0) (j := 2) (by decide +kernel) rfl rfl rfl) ?_
    refine gm_sz (gm_p_const (pc := 11) (i := .sipush 300) (v := gm_vi 300) (by decide +kernel) (by decide +kernel)) ?_
    refine fw_ict (cc := .ge) (pc := 14) (off := 36) (by decide +kernel) (by decide) ⟨by omega, by omega⟩ ⟨by decide, by decide⟩ (show 300 ≤ (k : Int) by omega) ?_
    refine gm_sz (gm_p_load (pc := 50) (i := .aload_n 0) (sr := 2) (j := 0) (by decide +kernel) rfl rfl rfl) ?_
    refine gm_sz (gm_p_const (pc := 51) (i := .iconst (-1)) (v := gm_vi (-1)) (by decide +kernel) (by decide +kernel)) ?_
    refine gm_sz (fw_pi (pc := 52) (ix := 331) (ci := 11) (j := 26) (M' := gm_uM M1 226 26 (-1)) (by decide +kernel) (e0k hE (k := 226) (c := 11) (by decide +kernel)) (by decide +kernel) (by decide +kernel) (by decide +kernel) rfl) ?_
    refine gm_r_void (pc := 55) (by decide +kernel) (by decide +kernel) (hq _ (fr_p (fr_t fr_0 hf (by decide)) (Or.inr (by decide))) (fun y y0 y1 => ?_) uM_at)
    exact (uM_ne (by omega)).trans (hy y y0 (by omega))
  | succ u ih =>
    intro k M1 hk hf hy
    refine gm_sz (gm_p_load (pc := 10) (i := .iload_n 2) (sr := 0) (j := 2) (by decide +kernel) rfl rfl rfl) ?_
    refine gm_sz (gm_p_const (pc := 11) (i := .sipush 300) (v := gm_vi 300) (by decide +kernel) (by decide +kernel)) ?_
    refine fw_icf (cc := .ge) (pc := 14) (off := 36) (by decide +kernel) (by decide) ⟨by omega, by omega⟩ ⟨by decide, by decide⟩ (show ¬ 300 ≤ (k : Int) by omega) ?_
    refine gm_sz (gm_p_ldci (pc := 17) (i := .ldc_w 330) (ix := 330) (v := 1103515245) (by decide +kernel) (Or.inr rfl) (by decide +kernel)) ?_
    refine gm_sz (gm_p_load (pc := 20) (i := .iload_n 1) (sr := 0) (j := 1) (by decide +kernel) rfl rfl rfl) ?_
    refine gm_sz (gm_p_bin (pc := 21) (i := .imul) (f := fun x y => x * y) (by decide +kernel) rfl) ?_
    refine gm_sz (gm_p_const (pc := 22) (i := .sipush 12345) (v := gm_vi 12345) (by decide +kernel) (by decide +kernel)) ?_
    refine gm_sz (gm_p_bin (pc := 25) (i := .iadd) (f := fun x y => x + y) (by decide +kernel) rfl) ?_
    refine gm_sz (gm_p_stor (pc := 26) (i := .istore_n 1) (sr := 0) (j := 1) (by decide +kernel) rfl (show 2 ≤ _ from Nat.le_of_ble_eq_true rfl) rfl) ?_
    refine gm_sz (gm_p_load (pc := 27) (i := .aload_n 0) (sr := 2) (j := 0) (by decide +kernel) rfl rfl rfl) ?_
    refine gm_sz (fw_gr (pc := 28) (ix := 39) (ci := 11) (j := 24) (r := 234) (by decide +kernel) (e0k hE (k := 226) (c := 11) (by decide +kernel)) (by decide +kernel) (by decide +kernel) (e0r hE (k := 226) (j := 24) (r := 234) (by decide +kernel))) ?_
    refine gm_sz (gm_p_load (pc := 31) (i := .iload_n 2) (sr := 0) (j := 2) (by decide +kernel) rfl rfl rfl) ?_
    refine gm_sz (gm_p_load (pc := 32) (i := .iload_n 1) (sr := 0) (j := 1) (by decide +kernel) rfl rfl rfl) ?_
    refine gm_sz (gm_p_const (pc := 33) (i := .bipush 16) (v := gm_vi 16) (by decide +kernel) (by decide +kernel)) ?_
    refine gm_sz (gm_p_bin (pc := 35) (i := .ishr) (f := gm_shr) (by decide +kernel) rfl) ?_
    refine gm_sz (gm_p_const (pc := 36) (i := .sipush 32767) (v := gm_vi 32767) (by decide +kernel) (by decide +kernel)) ?_
    refine gm_sz (gm_p_bin (pc := 39) (i := .iand) (f := gm_and) (by decide +kernel) rfl) ?_
    have hb9 := and_b (x := gm_shr ((1103515245 * (hnum (N 13) k)) + 12345) 16)
    refine gm_sz (gm_p_const (pc := 40) (i := .bipush 10) (v := gm_vi 10) (by decide +kernel) (by decide +kernel)) ?_
    refine gm_sz (gm_p_rem (pc := 42) (by decide +kernel) (by decide)) ?_
    rw [fw_rem (a := gm_and (gm_shr ((1103515245 * (hnum (N 13) k)) + 12345) 16) 32767) (b := 10) (by omega) (by omega) (by decide)]
    refine gm_sz (fw_is (pc := 43) (k := 234) (len := 300) (e0 := (k : Int)) (x := (gm_and (gm_shr ((1103515245 * (hnum (N 13) k)) + 12345) 16) 32767) % 10) (M' := gm_uM M1 234 (k : Int) ((gm_and (gm_shr ((1103515245 * (hnum (N 13) k)) + 12345) 16) 32767) % 10)) (by decide +kernel) (e0a hE (k := 234) (q := ((0 : Nat), (300 : Nat))) (by decide +kernel)).1 (e0a hE (k := 234) (q := ((0 : Nat), (300 : Nat))) (by decide +kernel)).2 (by decide) ⟨by omega, by omega⟩ rfl) ?_
    refine gm_sz (gm_p_iinc (pc := 44) (j := 2) (z := 1) (by decide +kernel) rfl) ?_
    refine gm_sz (gm_p_goto (pc := 47) (off := (-37)) (by decide +kernel) (by decide)) ?_
    refine ih (k + 1) _ (by omega) (fr_p (fr_t fr_0 hf (by decide)) (Or.inl (by decide))) (fun y y0 y1 => ?_)
    by_cases e : y = (k : Int)
    · subst e
      rw [uM_at]
      unfold hts
      rw [show ((k : Int)).toNat = k from Int.toNat_natCast k]
      rfl
    · exact (uM_ne (fun hh => e hh.2)).trans (hy y y0 (by omega))
theorem wa_c235 (hE : E0 n K R) (hw : ws (M 227) = N) (hq : ∀ M2, fr [((234 : Nat), none), ((226 : Nat), some (26 : Int))] M M2 → (∀ y, 0 ≤ y → y < 300 → M2 234 y = hts (N 13) y) → M2 226 26 = -1 → Q (.inl none) n K R M2) : gm_Wp X LX d bc bs 235 0 (gm_ent 235 [gm_vr 226]) [] n K R M Q := by
  refine gm_sz (gm_p_load (pc := 0) (i := .aload_n 0) (sr := 2) (j := 0) (by decide +kernel) rfl rfl rfl) ?_
  refine gm_sz (fw_gr (pc := 1) (ix := 13) (ci := 11) (j := 1) (r := 227) (by decide +kernel) (e0k hE (k := 226) (c := 11) (by decide +kernel)) (by decide +kernel) (by decide +kernel) (e0r hE (k := 226) (j := 1) (r := 227) (by decide +kernel))) ?_
  refine gm_sz (gm_p_const (pc := 4) (i := .bipush 13) (v := gm_vi 13) (by decide +kernel) (by decide +kernel)) ?_
  refine gm_sz (fw_ia (pc := 6) (k := 227) (len := 2093) (e0 := 13) (x := N 13) (by decide +kernel) (e0a hE (k := 227) (q := ((0 : Nat), (2093 : Nat))) (by decide +kernel)).1 (e0a hE (k := 227) (q := ((0 : Nat), (2093 : Nat))) (by decide +kernel)).2 (by decide) ⟨by omega, by omega⟩ (rs_w hw (by decide) (by decide) (by decide))) ?_
  refine gm_sz (gm_p_stor (pc := 7) (i := .istore_n 1) (sr := 0) (j := 1) (by decide +kernel) rfl (show 2 ≤ _ from Nat.le_of_ble_eq_true rfl) rfl) ?_
  refine gm_sz (gm_p_const (pc := 8) (i := .iconst 0) (v := gm_vi 0) (by decide +kernel) (by decide +kernel)) ?_
  refine gm_sz (gm_p_stor (pc := 9) (i := .istore_n 2) (sr := 0) (j := 2) (by decide +kernel) rfl (show 3 ≤ _ from Nat.le_of_ble_eq_true rfl) rfl) ?_
  exact wa_l hE hq 300 0 M rfl fr_0 (fun y y0 y1 => absurd y1 (by omega))
/-- a row copied as far as k -/
noncomputable def cpk (M : gm_M) (s d : Nat) (so do_ k : Int) : gm_M := fun c j => if c = d ∧ do_ ≤ j ∧ j < do_ + k then M s (so + (j - do_)) else M c j
theorem cpk_0 {s d : Nat} {so do_ : Int} : cpk M s d so do_ 0 = M := by
  funext c j
  unfold cpk
  rw [if_neg (fun h => by omega)]
theorem cpk_s {s d : Nat} {so do_ k e v : Int} (hk : 0 ≤ k) (he : e = do_ + k) (hv : v = M s (so + k)) : gm_uM (cpk M s d so do_ k) d e v = cpk M s d so do_ (k + 1) := by
  subst he hv
  funext c j
  unfold gm_uM cpk
  by_cases h1 : c = d ∧ j = do_ + k
  · obtain ⟨rfl, rfl⟩ := h1
    rw [if_pos ⟨rfl, rfl⟩, if_pos ⟨rfl, by omega, by omega⟩, show so + (do_ + k - do_) = so + k by omega]
  · rw [if_neg h1]
    by_cases h2 : c = d ∧ do_ ≤ j ∧ j < do_ + k
    · rw [if_pos h2, if_pos ⟨h2.1, h2.2.1, by omega⟩]
    · rw [if_neg h2, if_neg (fun h3 => h2 ⟨h3.1, h3.2.1, by have := h3.2.2; by_cases e : j = do_ + k; exact absurd ⟨h3.1, e⟩ h1; omega⟩)]
theorem cpk_o {s d c : Nat} {so do_ k j : Int} (h : ¬ (c = d ∧ do_ ≤ j ∧ j < do_ + k)) : cpk M s d so do_ k c j = M c j := if_neg h
theorem cpk_i {s d : Nat} {so do_ k j : Int} (h0 : do_ ≤ j) (h1 : j < do_ + k) : cpk M s d so do_ k d j = M s (so + (j - do_)) := if_pos ⟨rfl, h0, h1⟩
theorem cpk_fr {s d : Nat} {so do_ k : Int} : fr [(d, none)] M (cpk M s d so do_ k) := fun c j h1 _ => cpk_o (fun h => h1 (by rw [h.1]; exact List.mem_cons_self))
theorem cp_236 (hE : E0 n K R) (hq : gm_Wp X LX d bc bs 236 32 [some (gm_vr 226), some (gm_vi 1244)] [] n K R (cpk M 227 228 0 0 1244) Q) : ∀ (u : Nat) (k : Int), k + (u : Int) = 1244 → 0 ≤ k → gm_Wp X LX d bc bs 236 7 [some (gm_vr 226), some (gm_vi k)] [] n K R (cpk M 227 228 0 0 k) Q := by
  intro u
  induction u with
  | zero =>
    intro k hk k0
    have ek : k = 1244 := by omega
    subst ek
    refine gm_sz (gm_p_load (pc := 7) (i := .iload_n 1) (sr := 0) (j := 1) (by decide +kernel) rfl rfl rfl) ?_
    refine gm_sz (gm_p_const (pc := 8) (i := .sipush 1244) (v := gm_vi 1244) (by decide +kernel) (by decide +kernel)) ?_
    refine fw_ictd (cc := .ge) (pc := 11) (off := 21) (by decide +kernel) (by decide) ⟨by decide, by decide⟩ ⟨by decide, by decide⟩ (by decide) ?_
    exact hq
  | succ u ih =>
    intro k hk k0
    refine gm_sz (gm_p_load (pc := 7) (i := .iload_n 1) (sr := 0) (j := 1) (by decide +kernel) rfl rfl rfl) ?_
    refine gm_sz (gm_p_const (pc := 8) (i := .sipush 1244) (v := gm_vi 1244) (by decide +kernel) (by decide +kernel)) ?_
    refine fw_icf (cc := .ge) (pc := 11) (off := 21) (by decide +kernel) (by decide) ⟨by omega, by omega⟩ ⟨by decide, by decide⟩ (show ¬ 1244 ≤ k by omega) ?_
    refine gm_sz (gm_p_load (pc := 14) (i := .aload_n 0) (sr := 2) (j := 0) (by decide +kernel) rfl rfl rfl) ?_
    refine gm_sz (fw_gr (pc := 15) (ix := 17) (ci := 11) (j := 2) (r := 228) (by decide +kernel) (e0k hE (k := 226) (c := 11) (by decide +kernel)) (by decide +kernel) (by decide +kernel) (e0r hE (k := 226) (j := 2) (r := 228) (by decide +kernel))) ?_
    refine gm_sz (gm_p_load (pc := 18) (i := .iload_n 1) (sr := 0) (j := 1) (by decide +kernel) rfl rfl rfl) ?_
    refine gm_sz (gm_p_load (pc := 19) (i := .aload_n 0) (sr := 2) (j := 0) (by decide +kernel) rfl rfl rfl) ?_
    refine gm_sz (fw_gr (pc := 20) (ix := 13) (ci := 11) (j := 1) (r := 227) (by decide +kernel) (e0k hE (k := 226) (c := 11) (by decide +kernel)) (by decide +kernel) (by decide +kernel) (e0r hE (k := 226) (j := 1) (r := 227) (by decide +kernel))) ?_
    refine gm_sz (gm_p_load (pc := 23) (i := .iload_n 1) (sr := 0) (j := 1) (by decide +kernel) rfl rfl rfl) ?_
    refine gm_sz (fw_ia (pc := 24) (k := 227) (len := 2093) (e0 := k) (x := M 227 k) (by decide +kernel) (e0a hE (k := 227) (q := ((0 : Nat), (2093 : Nat))) (by decide +kernel)).1 (e0a hE (k := 227) (q := ((0 : Nat), (2093 : Nat))) (by decide +kernel)).2 (by decide) ⟨by omega, by omega⟩ (cpk_o (by omega))) ?_
    refine gm_sz (fw_is (pc := 25) (k := 228) (len := 1244) (e0 := k) (x := M 227 k) (M' := cpk M 227 228 0 0 (k + 1)) (by decide +kernel) (e0a hE (k := 228) (q := ((0 : Nat), (1244 : Nat))) (by decide +kernel)).1 (e0a hE (k := 228) (q := ((0 : Nat), (1244 : Nat))) (by decide +kernel)).2 (by decide) ⟨by omega, by omega⟩ (cpk_s k0 (by omega) (congrArg (M 227) (by omega)))) ?_
    refine gm_sz (gm_p_iinc (pc := 26) (j := 1) (z := 1) (by decide +kernel) rfl) ?_
    refine gm_sz (gm_p_goto (pc := 29) (off := (-22)) (by decide +kernel) (by decide)) ?_
    exact ih (k + 1) (by omega) (by omega)
theorem cp_236z (hE : E0 n K R) (hq : gm_Wp X LX d bc bs 236 32 [some (gm_vr 226), some (gm_vi 1244)] [] n K R (cpk M 227 228 0 0 1244) Q) : gm_Wp X LX d bc bs 236 7 [some (gm_vr 226), some (gm_vi 0)] [] n K R M Q := by
  have h9 := cp_236 hE  hq 1244 0 (by omega) (Int.le_refl _)
  rw [cpk_0] at h9
  exact h9
theorem cp_237 (hE : E0 n K R) (hq : gm_Wp X LX d bc bs 237 41 [some (gm_vr 226), some (gm_vi 1244)] [] n K R (cpk M 228 227 0 0 1244) Q) : ∀ (u : Nat) (k : Int), k + (u : Int) = 1244 → 0 ≤ k → gm_Wp X LX d bc bs 237 16 [some (gm_vr 226), some (gm_vi k)] [] n K R (cpk M 228 227 0 0 k) Q := by
  intro u
  induction u with
  | zero =>
    intro k hk k0
    have ek : k = 1244 := by omega
    subst ek
    refine gm_sz (gm_p_load (pc := 16) (i := .iload_n 1) (sr := 0) (j := 1) (by decide +kernel) rfl rfl rfl) ?_
    refine gm_sz (gm_p_const (pc := 17) (i := .sipush 1244) (v := gm_vi 1244) (by decide +kernel) (by decide +kernel)) ?_
    refine fw_ictd (cc := .ge) (pc := 20) (off := 21) (by decide +kernel) (by decide) ⟨by decide, by decide⟩ ⟨by decide, by decide⟩ (by decide) ?_
    exact hq
  | succ u ih =>
    intro k hk k0
    refine gm_sz (gm_p_load (pc := 16) (i := .iload_n 1) (sr := 0) (j := 1) (by decide +kernel) rfl rfl rfl) ?_
    refine gm_sz (gm_p_const (pc := 17) (i := .sipush 1244) (v := gm_vi 1244) (by decide +kernel) (by decide +kernel)) ?_
    refine fw_icf (cc := .ge) (pc := 20) (off := 21) (by decide +kernel) (by decide) ⟨by omega, by omega⟩ ⟨by decide, by decide⟩ (show ¬ 1244 ≤ k by omega) ?_
    refine gm_sz (gm_p_load (pc := 23) (i := .aload_n 0) (sr := 2) (j := 0) (by decide +kernel) rfl rfl rfl) ?_
    refine gm_sz (fw_gr (pc := 24) (ix := 13) (ci := 11) (j := 1) (r := 227) (by decide +kernel) (e0k hE (k := 226) (c := 11) (by decide +kernel)) (by decide +kernel) (by decide +kernel) (e0r hE (k := 226) (j := 1) (r := 227) (by decide +kernel))) ?_
    refine gm_sz (gm_p_load (pc := 27) (i := .iload_n 1) (sr := 0) (j := 1) (by decide +kernel) rfl rfl rfl) ?_
    refine gm_sz (gm_p_load (pc := 28) (i := .aload_n 0) (sr := 2) (j := 0) (by decide +kernel) rfl rfl rfl) ?_
    refine gm_sz (fw_gr (pc := 29) (ix := 17) (ci := 11) (j := 2) (r := 228) (by decide +kernel) (e0k hE (k := 226) (c := 11) (by decide +kernel)) (by decide +kernel) (by decide +kernel) (e0r hE (k := 226) (j := 2) (r := 228) (by decide +kernel))) ?_
    refine gm_sz (gm_p_load (pc := 32) (i := .iload_n 1) (sr := 0) (j := 1) (by decide +kernel) rfl rfl rfl) ?_
    refine gm_sz (fw_ia (pc := 33) (k := 228) (len := 1244) (e0 := k) (x := M 228 k) (by decide +kernel) (e0a hE (k := 228) (q := ((0 : Nat), (1244 : Nat))) (by decide +kernel)).1 (e0a hE (k := 228) (q := ((0 : Nat), (1244 : Nat))) (by decide +kernel)).2 (by decide) ⟨by omega, by omega⟩ (cpk_o (by omega))) ?_
    refine gm_sz (fw_is (pc := 34) (k := 227) (len := 2093) (e0 := k) (x := M 228 k) (M' := cpk M 228 227 0 0 (k + 1)) (by decide +kernel) (e0a hE (k := 227) (q := ((0 : Nat), (2093 : Nat))) (by decide +kernel)).1 (e0a hE (k := 227) (q := ((0 : Nat), (2093 : Nat))) (by decide +kernel)).2 (by decide) ⟨by omega, by omega⟩ (cpk_s k0 (by omega) (congrArg (M 228) (by omega)))) ?_
    refine gm_sz (gm_p_iinc (pc := 35) (j := 1) (z := 1) (by decide +kernel) rfl) ?_
    refine gm_sz (gm_p_goto (pc := 38) (off := (-22)) (by decide +kernel) (by decide)) ?_
    exact ih (k + 1) (by omega) (by omega)
theorem cp_237z (hE : E0 n K R) (hq : gm_Wp X LX d bc bs 237 41 [some (gm_vr 226), some (gm_vi 1244)] [] n K R (cpk M 228 227 0 0 1244) Q) : gm_Wp X LX d bc bs 237 16 [some (gm_vr 226), some (gm_vi 0)] [] n K R M Q := by
  have h9 := cp_237 hE  hq 1244 0 (by omega) (Int.le_refl _)
  rw [cpk_0] at h9
  exact h9
theorem cp_316a (hE : E0 n K R) (hq : gm_Wp X LX d bc bs 316 40 [some (gm_vr 226), some (gm_vi 4345)] [] n K R (cpk M 230 230 395 0 4345) Q) : ∀ (u : Nat) (k : Int), k + (u : Int) = 4345 → 0 ≤ k → gm_Wp X LX d bc bs 316 11 [some (gm_vr 226), some (gm_vi k)] [] n K R (cpk M 230 230 395 0 k) Q := by
  intro u
  induction u with
  | zero =>
    intro k hk k0
    have ek : k = 4345 := by omega
    subst ek
    refine gm_sz (gm_p_load (pc := 11) (i := .iload_n 1) (sr := 0) (j := 1) (by decide +kernel) rfl rfl rfl) ?_
    refine gm_sz (gm_p_const (pc := 12) (i := .sipush 4345) (v := gm_vi 4345) (by decide +kernel) (by decide +kernel)) ?_
    refine fw_ictd (cc := .ge) (pc := 15) (off := 25) (by decide +kernel) (by decide) ⟨by decide, by decide⟩ ⟨by decide, by decide⟩ (by decide) ?_
    exact hq
  | succ u ih =>
    intro k hk k0
    refine gm_sz (gm_p_load (pc := 11) (i := .iload_n 1) (sr := 0) (j := 1) (by decide +kernel) rfl rfl rfl) ?_
    refine gm_sz (gm_p_const (pc := 12) (i := .sipush 4345) (v := gm_vi 4345) (by decide +kernel) (by decide +kernel)) ?_
    refine fw_icf (cc := .ge) (pc := 15) (off := 25) (by decide +kernel) (by decide) ⟨by omega, by omega⟩ ⟨by decide, by decide⟩ (show ¬ 4345 ≤ k by omega) ?_
    refine gm_sz (gm_p_load (pc := 18) (i := .aload_n 0) (sr := 2) (j := 0) (by decide +kernel) rfl rfl rfl) ?_
    refine gm_sz (fw_gr (pc := 19) (ix := 23) (ci := 11) (j := 4) (r := 230) (by decide +kernel) (e0k hE (k := 226) (c := 11) (by decide +kernel)) (by decide +kernel) (by decide +kernel) (e0r hE (k := 226) (j := 4) (r := 230) (by decide +kernel))) ?_
    refine gm_sz (gm_p_load (pc := 22) (i := .iload_n 1) (sr := 0) (j := 1) (by decide +kernel) rfl rfl rfl) ?_
    refine gm_sz (gm_p_load (pc := 23) (i := .aload_n 0) (sr := 2) (j := 0) (by decide +kernel) rfl rfl rfl) ?_
    refine gm_sz (fw_gr (pc := 24) (ix := 23) (ci := 11) (j := 4) (r := 230) (by decide +kernel) (e0k hE (k := 226) (c := 11) (by decide +kernel)) (by decide +kernel) (by decide +kernel) (e0r hE (k := 226) (j := 4) (r := 230) (by decide +kernel))) ?_
    refine gm_sz (gm_p_load (pc := 27) (i := .iload_n 1) (sr := 0) (j := 1) (by decide +kernel) rfl rfl rfl) ?_
    refine gm_sz (gm_p_const (pc := 28) (i := .sipush 395) (v := gm_vi 395) (by decide +kernel) (by decide +kernel)) ?_
    refine gm_sz (gm_p_bin (pc := 31) (i := .iadd) (f := fun x y => x + y) (by decide +kernel) rfl) ?_
    refine gm_sz (fw_ia (pc := 32) (k := 230) (len := 4740) (e0 := k + 395) (x := M 230 (k + 395)) (by decide +kernel) (e0a hE (k := 230) (q := ((0 : Nat), (4740 : Nat))) (by decide +kernel)).1 (e0a hE (k := 230) (q := ((0 : Nat), (4740 : Nat))) (by decide +kernel)).2 (by decide) ⟨by omega, by omega⟩ (cpk_o (by omega))) ?_
    refine gm_sz (fw_is (pc := 33) (k := 230) (len := 4740) (e0 := k) (x := M 230 (k + 395)) (M' := cpk M 230 230 395 0 (k + 1)) (by decide +kernel) (e0a hE (k := 230) (q := ((0 : Nat), (4740 : Nat))) (by decide +kernel)).1 (e0a hE (k := 230) (q := ((0 : Nat), (4740 : Nat))) (by decide +kernel)).2 (by decide) ⟨by omega, by omega⟩ (cpk_s k0 (by omega) (congrArg (M 230) (by omega)))) ?_
    refine gm_sz (gm_p_iinc (pc := 34) (j := 1) (z := 1) (by decide +kernel) rfl) ?_
    refine gm_sz (gm_p_goto (pc := 37) (off := (-26)) (by decide +kernel) (by decide)) ?_
    exact ih (k + 1) (by omega) (by omega)
theorem cp_316az (hE : E0 n K R) (hq : gm_Wp X LX d bc bs 316 40 [some (gm_vr 226), some (gm_vi 4345)] [] n K R (cpk M 230 230 395 0 4345) Q) : gm_Wp X LX d bc bs 316 11 [some (gm_vr 226), some (gm_vi 0)] [] n K R M Q := by
  have h9 := cp_316a hE  hq 4345 0 (by omega) (Int.le_refl _)
  rw [cpk_0] at h9
  exact h9
theorem cp_316b (hE : E0 n K R) (h6 : M 226 6 = c) (hc : 1 ≤ c ∧ c ≤ 12) (hq : gm_Wp X LX d bc bs 316 91 [some (gm_vr 226), some (gm_vi 395)] [] n K R (cpk M 227 230 0 (395 * (c - 1)) 395) Q) : ∀ (u : Nat) (k : Int), k + (u : Int) = 395 → 0 ≤ k → gm_Wp X LX d bc bs 316 55 [some (gm_vr 226), some (gm_vi k)] [] n K R (cpk M 227 230 0 (395 * (c - 1)) k) Q := by
  intro u
  induction u with
  | zero =>
    intro k hk k0
    have ek : k = 395 := by omega
    subst ek
    refine gm_sz (gm_p_load (pc := 55) (i := .iload_n 1) (sr := 0) (j := 1) (by decide +kernel) rfl rfl rfl) ?_
    refine gm_sz (gm_p_const (pc := 56) (i := .sipush 395) (v := gm_vi 395) (by decide +kernel) (by decide +kernel)) ?_
    refine fw_ictd (cc := .ge) (pc := 59) (off := 32) (by decide +kernel) (by decide) ⟨by decide, by decide⟩ ⟨by decide, by decide⟩ (by decide) ?_
    exact hq
  | succ u ih =>
    intro k hk k0
    refine gm_sz (gm_p_load (pc := 55) (i := .iload_n 1) (sr := 0) (j := 1) (by decide +kernel) rfl rfl rfl) ?_
    refine gm_sz (gm_p_const (pc := 56) (i := .sipush 395) (v := gm_vi 395) (by decide +kernel) (by decide +kernel)) ?_
    refine fw_icf (cc := .ge) (pc := 59) (off := 32) (by decide +kernel) (by decide) ⟨by omega, by omega⟩ ⟨by decide, by decide⟩ (show ¬ 395 ≤ k by omega) ?_
    refine gm_sz (gm_p_load (pc := 62) (i := .aload_n 0) (sr := 2) (j := 0) (by decide +kernel) rfl rfl rfl) ?_
    refine gm_sz (fw_gr (pc := 63) (ix := 23) (ci := 11) (j := 4) (r := 230) (by decide +kernel) (e0k hE (k := 226) (c := 11) (by decide +kernel)) (by decide +kernel) (by decide +kernel) (e0r hE (k := 226) (j := 4) (r := 230) (by decide +kernel))) ?_
    refine gm_sz (gm_p_const (pc := 66) (i := .sipush 395) (v := gm_vi 395) (by decide +kernel) (by decide +kernel)) ?_
    refine gm_sz (gm_p_load (pc := 69) (i := .aload_n 0) (sr := 2) (j := 0) (by decide +kernel) rfl rfl rfl) ?_
    refine gm_sz (fw_gi (pc := 70) (ix := 79) (ci := 11) (j := 6) (x := c) (by decide +kernel) (e0k hE (k := 226) (c := 11) (by decide +kernel)) (by decide +kernel) (by decide +kernel) ((cpk_o (by omega)).trans h6)) ?_
    refine gm_sz (gm_p_const (pc := 73) (i := .iconst 1) (v := gm_vi 1) (by decide +kernel) (by decide +kernel)) ?_
    refine gm_sz (gm_p_bin (pc := 74) (i := .isub) (f := fun x y => x - y) (by decide +kernel) rfl) ?_
    refine gm_sz (gm_p_bin (pc := 75) (i := .imul) (f := fun x y => x * y) (by decide +kernel) rfl) ?_
    refine gm_sz (gm_p_load (pc := 76) (i := .iload_n 1) (sr := 0) (j := 1) (by decide +kernel) rfl rfl rfl) ?_
    refine gm_sz (gm_p_bin (pc := 77) (i := .iadd) (f := fun x y => x + y) (by decide +kernel) rfl) ?_
    refine gm_sz (gm_p_load (pc := 78) (i := .aload_n 0) (sr := 2) (j := 0) (by decide +kernel) rfl rfl rfl) ?_
    refine gm_sz (fw_gr (pc := 79) (ix := 13) (ci := 11) (j := 1) (r := 227) (by decide +kernel) (e0k hE (k := 226) (c := 11) (by decide +kernel)) (by decide +kernel) (by decide +kernel) (e0r hE (k := 226) (j := 1) (r := 227) (by decide +kernel))) ?_
    refine gm_sz (gm_p_load (pc := 82) (i := .iload_n 1) (sr := 0) (j := 1) (by decide +kernel) rfl rfl rfl) ?_
    refine gm_sz (fw_ia (pc := 83) (k := 227) (len := 2093) (e0 := k) (x := M 227 k) (by decide +kernel) (e0a hE (k := 227) (q := ((0 : Nat), (2093 : Nat))) (by decide +kernel)).1 (e0a hE (k := 227) (q := ((0 : Nat), (2093 : Nat))) (by decide +kernel)).2 (by decide) ⟨by omega, by omega⟩ (cpk_o (by omega))) ?_
    refine gm_sz (fw_is (pc := 84) (k := 230) (len := 4740) (e0 := (395 * (c - 1)) + k) (x := M 227 k) (M' := cpk M 227 230 0 (395 * (c - 1)) (k + 1)) (by decide +kernel) (e0a hE (k := 230) (q := ((0 : Nat), (4740 : Nat))) (by decide +kernel)).1 (e0a hE (k := 230) (q := ((0 : Nat), (4740 : Nat))) (by decide +kernel)).2 (by decide) ⟨by omega, by omega⟩ (cpk_s k0 (by omega) (congrArg (M 227) (by omega)))) ?_
    refine gm_sz (gm_p_iinc (pc := 85) (j := 1) (z := 1) (by decide +kernel) rfl) ?_
    refine gm_sz (gm_p_goto (pc := 88) (off := (-33)) (by decide +kernel) (by decide)) ?_
    exact ih (k + 1) (by omega) (by omega)
theorem cp_316bz (hE : E0 n K R) (h6 : M 226 6 = c) (hc : 1 ≤ c ∧ c ≤ 12) (hq : gm_Wp X LX d bc bs 316 91 [some (gm_vr 226), some (gm_vi 395)] [] n K R (cpk M 227 230 0 (395 * (c - 1)) 395) Q) : gm_Wp X LX d bc bs 316 55 [some (gm_vr 226), some (gm_vi 0)] [] n K R M Q := by
  have h9 := cp_316b hE h6 hc hq 395 0 (by omega) (Int.le_refl _)
  rw [cpk_0] at h9
  exact h9
theorem cp_238 (hE : E0 n K R) (h6 : M 226 6 = c) (hc : 0 ≤ c ∧ c ≤ 11) (hq : gm_Wp X LX d bc bs 238 60 [some (gm_vr 226), some (gm_vi 395)] [] n K R (cpk M 230 227 (395 * c) 0 395) Q) : ∀ (u : Nat) (k : Int), k + (u : Int) = 395 → 0 ≤ k → gm_Wp X LX d bc bs 238 26 [some (gm_vr 226), some (gm_vi k)] [] n K R (cpk M 230 227 (395 * c) 0 k) Q := by
  intro u
  induction u with
  | zero =>
    intro k hk k0
    have ek : k = 395 := by omega
    subst ek
    refine gm_sz (gm_p_load (pc := 26) (i := .iload_n 1) (sr := 0) (j := 1) (by decide +kernel) rfl rfl rfl) ?_
    refine gm_sz (gm_p_const (pc := 27) (i := .sipush 395) (v := gm_vi 395) (by decide +kernel) (by decide +kernel)) ?_
    refine fw_ictd (cc := .ge) (pc := 30) (off := 30) (by decide +kernel) (by decide) ⟨by decide, by decide⟩ ⟨by decide, by decide⟩ (by decide) ?_
    exact hq
  | succ u ih =>
    intro k hk k0
    refine gm_sz (gm_p_load (pc := 26) (i := .iload_n 1) (sr := 0) (j := 1) (by decide +kernel) rfl rfl rfl) ?_
    refine gm_sz (gm_p_const (pc := 27) (i := .sipush 395) (v := gm_vi 395) (by decide +kernel) (by decide +kernel)) ?_
    refine fw_icf (cc := .ge) (pc := 30) (off := 30) (by decide +kernel) (by decide) ⟨by omega, by omega⟩ ⟨by decide, by decide⟩ (show ¬ 395 ≤ k by omega) ?_
    refine gm_sz (gm_p_load (pc := 33) (i := .aload_n 0) (sr := 2) (j := 0) (by decide +kernel) rfl rfl rfl) ?_
    refine gm_sz (fw_gr (pc := 34) (ix := 13) (ci := 11) (j := 1) (r := 227) (by decide +kernel) (e0k hE (k := 226) (c := 11) (by decide +kernel)) (by decide +kernel) (by decide +kernel) (e0r hE (k := 226) (j := 1) (r := 227) (by decide +kernel))) ?_
    refine gm_sz (gm_p_load (pc := 37) (i := .iload_n 1) (sr := 0) (j := 1) (by decide +kernel) rfl rfl rfl) ?_
    refine gm_sz (gm_p_load (pc := 38) (i := .aload_n 0) (sr := 2) (j := 0) (by decide +kernel) rfl rfl rfl) ?_
    refine gm_sz (fw_gr (pc := 39) (ix := 23) (ci := 11) (j := 4) (r := 230) (by decide +kernel) (e0k hE (k := 226) (c := 11) (by decide +kernel)) (by decide +kernel) (by decide +kernel) (e0r hE (k := 226) (j := 4) (r := 230) (by decide +kernel))) ?_
    refine gm_sz (gm_p_const (pc := 42) (i := .sipush 395) (v := gm_vi 395) (by decide +kernel) (by decide +kernel)) ?_
    refine gm_sz (gm_p_load (pc := 45) (i := .aload_n 0) (sr := 2) (j := 0) (by decide +kernel) rfl rfl rfl) ?_
    refine gm_sz (fw_gi (pc := 46) (ix := 79) (ci := 11) (j := 6) (x := c) (by decide +kernel) (e0k hE (k := 226) (c := 11) (by decide +kernel)) (by decide +kernel) (by decide +kernel) ((cpk_o (by omega)).trans h6)) ?_
    refine gm_sz (gm_p_bin (pc := 49) (i := .imul) (f := fun x y => x * y) (by decide +kernel) rfl) ?_
    refine gm_sz (gm_p_load (pc := 50) (i := .iload_n 1) (sr := 0) (j := 1) (by decide +kernel) rfl rfl rfl) ?_
    refine gm_sz (gm_p_bin (pc := 51) (i := .iadd) (f := fun x y => x + y) (by decide +kernel) rfl) ?_
    refine gm_sz (fw_ia (pc := 52) (k := 230) (len := 4740) (e0 := (395 * c) + k) (x := M 230 ((395 * c) + k)) (by decide +kernel) (e0a hE (k := 230) (q := ((0 : Nat), (4740 : Nat))) (by decide +kernel)).1 (e0a hE (k := 230) (q := ((0 : Nat), (4740 : Nat))) (by decide +kernel)).2 (by decide) ⟨by omega, by omega⟩ (cpk_o (by omega))) ?_
    refine gm_sz (fw_is (pc := 53) (k := 227) (len := 2093) (e0 := k) (x := M 230 ((395 * c) + k)) (M' := cpk M 230 227 (395 * c) 0 (k + 1)) (by decide +kernel) (e0a hE (k := 227) (q := ((0 : Nat), (2093 : Nat))) (by decide +kernel)).1 (e0a hE (k := 227) (q := ((0 : Nat), (2093 : Nat))) (by decide +kernel)).2 (by decide) ⟨by omega, by omega⟩ (cpk_s k0 (by omega) (congrArg (M 230) (by omega)))) ?_
    refine gm_sz (gm_p_iinc (pc := 54) (j := 1) (z := 1) (by decide +kernel) rfl) ?_
    refine gm_sz (gm_p_goto (pc := 57) (off := (-31)) (by decide +kernel) (by decide)) ?_
    exact ih (k + 1) (by omega) (by omega)
theorem cp_238z (hE : E0 n K R) (h6 : M 226 6 = c) (hc : 0 ≤ c ∧ c ≤ 11) (hq : gm_Wp X LX d bc bs 238 60 [some (gm_vr 226), some (gm_vi 395)] [] n K R (cpk M 230 227 (395 * c) 0 395) Q) : gm_Wp X LX d bc bs 238 26 [some (gm_vr 226), some (gm_vi 0)] [] n K R M Q := by
  have h9 := cp_238 hE h6 hc hq 395 0 (by omega) (Int.le_refl _)
  rw [cpk_0] at h9
  exact h9
/-- what is remembered, the newest first -/
noncomputable def HISR (A : List (Int → Int)) (g8 : Int) (M : gm_M) : Prop := (M 226 6 = (A.length : Int) ∧ A.length ≤ 12) ∧ ∀ (i : Nat) (N1 : Int → Int), A[i]? = some N1 → ws (fun j => M 230 (395 * ((A.length : Int) - 1 - (i : Int)) + j)) = N1 ∧ M 230 (395 * ((A.length : Int) - 1 - (i : Int)) + 8) = g8
theorem ws_ext {W V : Int → Int} (h : ∀ j, 0 ≤ j → j < 395 → W j = V j) : ws W = ws V := by
  funext j
  unfold ws
  by_cases hj : 0 ≤ j ∧ j < 395 ∧ ¬ j = 8
  · rw [if_pos hj, if_pos hj, h j hj.1 hj.2.1]
  · rw [if_neg hj, if_neg hj]
theorem hisr_e {g8 : Int} {M2 : gm_M} (h : HISR A g8 M) (e6 : M2 226 6 = M 226 6) (e : ∀ j, M2 230 j = M 230 j) : HISR A g8 M2 := by
  refine ⟨by rw [e6]; exact h.1, fun i N1 hi => ?_⟩
  rw [show (fun j => M2 230 (395 * ((A.length : Int) - 1 - (i : Int)) + j)) = (fun j => M 230 (395 * ((A.length : Int) - 1 - (i : Int)) + j)) from funext fun j => e _, e]
  exact h.2 i N1 hi
theorem hisr_w {g8 : Int} {M2 : gm_M} {W : List (Nat × Option Int)} (h : HISR A g8 M) (hf : fr W M M2) (hw : W.all (fun w => !(w.1 == 230) && !(w.1 == 226 && (w.2 == none || w.2 == some 6))) = true) : HISR A g8 M2 := hisr_e h (hf 226 6 (fun hm => by have := List.all_eq_true.mp hw _ hm; simp at this) (fun hm => by have := List.all_eq_true.mp hw _ hm; simp at this)) (fun j => hf 230 j (fun hm => by have := List.all_eq_true.mp hw _ hm; simp at this) (fun hm => by have := List.all_eq_true.mp hw _ hm; simp at this))
theorem rm_c316 (hE : E0 n K R) (hw : ws (M 227) = N) (hH : HISR A (M 227 8) M) (hq : ∀ M2, fr [((226 : Nat), some (6 : Int)), ((230 : Nat), none)] M M2 → HISR ((N :: A).take 12) (M 227 8) M2 → Q (.inl none) n K R M2) : gm_Wp X LX d bc bs 316 0 (gm_ent 316 [gm_vr 226]) [] n K R M Q := by
  obtain ⟨⟨g6, h12⟩, hA⟩ := hH
  generalize hc : (A.length : Int) = c at g6
  have hc0 : 0 ≤ c ∧ c ≤ 12 := ⟨by omega, by omega⟩
  refine gm_sz (gm_p_load (pc := 0) (i := .aload_n 0) (sr := 2) (j := 0) (by decide +kernel) rfl rfl rfl) ?_
  refine gm_sz (fw_gi (pc := 1) (ix := 79) (ci := 11) (j := 6) (x := c) (by decide +kernel) (e0k hE (k := 226) (c := 11) (by decide +kernel)) (by decide +kernel) (by decide +kernel) g6) ?_
  refine gm_sz (gm_p_const (pc := 4) (i := .bipush 12) (v := gm_vi 12) (by decide +kernel) (by decide +kernel)) ?_
  refine fw_ic (cc := .ne) (pc := 6) (off := 37) (by decide +kernel) (by decide) ⟨by omega, by omega⟩ ⟨by decide, by decide⟩ (fun h6 => ?_) (fun h6 => ?_)
  · have h6 : ¬ c = 12 := h6
    refine gm_sz (gm_p_load (pc := 43) (i := .aload_n 0) (sr := 2) (j := 0) (by decide +kernel) rfl rfl rfl) ?_
    refine gm_sz (gm_p_dup (pc := 44) (by decide +kernel) fw_sr) ?_
    refine gm_sz (fw_gi (pc := 45) (ix := 79) (ci := 11) (j := 6) (x := c) (by decide +kernel) (e0k hE (k := 226) (c := 11) (by decide +kernel)) (by decide +kernel) (by decide +kernel) g6) ?_
    refine gm_sz (gm_p_const (pc := 48) (i := .iconst 1) (v := gm_vi 1) (by decide +kernel) (by decide +kernel)) ?_
    refine gm_sz (gm_p_bin (pc := 49) (i := .iadd) (f := fun x y => x + y) (by decide +kernel) rfl) ?_
    refine gm_sz (fw_pi (pc := 50) (ix := 79) (ci := 11) (j := 6) (M' := gm_uM M 226 6 (c + 1)) (by decide +kernel) (e0k hE (k := 226) (c := 11) (by decide +kernel)) (by decide +kernel) (by decide +kernel) (by decide +kernel) rfl) ?_
    refine gm_sz (gm_p_const (pc := 53) (i := .iconst 0) (v := gm_vi 0) (by decide +kernel) (by decide +kernel)) ?_
    refine gm_sz (gm_p_stor (pc := 54) (i := .istore_n 1) (sr := 0) (j := 1) (by decide +kernel) rfl (show 2 ≤ _ from Nat.le_of_ble_eq_true rfl) rfl) ?_
    have e12 : c < 12 := by omega
    refine cp_316bz (M := gm_uM M 226 6 (c + 1)) (Q := Q) (c := c + 1) hE uM_at ⟨by omega, by omega⟩ ?_
    refine gm_r_void (pc := 91) (by decide +kernel) (by decide +kernel) (hq _ (fr_t (fr_p fr_0 (Or.inr (by decide))) cpk_fr (by decide)) ⟨⟨?_, ?_⟩, fun i N1 hi => ?_⟩)
    · rw [List.length_take, List.length_cons]
      exact (cpk_o (by omega)).trans (uM_at.trans (by omega))
    · rw [List.length_take, List.length_cons]
      omega
    · rw [List.getElem?_take] at hi
      split at hi
      · rename_i hi2
        have el : (((N :: A).take 12).length : Int) = c + 1 := by rw [List.length_take, List.length_cons]; omega
        rw [el]
        cases i with
        | zero =>
          have e : N = N1 := by simpa using hi
          subst e
          constructor
          · rw [← hw]
            refine ws_ext (fun j j0 j1 => ?_)
            refine (cpk_i (by omega) (by omega)).trans ((uM_ne (by omega)).trans (congrArg (M 227) (by omega)))
          · exact (cpk_i (by omega) (by omega)).trans ((uM_ne (by omega)).trans (congrArg (M 227) (by omega)))
        | succ i =>
          have hi : A[i]? = some N1 := by simpa using hi
          obtain ⟨a1, a2⟩ := hA i N1 hi
          have hi9 : i < A.length := (List.getElem?_eq_some_iff.mp hi).1
          constructor
          · rw [← a1]
            refine ws_ext (fun j j0 j1 => ?_)
            exact (cpk_o (by omega)).trans ((uM_ne (by omega)).trans (congrArg (M 230) (by omega)))
          · rw [← a2]
            exact (cpk_o (by omega)).trans ((uM_ne (by omega)).trans (congrArg (M 230) (by omega)))
      · cases hi
  · have h6 : c = 12 := Classical.not_not.mp h6
    refine gm_sz (gm_p_const (pc := 9) (i := .iconst 0) (v := gm_vi 0) (by decide +kernel) (by decide +kernel)) ?_
    refine gm_sz (gm_p_stor (pc := 10) (i := .istore_n 1) (sr := 0) (j := 1) (by decide +kernel) rfl (show 2 ≤ _ from Nat.le_of_ble_eq_true rfl) rfl) ?_
    have e12 : c = 12 := by omega
    refine cp_316az (M := M) (Q := Q) hE ?_
    refine gm_sz (gm_p_goto (pc := 40) (off := 13) (by decide +kernel) (by decide)) ?_
    refine gm_sz (gm_p_const (pc := 53) (i := .iconst 0) (v := gm_vi 0) (by decide +kernel) (by decide +kernel)) ?_
    refine gm_sz (gm_p_stor (pc := 54) (i := .istore_n 1) (sr := 0) (j := 1) (by decide +kernel) rfl (show 2 ≤ _ from Nat.le_of_ble_eq_true rfl) rfl) ?_
    refine cp_316bz (M := cpk M 230 230 395 0 4345) (Q := Q) (c := 12) hE ((cpk_o (by omega)).trans (g6.trans e12)) ⟨by decide, by decide⟩ ?_
    refine gm_r_void (pc := 91) (by decide +kernel) (by decide +kernel) (hq _ (fr_t (fr_t fr_0 cpk_fr (by decide)) cpk_fr (by decide)) ⟨⟨?_, ?_⟩, fun i N1 hi => ?_⟩)
    · rw [List.length_take, List.length_cons]
      exact (cpk_o (by omega)).trans ((cpk_o (by omega)).trans (by rw [g6]; omega))
    · rw [List.length_take, List.length_cons]
      omega
    · rw [List.getElem?_take] at hi
      split at hi
      · rename_i hi2
        have el : (((N :: A).take 12).length : Int) = 12 := by rw [List.length_take, List.length_cons]; omega
        rw [el]
        cases i with
        | zero =>
          have e : N = N1 := by simpa using hi
          subst e
          constructor
          · rw [← hw]
            refine ws_ext (fun j j0 j1 => ?_)
            refine (cpk_i (by omega) (by omega)).trans ((cpk_o (by omega)).trans (congrArg (M 227) (by omega)))
          · exact (cpk_i (by omega) (by omega)).trans ((cpk_o (by omega)).trans (congrArg (M 227) (by omega)))
        | succ i =>
          have hi : A[i]? = some N1 := by simpa using hi
          obtain ⟨a1, a2⟩ := hA i N1 hi
          constructor
          · rw [← a1]
            refine ws_ext (fun j j0 j1 => ?_)
            exact (cpk_o (by omega)).trans ((cpk_i (by omega) (by omega)).trans (congrArg (M 230) (by omega)))
          · rw [← a2]
            exact (cpk_o (by omega)).trans ((cpk_i (by omega) (by omega)).trans (congrArg (M 230) (by omega)))
      · cases hi
theorem ud_c238 (hE : E0 n K R) {g8 : Int} (hH : HISR A g8 M) (q0 : A = [] → Q (.inl (some (gm_vi 0))) n K R (gm_uM M 226 0 0)) (q1 : ∀ (N0 : Int → Int) (A1 : List (Int → Int)) (M2 : gm_M), A = N0 :: A1 → HISR A1 g8 M2 → ws (M2 227) = N0 → M2 227 8 = g8 → (∀ j, 395 ≤ j → M2 227 j = M 227 j) → M2 226 0 = 0 → fr [((226 : Nat), some (0 : Int)), ((226 : Nat), some (6 : Int)), ((227 : Nat), none)] M M2 → Q (.inl (some (gm_vi 1))) n K R M2) : gm_Wp X LX d bc bs 238 0 (gm_ent 238 [gm_vr 226]) [] n K R M Q := by
  obtain ⟨⟨g6, h12⟩, hA⟩ := hH
  generalize hc : (A.length : Int) = c at g6 hA
  have hc0 : 0 ≤ c ∧ c ≤ 12 := ⟨by omega, by omega⟩
  refine gm_sz (gm_p_load (pc := 0) (i := .aload_n 0) (sr := 2) (j := 0) (by decide +kernel) rfl rfl rfl) ?_
  refine gm_sz (gm_p_const (pc := 1) (i := .iconst 0) (v := gm_vi 0) (by decide +kernel) (by decide +kernel)) ?_
  refine gm_sz (fw_pi (pc := 2) (ix := 3) (ci := 11) (j := 0) (M' := gm_uM M 226 0 0) (by decide +kernel) (e0k hE (k := 226) (c := 11) (by decide +kernel)) (by decide +kernel) (by decide +kernel) (by decide +kernel) rfl) ?_
  refine gm_sz (gm_p_load (pc := 5) (i := .aload_n 0) (sr := 2) (j := 0) (by decide +kernel) rfl rfl rfl) ?_
  refine gm_sz (fw_gi (pc := 6) (ix := 79) (ci := 11) (j := 6) (x := c) (by decide +kernel) (e0k hE (k := 226) (c := 11) (by decide +kernel)) (by decide +kernel) (by decide +kernel) ((uM_ne (by omega)).trans g6)) ?_
  refine fw_if (cc := .ne) (pc := 9) (off := 5) (by decide +kernel) (by decide) ⟨by omega, by omega⟩ (fun h9 => ?_) (fun h9 => ?_)
  · have h9 : ¬ c = 0 := h9
    refine gm_sz (gm_p_load (pc := 14) (i := .aload_n 0) (sr := 2) (j := 0) (by decide +kernel) rfl rfl rfl) ?_
    refine gm_sz (gm_p_dup (pc := 15) (by decide +kernel) fw_sr) ?_
    refine gm_sz (fw_gi (pc := 16) (ix := 79) (ci := 11) (j := 6) (x := c) (by decide +kernel) (e0k hE (k := 226) (c := 11) (by decide +kernel)) (by decide +kernel) (by decide +kernel) ((uM_ne (by omega)).trans g6)) ?_
    refine gm_sz (gm_p_const (pc := 19) (i := .iconst 1) (v := gm_vi 1) (by decide +kernel) (by decide +kernel)) ?_
    refine gm_sz (gm_p_bin (pc := 20) (i := .isub) (f := fun x y => x - y) (by decide +kernel) rfl) ?_
    refine gm_sz (fw_pi (pc := 21) (ix := 79) (ci := 11) (j := 6) (M' := gm_uM (gm_uM M 226 0 0) 226 6 (c - 1)) (by decide +kernel) (e0k hE (k := 226) (c := 11) (by decide +kernel)) (by decide +kernel) (by decide +kernel) (by decide +kernel) rfl) ?_
    refine gm_sz (gm_p_const (pc := 24) (i := .iconst 0) (v := gm_vi 0) (by decide +kernel) (by decide +kernel)) ?_
    refine gm_sz (gm_p_stor (pc := 25) (i := .istore_n 1) (sr := 0) (j := 1) (by decide +kernel) rfl (show 2 ≤ _ from Nat.le_of_ble_eq_true rfl) rfl) ?_
    cases A with
    | nil => exact absurd hc (by show ¬ ((0 : Nat) : Int) = c; omega)
    | cons N0 A1 =>
      rw [List.length_cons] at hc h12
      obtain ⟨a1, a2⟩ := hA 0 N0 rfl
      refine cp_238z (M := gm_uM (gm_uM M 226 0 0) 226 6 (c - 1)) (Q := Q) (c := c - 1) hE uM_at ⟨by omega, by omega⟩ ?_
      refine gm_sz (gm_p_const (pc := 60) (i := .iconst 1) (v := gm_vi 1) (by decide +kernel) (by decide +kernel)) ?_
      refine gm_r_int (pc := 61) (by decide +kernel) (Or.inr ⟨(by decide +kernel), Or.inr rfl⟩) (q1 N0 A1 _ rfl ⟨⟨?_, by omega⟩, fun i N1 hi => ?_⟩ ?_ ?_ (fun j hj => ?_) ?_ (fr_t (fr_p (fr_p fr_0 (Or.inr (by decide))) (Or.inr (by decide))) cpk_fr (by decide)))
      · exact (cpk_o (by omega)).trans (uM_at.trans (by omega))
      · obtain ⟨b1, b2⟩ := hA (i + 1) N1 (by simpa using hi)
        have e9 : ∀ j, cpk (gm_uM (gm_uM M 226 0 0) 226 6 (c - 1)) 230 227 (395 * (c - 1)) 0 395 230 (395 * ((A1.length : Int) - 1 - (i : Int)) + j) = M 230 (395 * (c - 1 - ((i + 1 : Nat) : Int)) + j) := fun j => (cpk_o (by omega)).trans ((uM_ne (by omega)).trans ((uM_ne (by omega)).trans (congrArg (M 230) (by omega))))
        rw [← b1, ← b2, e9 8]
        exact ⟨ws_ext fun j _ _ => e9 j, rfl⟩
      · rw [← a1]
        refine ws_ext (fun j j0 j1 => (cpk_i (by omega) (by omega)).trans ((uM_ne (by omega)).trans ((uM_ne (by omega)).trans (congrArg (M 230) (by omega)))))
      · rw [← a2]
        exact (cpk_i (by omega) (by omega)).trans ((uM_ne (by omega)).trans ((uM_ne (by omega)).trans (congrArg (M 230) (by omega))))
      · exact (cpk_o (by omega)).trans ((uM_ne (by omega)).trans (uM_ne (by omega)))
      · exact (cpk_o (by omega)).trans ((uM_ne (by omega)).trans uM_at)
  · have h9 : c = 0 := Classical.not_not.mp h9
    refine gm_sz (gm_p_const (pc := 12) (i := .iconst 0) (v := gm_vi 0) (by decide +kernel) (by decide +kernel)) ?_
    exact gm_r_int (pc := 13) (by decide +kernel) (Or.inr ⟨(by decide +kernel), Or.inl rfl⟩) (q0 (List.eq_nil_of_length_eq_zero (by omega)))
theorem ig_c236 (hE : E0 n K R) (hq : ∀ M2, fr [((226 : Nat), some (0 : Int)), ((226 : Nat), some (5 : Int)), ((228 : Nat), none)] M M2 → (∀ j, 0 ≤ j → j < 1244 → M2 228 j = M 227 j) → M2 226 5 = 1 → M2 226 0 = 0 → Q (.inl none) n K R M2) : gm_Wp X LX d bc bs 236 0 (gm_ent 236 [gm_vr 226]) [] n K R M Q := by
  refine gm_sz (gm_p_load (pc := 0) (i := .aload_n 0) (sr := 2) (j := 0) (by decide +kernel) rfl rfl rfl) ?_
  refine gm_sz (gm_p_const (pc := 1) (i := .iconst 0) (v := gm_vi 0) (by decide +kernel) (by decide +kernel)) ?_
  refine gm_sz (fw_pi (pc := 2) (ix := 3) (ci := 11) (j := 0) (M' := gm_uM M 226 0 0) (by decide +kernel) (e0k hE (k := 226) (c := 11) (by decide +kernel)) (by decide +kernel) (by decide +kernel) (by decide +kernel) rfl) ?_
  refine gm_sz (gm_p_const (pc := 5) (i := .iconst 0) (v := gm_vi 0) (by decide +kernel) (by decide +kernel)) ?_
  refine gm_sz (gm_p_stor (pc := 6) (i := .istore_n 1) (sr := 0) (j := 1) (by decide +kernel) rfl (show 2 ≤ _ from Nat.le_of_ble_eq_true rfl) rfl) ?_
  refine cp_236z (M := gm_uM M 226 0 0) (Q := Q) hE ?_
  refine gm_sz (gm_p_load (pc := 32) (i := .aload_n 0) (sr := 2) (j := 0) (by decide +kernel) rfl rfl rfl) ?_
  refine gm_sz (gm_p_const (pc := 33) (i := .iconst 1) (v := gm_vi 1) (by decide +kernel) (by decide +kernel)) ?_
  refine gm_sz (fw_pz (pc := 34) (ix := 75) (ci := 11) (j := 5) (M' := gm_uM (cpk (gm_uM M 226 0 0) 227 228 0 0 1244) 226 5 1) (by decide +kernel) (e0k hE (k := 226) (c := 11) (by decide +kernel)) (by decide +kernel) (by decide +kernel) (by decide +kernel) (Or.inr rfl) rfl) ?_
  refine gm_r_void (pc := 37) (by decide +kernel) (by decide +kernel) (hq _ (fr_p (fr_t (fr_p fr_0 (Or.inr (by decide))) cpk_fr (by decide)) (Or.inr (by decide))) (fun j j0 j1 => ?_) uM_at ?_)
  · exact (uM_ne (by omega)).trans ((cpk_i (by omega) (by omega)).trans ((uM_ne (by omega)).trans (congrArg (M 227) (by omega))))
  · exact (uM_ne (by omega)).trans ((cpk_o (by omega)).trans uM_at)
theorem bk_c237 (hd : 1 ≤ d) (hE : E0 n K R) (hb : M 226 5 = 0 ∨ M 226 5 = 1) {NI : Int → Int} (hi : M 226 5 = 1 → ws (M 228) = NI) (q0 : M 226 5 = 0 → Q (.inl (some (gm_vi 0))) n K R (gm_uM M 226 0 0)) (q1 : M 226 5 = 1 → ∀ M2 : gm_M, fr [((226 : Nat), some (0 : Int)), ((226 : Nat), some (6 : Int)), ((226 : Nat), some (26 : Int)), ((227 : Nat), none), ((234 : Nat), none)] M M2 → TR NI (hts (NI 13)) M2 → (∀ j, (395 ≤ j ∨ j = 8) → j < 1244 → M2 227 j = M 228 j) → (∀ j, 1244 ≤ j → M2 227 j = M 227 j) → M2 226 26 = -1 → M2 226 6 = 0 → M2 226 0 = 0 → Q (.inl (some (gm_vi 1))) n K R M2) : gm_Wp X LX d bc bs 237 0 (gm_ent 237 [gm_vr 226]) [] n K R M Q := by
  refine gm_sz (gm_p_load (pc := 0) (i := .aload_n 0) (sr := 2) (j := 0) (by decide +kernel) rfl rfl rfl) ?_
  refine gm_sz (gm_p_const (pc := 1) (i := .iconst 0) (v := gm_vi 0) (by decide +kernel) (by decide +kernel)) ?_
  refine gm_sz (fw_pi (pc := 2) (ix := 3) (ci := 11) (j := 0) (M' := gm_uM M 226 0 0) (by decide +kernel) (e0k hE (k := 226) (c := 11) (by decide +kernel)) (by decide +kernel) (by decide +kernel) (by decide +kernel) rfl) ?_
  refine gm_sz (gm_p_load (pc := 5) (i := .aload_n 0) (sr := 2) (j := 0) (by decide +kernel) rfl rfl rfl) ?_
  refine gm_sz (fw_gi (pc := 6) (ix := 75) (ci := 11) (j := 5) (x := M 226 5) (by decide +kernel) (e0k hE (k := 226) (c := 11) (by decide +kernel)) (by decide +kernel) (by decide +kernel) ((uM_ne (by omega)).trans rfl)) ?_
  refine fw_if (cc := .ne) (pc := 9) (off := 5) (by decide +kernel) (by decide) (by rcases hb with h | h <;> rw [h] <;> exact ⟨by decide, by decide⟩) (fun h9 => ?_) (fun h9 => ?_)
  · have h9 : ¬ (M 226 5) = 0 := h9
    refine gm_sz (gm_p_const (pc := 14) (i := .iconst 0) (v := gm_vi 0) (by decide +kernel) (by decide +kernel)) ?_
    refine gm_sz (gm_p_stor (pc := 15) (i := .istore_n 1) (sr := 0) (j := 1) (by decide +kernel) rfl (show 2 ≤ _ from Nat.le_of_ble_eq_true rfl) rfl) ?_
    have h1 : M 226 5 = 1 := by omega
    refine cp_237z (M := gm_uM M 226 0 0) (Q := Q) hE ?_
    have hw9 : ws (gm_uM (cpk (gm_uM M 226 0 0) 228 227 0 0 1244) 226 6 0 227) = NI := by
      rw [← hi h1]
      exact ws_ext fun j j0 j1 => (uM_ne (by omega)).trans ((cpk_i (by omega) (by omega)).trans ((uM_ne (by omega)).trans (congrArg (M 228) (by omega))))
    refine gm_sz (gm_p_load (pc := 41) (i := .aload_n 0) (sr := 2) (j := 0) (by decide +kernel) rfl rfl rfl) ?_
    refine gm_sz (gm_p_const (pc := 42) (i := .iconst 0) (v := gm_vi 0) (by decide +kernel) (by decide +kernel)) ?_
    refine gm_sz (fw_pi (pc := 43) (ix := 79) (ci := 11) (j := 6) (M' := gm_uM (cpk (gm_uM M 226 0 0) 228 227 0 0 1244) 226 6 0) (by decide +kernel) (e0k hE (k := 226) (c := 11) (by decide +kernel)) (by decide +kernel) (by decide +kernel) (by decide +kernel) rfl) ?_
    refine gm_sz (gm_p_load (pc := 46) (i := .aload_n 0) (sr := 2) (j := 0) (by decide +kernel) rfl rfl rfl) ?_
    refine gm_c_virt (k := 226) (ci := 11) (mj := 235) (ix := 72) (pc := 47) (as := []) (st := []) (d' := d - 1) (bc' := 0) (bs' := 0) (by decide +kernel) (by decide +kernel) (by decide +kernel) (by decide +kernel) (e0k hE (k := 226) (c := 11) (by decide +kernel)).1 (e0k hE (k := 226) (c := 11) (by decide +kernel)).2 (by decide) (by decide +kernel) (show 0 = gm_na 235 by decide +kernel) fw_c0 (show 1 ≤ gm_ml 235 by decide +kernel) (Nat.le_of_ble_eq_true rfl) (by omega) (Nat.zero_le _) (Nat.zero_le _) ?_
    refine wa_c235 hE hw9 (fun M235 hf235 hh235 h26 => ?_)
    show gm_Wp X LX d _ _ 237 50 _ [] n K _ _ Q
    refine gm_sz (gm_p_const (pc := 50) (i := .iconst 1) (v := gm_vi 1) (by decide +kernel) (by decide +kernel)) ?_
    refine gm_r_int (pc := 51) (by decide +kernel) (Or.inr ⟨(by decide +kernel), Or.inr rfl⟩) (q1 h1 _ (fr_t (fr_p (fr_t (fr_p fr_0 (Or.inr (by decide))) cpk_fr (by decide)) (Or.inr (by decide))) hf235 (by decide)) ⟨?_, fun y y0 y1 => ⟨hh235 y y0 y1, hts_b⟩⟩ (fun j hj hj2 => ?_) (fun j hj => ?_) h26 ?_ ?_)
    · rw [show M235 227 = gm_uM (cpk (gm_uM M 226 0 0) 228 227 0 0 1244) 226 6 0 227 from funext fun j => fr_c hf235 (by decide)]
      exact hw9
    · exact (fr_c hf235 (by decide)).trans ((uM_ne (by omega)).trans ((cpk_i (by omega) (by omega)).trans ((uM_ne (by omega)).trans (congrArg (M 228) (by omega)))))
    · exact (fr_c hf235 (by decide)).trans ((uM_ne (by omega)).trans ((cpk_o (by omega)).trans (uM_ne (by omega))))
    · exact (fr_j hf235 (by decide)).trans uM_at
    · exact (fr_j hf235 (by decide)).trans ((uM_ne (by omega)).trans ((cpk_o (by omega)).trans uM_at))
  · have h9 : (M 226 5) = 0 := Classical.not_not.mp h9
    refine gm_sz (gm_p_const (pc := 12) (i := .iconst 0) (v := gm_vi 0) (by decide +kernel) (by decide +kernel)) ?_
    exact gm_r_int (pc := 13) (by decide +kernel) (Or.inr ⟨(by decide +kernel), Or.inl rfl⟩) (q0 (by omega))
end AR5
end
/-! 7a27.r6ac -/
section
/-! THE REFERENCE'S ACTS (laid by wip/core/r6.py). -/
section AC6
variable {X : Int → Int} {LX d bc bs n : Nat} {K : gm_K} {R : gm_R} {M : gm_M} {Q : gm_Q} {l p f t v w y c : Int} {N h : Int → Int} {FI : gm_M → Prop} {φ : Int → Int → Int → Int} {Ψ : (Int → Int) → Int → Int → Int → Int → Prop} {o dd : Int → Int} {A : List (Int → Int)}
theorem re_let9 (hE : E0 n K R) (hv : M 227 4 = v) (hq : Q (.inl (some (gm_vi v))) n K R M) : gm_Wp X LX d bc bs 254 0 (gm_ent 254 [gm_vr 226]) [] n K R M Q := by
  refine gm_sz (gm_p_load (pc := 0) (i := .aload_n 0) (sr := 2) (j := 0) (by decide +kernel) rfl rfl rfl) ?_
  refine gm_sz (fw_gr (pc := 1) (ix := 13) (ci := 11) (j := 1) (r := 227) (by decide +kernel) (e0k hE (k := 226) (c := 11) (by decide +kernel)) (by decide +kernel) (by decide +kernel) (e0r hE (k := 226) (j := 1) (r := 227) (by decide +kernel))) ?_
  refine gm_sz (gm_p_const (pc := 4) (i := .iconst 4) (v := gm_vi 4) (by decide +kernel) (by decide +kernel)) ?_
  refine gm_sz (fw_ia (pc := 5) (k := 227) (len := 2093) (e0 := 4) (x := v) (by decide +kernel) (e0a hE (k := 227) (q := ((0 : Nat), (2093 : Nat))) (by decide +kernel)).1 (e0a hE (k := 227) (q := ((0 : Nat), (2093 : Nat))) (by decide +kernel)).2 (by decide) ⟨by omega, by omega⟩ hv) ?_
  exact gm_r_int (pc := 6) (by decide +kernel) (Or.inl (by decide +kernel)) hq
theorem re_ti (hd : 2 ≤ d) (hE : E0 n K R) (hT : TR N h M) (hN : NR N) (h4 : 0 ≤ N 4 ∧ N 4 < 24) (hq : ∀ M2, fr [((227 : Nat), none)] M M2 → ws (M2 227) = nthr N f t l y → (∀ j, 395 ≤ j → M2 227 j = M 227 j) → M2 227 8 = M 227 8 → Q (.inl none) n K R M2) : gm_Wp X LX d bc bs 271 0 (gm_ent 271 [gm_vr 226, gm_vi f, gm_vi t, gm_vi l, gm_vi y]) [] n K R M Q := by
  obtain ⟨⟨⟨a0, b0⟩, ⟨a1, b1⟩, ⟨a10, b10⟩, ⟨a11, b11⟩, ⟨a12, b12⟩, a9, b9⟩, ⟨⟨a2, b2⟩, ⟨a5, b5⟩, ⟨a3, b3⟩, ⟨a4, b4⟩, ⟨a6, b6⟩, ⟨a14, b14⟩, ⟨a7, b7⟩, a13, b13⟩, rF, rP, rL⟩ := id hN
  refine gm_sz (gm_p_load (pc := 0) (i := .aload_n 0) (sr := 2) (j := 0) (by decide +kernel) rfl rfl rfl) ?_
  refine gm_c_virt (k := 226) (ci := 11) (mj := 254) (ix := 100) (pc := 1) (as := []) (st := []) (d' := d - 1) (bc' := 0) (bs' := 0) (by decide +kernel) (by decide +kernel) (by decide +kernel) (by decide +kernel) (e0k hE (k := 226) (c := 11) (by decide +kernel)).1 (e0k hE (k := 226) (c := 11) (by decide +kernel)).2 (by decide) (by decide +kernel) (show 0 = gm_na 254 by decide +kernel) fw_c0 (show 1 ≤ gm_ml 254 by decide +kernel) (Nat.le_of_ble_eq_true rfl) (by omega) (Nat.zero_le _) (Nat.zero_le _) ?_
  refine re_let9 hE (tr_w hT (by decide) (by decide) (by decide)) ?_
  show gm_Wp X LX d _ _ 271 4 _ [gm_vi (N 4)] n K _ _ Q
  refine gm_sz (gm_p_stor (pc := 4) (i := .istore 5) (sr := 0) (j := 5) (by decide +kernel) rfl (show 6 ≤ _ from Nat.le_of_ble_eq_true rfl) rfl) ?_
  refine gm_sz (gm_p_load (pc := 6) (i := .aload_n 0) (sr := 2) (j := 0) (by decide +kernel) rfl rfl rfl) ?_
  refine gm_sz (gm_p_load (pc := 7) (i := .iload 5) (sr := 0) (j := 5) (by decide +kernel) rfl rfl rfl) ?_
  refine gm_sz (gm_p_const (pc := 9) (i := .iconst 0) (v := gm_vi 0) (by decide +kernel) (by decide +kernel)) ?_
  refine gm_sz (gm_p_load (pc := 10) (i := .iload_n 1) (sr := 0) (j := 1) (by decide +kernel) rfl rfl rfl) ?_
  refine gm_c_virt (k := 226) (ci := 11) (mj := 272) (ix := 173) (pc := 11) (as := [gm_vi (N 4), gm_vi 0, gm_vi f]) (st := []) (d' := d - 1) (bc' := 0) (bs' := 0) (by decide +kernel) (by decide +kernel) (by decide +kernel) (by decide +kernel) (e0k hE (k := 226) (c := 11) (by decide +kernel)).1 (e0k hE (k := 226) (c := 11) (by decide +kernel)).2 (by decide) (by decide +kernel) (show 3 = gm_na 272 by decide +kernel) (fw_c3 fw_si fw_si fw_si) (show 4 ≤ gm_ml 272 by decide +kernel) (Nat.le_of_ble_eq_true rfl) (by omega) (Nat.zero_le _) (Nat.zero_le _) ?_
  refine re_sl272 hE ⟨by omega, by omega⟩ ⟨by omega, by omega⟩ ?_
  show gm_Wp X LX d _ _ 271 14 _ [] n K _ _ Q
  refine gm_sz (gm_p_load (pc := 14) (i := .aload_n 0) (sr := 2) (j := 0) (by decide +kernel) rfl rfl rfl) ?_
  refine gm_sz (gm_p_load (pc := 15) (i := .iload 5) (sr := 0) (j := 5) (by decide +kernel) rfl rfl rfl) ?_
  refine gm_sz (gm_p_const (pc := 17) (i := .iconst 1) (v := gm_vi 1) (by decide +kernel) (by decide +kernel)) ?_
  refine gm_sz (gm_p_load (pc := 18) (i := .iload_n 2) (sr := 0) (j := 2) (by decide +kernel) rfl rfl rfl) ?_
  refine gm_c_virt (k := 226) (ci := 11) (mj := 272) (ix := 173) (pc := 19) (as := [gm_vi (N 4), gm_vi 1, gm_vi t]) (st := []) (d' := d - 1) (bc' := 0) (bs' := 0) (by decide +kernel) (by decide +kernel) (by decide +kernel) (by decide +kernel) (e0k hE (k := 226) (c := 11) (by decide +kernel)).1 (e0k hE (k := 226) (c := 11) (by decide +kernel)).2 (by decide) (by decide +kernel) (show 3 = gm_na 272 by decide +kernel) (fw_c3 fw_si fw_si fw_si) (show 4 ≤ gm_ml 272 by decide +kernel) (Nat.le_of_ble_eq_true rfl) (by omega) (Nat.zero_le _) (Nat.zero_le _) ?_
  refine re_sl272 hE ⟨by omega, by omega⟩ ⟨by omega, by omega⟩ ?_
  show gm_Wp X LX d _ _ 271 22 _ [] n K _ _ Q
  refine gm_sz (gm_p_load (pc := 22) (i := .aload_n 0) (sr := 2) (j := 0) (by decide +kernel) rfl rfl rfl) ?_
  refine gm_sz (gm_p_load (pc := 23) (i := .iload 5) (sr := 0) (j := 5) (by decide +kernel) rfl rfl rfl) ?_
  refine gm_sz (gm_p_const (pc := 25) (i := .iconst 2) (v := gm_vi 2) (by decide +kernel) (by decide +kernel)) ?_
  refine gm_sz (gm_p_load (pc := 26) (i := .iload_n 3) (sr := 0) (j := 3) (by decide +kernel) rfl rfl rfl) ?_
  refine gm_c_virt (k := 226) (ci := 11) (mj := 272) (ix := 173) (pc := 27) (as := [gm_vi (N 4), gm_vi 2, gm_vi l]) (st := []) (d' := d - 1) (bc' := 0) (bs' := 0) (by decide +kernel) (by decide +kernel) (by decide +kernel) (by decide +kernel) (e0k hE (k := 226) (c := 11) (by decide +kernel)).1 (e0k hE (k := 226) (c := 11) (by decide +kernel)).2 (by decide) (by decide +kernel) (show 3 = gm_na 272 by decide +kernel) (fw_c3 fw_si fw_si fw_si) (show 4 ≤ gm_ml 272 by decide +kernel) (Nat.le_of_ble_eq_true rfl) (by omega) (Nat.zero_le _) (Nat.zero_le _) ?_
  refine re_sl272 hE ⟨by omega, by omega⟩ ⟨by omega, by omega⟩ ?_
  show gm_Wp X LX d _ _ 271 30 _ [] n K _ _ Q
  refine gm_sz (gm_p_load (pc := 30) (i := .aload_n 0) (sr := 2) (j := 0) (by decide +kernel) rfl rfl rfl) ?_
  refine gm_sz (gm_p_load (pc := 31) (i := .iload 5) (sr := 0) (j := 5) (by decide +kernel) rfl rfl rfl) ?_
  refine gm_sz (gm_p_const (pc := 33) (i := .iconst 3) (v := gm_vi 3) (by decide +kernel) (by decide +kernel)) ?_
  refine gm_sz (gm_p_load (pc := 34) (i := .aload_n 0) (sr := 2) (j := 0) (by decide +kernel) rfl rfl rfl) ?_
  refine gm_c_virt (k := 226) (ci := 11) (mj := 266) (ix := 162) (pc := 35) (as := []) (st := [gm_vi 3, gm_vi (N 4), gm_vr 226]) (d' := d - 1) (bc' := 0) (bs' := 0) (by decide +kernel) (by decide +kernel) (by decide +kernel) (by decide +kernel) (e0k hE (k := 226) (c := 11) (by decide +kernel)).1 (e0k hE (k := 226) (c := 11) (by decide +kernel)).2 (by decide) (by decide +kernel) (show 0 = gm_na 266 by decide +kernel) fw_c0 (show 1 ≤ gm_ml 266 by decide +kernel) (Nat.le_of_ble_eq_true rfl) (by omega) (Nat.zero_le _) (Nat.zero_le _) ?_
  refine re_now9 hE ((uM_ne (by omega)).trans ((uM_ne (by omega)).trans ((uM_ne (by omega)).trans (tr_w hT (by decide) (by decide) (by decide))))) ?_
  show gm_Wp X LX d _ _ 271 38 _ [gm_vi (N 9), gm_vi 3, gm_vi (N 4), gm_vr 226] n K _ _ Q
  refine gm_c_virt (k := 226) (ci := 11) (mj := 272) (ix := 173) (pc := 38) (as := [gm_vi (N 4), gm_vi 3, gm_vi (N 9)]) (st := []) (d' := d - 1) (bc' := 0) (bs' := 0) (by decide +kernel) (by decide +kernel) (by decide +kernel) (by decide +kernel) (e0k hE (k := 226) (c := 11) (by decide +kernel)).1 (e0k hE (k := 226) (c := 11) (by decide +kernel)).2 (by decide) (by decide +kernel) (show 3 = gm_na 272 by decide +kernel) (fw_c3 fw_si fw_si fw_si) (show 4 ≤ gm_ml 272 by decide +kernel) (Nat.le_of_ble_eq_true rfl) (by omega) (Nat.zero_le _) (Nat.zero_le _) ?_
  refine re_sl272 hE ⟨by omega, by omega⟩ ⟨by omega, by omega⟩ ?_
  show gm_Wp X LX d _ _ 271 41 _ [] n K _ _ Q
  refine gm_sz (gm_p_load (pc := 41) (i := .aload_n 0) (sr := 2) (j := 0) (by decide +kernel) rfl rfl rfl) ?_
  refine gm_sz (gm_p_load (pc := 42) (i := .iload 5) (sr := 0) (j := 5) (by decide +kernel) rfl rfl rfl) ?_
  refine gm_sz (gm_p_const (pc := 44) (i := .iconst 4) (v := gm_vi 4) (by decide +kernel) (by decide +kernel)) ?_
  refine gm_sz (gm_p_load (pc := 45) (i := .iload 4) (sr := 0) (j := 4) (by decide +kernel) rfl rfl rfl) ?_
  refine gm_c_virt (k := 226) (ci := 11) (mj := 272) (ix := 173) (pc := 47) (as := [gm_vi (N 4), gm_vi 4, gm_vi y]) (st := []) (d' := d - 1) (bc' := 0) (bs' := 0) (by decide +kernel) (by decide +kernel) (by decide +kernel) (by decide +kernel) (e0k hE (k := 226) (c := 11) (by decide +kernel)).1 (e0k hE (k := 226) (c := 11) (by decide +kernel)).2 (by decide) (by decide +kernel) (show 3 = gm_na 272 by decide +kernel) (fw_c3 fw_si fw_si fw_si) (show 4 ≤ gm_ml 272 by decide +kernel) (Nat.le_of_ble_eq_true rfl) (by omega) (Nat.zero_le _) (Nat.zero_le _) ?_
  refine re_sl272 hE ⟨by omega, by omega⟩ ⟨by omega, by omega⟩ ?_
  show gm_Wp X LX d _ _ 271 50 _ [] n K _ _ Q
  refine gm_sz (gm_p_load (pc := 50) (i := .aload_n 0) (sr := 2) (j := 0) (by decide +kernel) rfl rfl rfl) ?_
  refine gm_sz (gm_p_load (pc := 51) (i := .iload 5) (sr := 0) (j := 5) (by decide +kernel) rfl rfl rfl) ?_
  refine gm_sz (gm_p_const (pc := 53) (i := .iconst 5) (v := gm_vi 5) (by decide +kernel) (by decide +kernel)) ?_
  refine gm_sz (gm_p_const (pc := 54) (i := .iconst (-1)) (v := gm_vi (-1)) (by decide +kernel) (by decide +kernel)) ?_
  refine gm_c_virt (k := 226) (ci := 11) (mj := 272) (ix := 173) (pc := 55) (as := [gm_vi (N 4), gm_vi 5, gm_vi (-1)]) (st := []) (d' := d - 1) (bc' := 0) (bs' := 0) (by decide +kernel) (by decide +kernel) (by decide +kernel) (by decide +kernel) (e0k hE (k := 226) (c := 11) (by decide +kernel)).1 (e0k hE (k := 226) (c := 11) (by decide +kernel)).2 (by decide) (by decide +kernel) (show 3 = gm_na 272 by decide +kernel) (fw_c3 fw_si fw_si fw_si) (show 4 ≤ gm_ml 272 by decide +kernel) (Nat.le_of_ble_eq_true rfl) (by omega) (Nat.zero_le _) (Nat.zero_le _) ?_
  refine re_sl272 hE ⟨by omega, by omega⟩ ⟨by omega, by omega⟩ ?_
  show gm_Wp X LX d _ _ 271 58 _ [] n K _ _ Q
  refine gm_sz (gm_p_load (pc := 58) (i := .aload_n 0) (sr := 2) (j := 0) (by decide +kernel) rfl rfl rfl) ?_
  refine gm_sz (gm_p_load (pc := 59) (i := .iload 5) (sr := 0) (j := 5) (by decide +kernel) rfl rfl rfl) ?_
  refine gm_sz (gm_p_const (pc := 61) (i := .bipush 6) (v := gm_vi 6) (by decide +kernel) (by decide +kernel)) ?_
  refine gm_sz (gm_p_const (pc := 63) (i := .iconst (-1)) (v := gm_vi (-1)) (by decide +kernel) (by decide +kernel)) ?_
  refine gm_c_virt (k := 226) (ci := 11) (mj := 272) (ix := 173) (pc := 64) (as := [gm_vi (N 4), gm_vi 6, gm_vi (-1)]) (st := []) (d' := d - 1) (bc' := 0) (bs' := 0) (by decide +kernel) (by decide +kernel) (by decide +kernel) (by decide +kernel) (e0k hE (k := 226) (c := 11) (by decide +kernel)).1 (e0k hE (k := 226) (c := 11) (by decide +kernel)).2 (by decide) (by decide +kernel) (show 3 = gm_na 272 by decide +kernel) (fw_c3 fw_si fw_si fw_si) (show 4 ≤ gm_ml 272 by decide +kernel) (Nat.le_of_ble_eq_true rfl) (by omega) (Nat.zero_le _) (Nat.zero_le _) ?_
  refine re_sl272 hE ⟨by omega, by omega⟩ ⟨by omega, by omega⟩ ?_
  show gm_Wp X LX d _ _ 271 67 _ [] n K _ _ Q
  refine gm_sz (gm_p_load (pc := 67) (i := .aload_n 0) (sr := 2) (j := 0) (by decide +kernel) rfl rfl rfl) ?_
  refine gm_sz (fw_gr (pc := 68) (ix := 13) (ci := 11) (j := 1) (r := 227) (by decide +kernel) (e0k hE (k := 226) (c := 11) (by decide +kernel)) (by decide +kernel) (by decide +kernel) (e0r hE (k := 226) (j := 1) (r := 227) (by decide +kernel))) ?_
  refine gm_sz (gm_p_const (pc := 71) (i := .iconst 4) (v := gm_vi 4) (by decide +kernel) (by decide +kernel)) ?_
  refine gm_sz (gm_p_dup2 (pc := 72) (by decide +kernel) fw_si fw_sr) ?_
  refine gm_sz (fw_ia (pc := 73) (k := 227) (len := 2093) (e0 := 4) (x := N 4) (by decide +kernel) (e0a hE (k := 227) (q := ((0 : Nat), (2093 : Nat))) (by decide +kernel)).1 (e0a hE (k := 227) (q := ((0 : Nat), (2093 : Nat))) (by decide +kernel)).2 (by decide) ⟨by omega, by omega⟩ ((uM_ne (by omega)).trans ((uM_ne (by omega)).trans ((uM_ne (by omega)).trans ((uM_ne (by omega)).trans ((uM_ne (by omega)).trans ((uM_ne (by omega)).trans ((uM_ne (by omega)).trans (tr_w hT (by decide) (by decide) (by decide)))))))))) ?_
  refine gm_sz (gm_p_const (pc := 74) (i := .iconst 1) (v := gm_vi 1) (by decide +kernel) (by decide +kernel)) ?_
  refine gm_sz (gm_p_bin (pc := 75) (i := .iadd) (f := fun x y => x + y) (by decide +kernel) rfl) ?_
  refine gm_sz (fw_is (pc := 76) (k := 227) (len := 2093) (e0 := 4) (x := (N 4) + 1) (M' := gm_uM (gm_uM (gm_uM (gm_uM (gm_uM (gm_uM (gm_uM (gm_uM M 227 ((119 + (7 * (N 4))) + 0) f) 227 ((119 + (7 * (N 4))) + 1) t) 227 ((119 + (7 * (N 4))) + 2) l) 227 ((119 + (7 * (N 4))) + 3) (N 9)) 227 ((119 + (7 * (N 4))) + 4) y) 227 ((119 + (7 * (N 4))) + 5) (-1)) 227 ((119 + (7 * (N 4))) + 6) (-1)) 227 4 ((N 4) + 1)) (by decide +kernel) (e0a hE (k := 227) (q := ((0 : Nat), (2093 : Nat))) (by decide +kernel)).1 (e0a hE (k := 227) (q := ((0 : Nat), (2093 : Nat))) (by decide +kernel)).2 (by decide) ⟨by omega, by omega⟩ rfl) ?_
  have e1 : (gm_uM (gm_uM (gm_uM (gm_uM (gm_uM (gm_uM (gm_uM (gm_uM M 227 ((119 + (7 * (N 4))) + 0) f) 227 ((119 + (7 * (N 4))) + 1) t) 227 ((119 + (7 * (N 4))) + 2) l) 227 ((119 + (7 * (N 4))) + 3) (N 9)) 227 ((119 + (7 * (N 4))) + 4) y) 227 ((119 + (7 * (N 4))) + 5) (-1)) 227 ((119 + (7 * (N 4))) + 6) (-1)) 227 4 ((N 4) + 1)) 227 = nup (nup (nup (nup (nup (nup (nup (nup (M 227) ((119 + (7 * (N 4))) + 0) (f)) ((119 + (7 * (N 4))) + 1) (t)) ((119 + (7 * (N 4))) + 2) (l)) ((119 + (7 * (N 4))) + 3) (N 9)) ((119 + (7 * (N 4))) + 4) (y)) ((119 + (7 * (N 4))) + 5) ((-1))) ((119 + (7 * (N 4))) + 6) ((-1))) (4) ((N 4) + 1) := by
    exact (nup_s (nup_s (nup_s (nup_s (nup_s (nup_s (nup_s (nup_s rfl))))))))
  have e2 : ws (nup (nup (nup (nup (nup (nup (nup (nup (M 227) ((119 + (7 * (N 4))) + 0) (f)) ((119 + (7 * (N 4))) + 1) (t)) ((119 + (7 * (N 4))) + 2) (l)) ((119 + (7 * (N 4))) + 3) (N 9)) ((119 + (7 * (N 4))) + 4) (y)) ((119 + (7 * (N 4))) + 5) ((-1))) ((119 + (7 * (N 4))) + 6) ((-1))) (4) ((N 4) + 1)) = nup (nup (nup (nup (nup (nup (nup (nup (ws (M 227)) (119 + (N 4 * 7 + 0)) (f)) (119 + (N 4 * 7 + 1)) (t)) (119 + (N 4 * 7 + 2)) (l)) (119 + (N 4 * 7 + 3)) (N 9)) (119 + (N 4 * 7 + 4)) (y)) (119 + (N 4 * 7 + 5)) (-1)) (119 + (N 4 * 7 + 6)) (-1)) (4) (N 4 + 1) := by
    rw [ws_put (k := 4) ⟨by omega, by omega, by omega⟩, ws_put (k := (119 + (7 * (N 4))) + 6) ⟨by omega, by omega, by omega⟩, ws_put (k := (119 + (7 * (N 4))) + 5) ⟨by omega, by omega, by omega⟩, ws_put (k := (119 + (7 * (N 4))) + 4) ⟨by omega, by omega, by omega⟩, ws_put (k := (119 + (7 * (N 4))) + 3) ⟨by omega, by omega, by omega⟩, ws_put (k := (119 + (7 * (N 4))) + 2) ⟨by omega, by omega, by omega⟩, ws_put (k := (119 + (7 * (N 4))) + 1) ⟨by omega, by omega, by omega⟩, ws_put (k := (119 + (7 * (N 4))) + 0) ⟨by omega, by omega, by omega⟩]
    rw [show (119 + (7 * (N 4))) + 0 = 119 + (N 4 * 7 + 0) by omega, show (119 + (7 * (N 4))) + 1 = 119 + (N 4 * 7 + 1) by omega, show (119 + (7 * (N 4))) + 2 = 119 + (N 4 * 7 + 2) by omega, show (119 + (7 * (N 4))) + 3 = 119 + (N 4 * 7 + 3) by omega, show (119 + (7 * (N 4))) + 4 = 119 + (N 4 * 7 + 4) by omega, show (119 + (7 * (N 4))) + 5 = 119 + (N 4 * 7 + 5) by omega, show (119 + (7 * (N 4))) + 6 = 119 + (N 4 * 7 + 6) by omega]
  have e3 : ws ((gm_uM (gm_uM (gm_uM (gm_uM (gm_uM (gm_uM (gm_uM (gm_uM M 227 ((119 + (7 * (N 4))) + 0) f) 227 ((119 + (7 * (N 4))) + 1) t) 227 ((119 + (7 * (N 4))) + 2) l) 227 ((119 + (7 * (N 4))) + 3) (N 9)) 227 ((119 + (7 * (N 4))) + 4) y) 227 ((119 + (7 * (N 4))) + 5) (-1)) 227 ((119 + (7 * (N 4))) + 6) (-1)) 227 4 ((N 4) + 1)) 227) = nthr N f t l y := by
    rw [e1, e2, hT.1]
    funext i
    unfold nthr
    by_cases h4 : i = 4
    · subst h4
      rw [nup_at, nup_ne (by omega), nup_ne (by omega), nup_ne (by omega), nup_ne (by omega), nup_ne (by omega), nup_ne (by omega), nup_ne (by omega), nup_at]
    · rw [nup_ne h4]
      unfold nup
      try dsimp only
      rw [if_neg h4]
  exact gm_r_void (pc := 77) (by decide +kernel) (by decide +kernel) (hq (gm_uM (gm_uM (gm_uM (gm_uM (gm_uM (gm_uM (gm_uM (gm_uM M 227 ((119 + (7 * (N 4))) + 0) f) 227 ((119 + (7 * (N 4))) + 1) t) 227 ((119 + (7 * (N 4))) + 2) l) 227 ((119 + (7 * (N 4))) + 3) (N 9)) 227 ((119 + (7 * (N 4))) + 4) y) 227 ((119 + (7 * (N 4))) + 5) (-1)) 227 ((119 + (7 * (N 4))) + 6) (-1)) 227 4 ((N 4) + 1)) (fr_p (fr_p (fr_p (fr_p (fr_p (fr_p (fr_p (fr_p fr_0 (Or.inl (by decide))) (Or.inl (by decide))) (Or.inl (by decide))) (Or.inl (by decide))) (Or.inl (by decide))) (Or.inl (by decide))) (Or.inl (by decide))) (Or.inl (by decide))) e3 (fun j hj => ((uM_ne (by omega)).trans ((uM_ne (by omega)).trans ((uM_ne (by omega)).trans ((uM_ne (by omega)).trans ((uM_ne (by omega)).trans ((uM_ne (by omega)).trans ((uM_ne (by omega)).trans ((uM_ne (by omega)).trans rfl))))))))) ((uM_ne (by omega)).trans ((uM_ne (by omega)).trans ((uM_ne (by omega)).trans ((uM_ne (by omega)).trans ((uM_ne (by omega)).trans ((uM_ne (by omega)).trans ((uM_ne (by omega)).trans ((uM_ne (by omega)).trans rfl)))))))))
theorem nthr_4 (h0 : 0 ≤ N 4) {M2 : gm_M} (h9 : ws (M2 227) = nthr N f t l y) : M2 227 4 = N 4 + 1 := by
  have e1 : M2 227 4 = ws (M2 227) 4 := rfl
  rw [e1, h9]
  unfold nthr
  rw [nup_ne (by omega), nup_ne (by omega), nup_ne (by omega), nup_ne (by omega), nup_ne (by omega), nup_ne (by omega), nup_ne (by omega), nup_at]
theorem ra_315 (hd : 6 ≤ d) (hE : E0 n K R) (hT : TR N h M) (hN : NR N) (hH : HISR A (M 227 8) M) (hf : gm_ir f) (ht : gm_ir t) (q3 : ¬ ((0 ≤ f ∧ f < N 3) ∧ (0 ≤ t ∧ t < N 3)) → ∀ M2, fr [((226 : Nat), some (0 : Int))] M M2 → M2 226 0 = 1 → Q (.inl (some (gm_vi 0))) n K R M2) (q0 : 0 ≤ f ∧ f < N 3 → 0 ≤ t ∧ t < N 3 → f = t → ∀ M2, fr [((226 : Nat), some (0 : Int))] M M2 → M2 226 0 = 2 → Q (.inl (some (gm_vi 0))) n K R M2) (q1 : 0 ≤ f ∧ f < N 3 → 0 ≤ t ∧ t < N 3 → ¬ f = t → N 4 = 24 → ∀ M2, fr [((226 : Nat), some (0 : Int))] M M2 → M2 226 0 = 3 → Q (.inl (some (gm_vi 0))) n K R M2) (hq : 0 ≤ f ∧ f < N 3 → 0 ≤ t ∧ t < N 3 → ¬ f = t → N 4 < 24 → ∀ M2 : gm_M, fr [((226 : Nat), some (0 : Int)), ((226 : Nat), some (6 : Int)), ((230 : Nat), none), ((227 : Nat), none)] M M2 → HISR ((N :: A).take 12) (M 227 8) M2 → ws (M2 227) = nthr N f t ((N (95 + (f * 3 + 0)))) ((N (95 + (f * 3 + 1)))) → (∀ j, 395 ≤ j → M2 227 j = M 227 j) → M2 227 8 = M 227 8 → M2 226 0 = 0 → Q (.inl (some (gm_vi (N 4)))) n K R M2) : gm_Wp X LX d bc bs 315 0 (gm_ent 315 [gm_vr 226, gm_vi f, gm_vi t]) [] n K R M Q := by
  obtain ⟨⟨⟨a0, b0⟩, ⟨a1, b1⟩, ⟨a10, b10⟩, ⟨a11, b11⟩, ⟨a12, b12⟩, a9, b9⟩, ⟨⟨a2, b2⟩, ⟨a5, b5⟩, ⟨a3, b3⟩, ⟨a4, b4⟩, ⟨a6, b6⟩, ⟨a14, b14⟩, ⟨a7, b7⟩, a13, b13⟩, rF, rP, rL⟩ := id hN
  refine gm_sz (gm_p_load (pc := 0) (i := .aload_n 0) (sr := 2) (j := 0) (by decide +kernel) rfl rfl rfl) ?_
  refine gm_sz (gm_p_const (pc := 1) (i := .iconst 0) (v := gm_vi 0) (by decide +kernel) (by decide +kernel)) ?_
  refine gm_sz (fw_pi (pc := 2) (ix := 3) (ci := 11) (j := 0) (M' := gm_uM M 226 0 0) (by decide +kernel) (e0k hE (k := 226) (c := 11) (by decide +kernel)) (by decide +kernel) (by decide +kernel) (by decide +kernel) rfl) ?_
  refine gm_sz (gm_p_load (pc := 5) (i := .aload_n 0) (sr := 2) (j := 0) (by decide +kernel) rfl rfl rfl) ?_
  refine gm_sz (gm_p_load (pc := 6) (i := .aload_n 0) (sr := 2) (j := 0) (by decide +kernel) rfl rfl rfl) ?_
  refine gm_sz (gm_p_load (pc := 7) (i := .iload_n 1) (sr := 0) (j := 1) (by decide +kernel) rfl rfl rfl) ?_
  refine gm_c_virt (k := 226) (ci := 11) (mj := 298) (ix := 393) (pc := 8) (as := [gm_vi f]) (st := [gm_vr 226]) (d' := d - 1) (bc' := 0) (bs' := 0) (by decide +kernel) (by decide +kernel) (by decide +kernel) (by decide +kernel) (e0k hE (k := 226) (c := 11) (by decide +kernel)).1 (e0k hE (k := 226) (c := 11) (by decide +kernel)).2 (by decide) (by decide +kernel) (show 1 = gm_na 298 by decide +kernel) (fw_c1 fw_si) (show 2 ≤ gm_ml 298 by decide +kernel) (Nat.le_of_ble_eq_true rfl) (by omega) (Nat.zero_le _) (Nat.zero_le _) ?_
  refine no_298 (i := f) (by omega) hE (tr_fr (W := [((226 : Nat), some (0 : Int))]) hT (fr_p fr_0 (Or.inr (by decide))) (by decide)) hN hf (fun n8 => ?_) (fun n8 => ?_)
  · show gm_Wp X LX d _ _ 315 11 _ [gm_vi 1, gm_vr 226] n K _ _ Q
    have n8 : ¬ (0 ≤ f ∧ f < N 3) := n8
    refine fw_iftd (cc := .ne) (pc := 11) (off := 11) (by decide +kernel) (by decide) ⟨by decide, by decide⟩ (by decide) ?_
    refine gm_sz (gm_p_const (pc := 22) (i := .iconst 1) (v := gm_vi 1) (by decide +kernel) (by decide +kernel)) ?_
    refine gm_sz (gm_p_goto (pc := 23) (off := 4) (by decide +kernel) (by decide)) ?_
    refine gm_sz (gm_p_const (pc := 27) (i := .iconst 1) (v := gm_vi 1) (by decide +kernel) (by decide +kernel)) ?_
    refine gm_c_virt (k := 226) (ci := 11) (mj := 282) (ix := 300) (pc := 28) (as := [gm_vi 1, gm_vi 1]) (st := []) (d' := d - 1) (bc' := 0) (bs' := 0) (by decide +kernel) (by decide +kernel) (by decide +kernel) (by decide +kernel) (e0k hE (k := 226) (c := 11) (by decide +kernel)).1 (e0k hE (k := 226) (c := 11) (by decide +kernel)).2 (by decide) (by decide +kernel) (show 2 = gm_na 282 by decide +kernel) (fw_c2 fw_si fw_si) (show 3 ≤ gm_ml 282 by decide +kernel) (Nat.le_of_ble_eq_true rfl) (by omega) (Nat.zero_le _) (Nat.zero_le _) ?_
    refine tf_1 hE ?_
    show gm_Wp X LX d _ _ 315 31 _ [gm_vi 1] n K _ _ Q
    refine fw_iftd (cc := .ne) (pc := 31) (off := 43) (by decide +kernel) (by decide) ⟨by decide, by decide⟩ (by decide) ?_
    refine gm_sz (gm_p_const (pc := 74) (i := .iconst 0) (v := gm_vi 0) (by decide +kernel) (by decide +kernel)) ?_
    exact gm_r_int (pc := 75) (by decide +kernel) (Or.inl (by decide +kernel)) (q3 (by omega) (gm_uM (gm_uM M 226 0 0) 226 0 1) (fr_p (fr_p fr_0 (Or.inr (by decide))) (Or.inr (by decide))) uM_at)
  · show gm_Wp X LX d _ _ 315 11 _ [gm_vi 0, gm_vr 226] n K _ _ Q
    have n8 : 0 ≤ f ∧ f < N 3 := n8
    refine fw_iffd (cc := .ne) (pc := 11) (off := 11) (by decide +kernel) (by decide) ⟨by decide, by decide⟩ (by decide) ?_
    refine gm_sz (gm_p_load (pc := 14) (i := .aload_n 0) (sr := 2) (j := 0) (by decide +kernel) rfl rfl rfl) ?_
    refine gm_sz (gm_p_load (pc := 15) (i := .iload_n 2) (sr := 0) (j := 2) (by decide +kernel) rfl rfl rfl) ?_
    refine gm_c_virt (k := 226) (ci := 11) (mj := 298) (ix := 393) (pc := 16) (as := [gm_vi t]) (st := [gm_vr 226]) (d' := d - 1) (bc' := 0) (bs' := 0) (by decide +kernel) (by decide +kernel) (by decide +kernel) (by decide +kernel) (e0k hE (k := 226) (c := 11) (by decide +kernel)).1 (e0k hE (k := 226) (c := 11) (by decide +kernel)).2 (by decide) (by decide +kernel) (show 1 = gm_na 298 by decide +kernel) (fw_c1 fw_si) (show 2 ≤ gm_ml 298 by decide +kernel) (Nat.le_of_ble_eq_true rfl) (by omega) (Nat.zero_le _) (Nat.zero_le _) ?_
    refine no_298 (i := t) (by omega) hE (tr_fr (W := [((226 : Nat), some (0 : Int))]) hT (fr_p fr_0 (Or.inr (by decide))) (by decide)) hN ht (fun n16 => ?_) (fun n16 => ?_)
    · show gm_Wp X LX d _ _ 315 19 _ [gm_vi 1, gm_vr 226] n K _ _ Q
      have n16 : ¬ (0 ≤ t ∧ t < N 3) := n16
      refine fw_iffd (cc := .eq) (pc := 19) (off := 7) (by decide +kernel) (by decide) ⟨by decide, by decide⟩ (by decide) ?_
      refine gm_sz (gm_p_const (pc := 22) (i := .iconst 1) (v := gm_vi 1) (by decide +kernel) (by decide +kernel)) ?_
      refine gm_sz (gm_p_goto (pc := 23) (off := 4) (by decide +kernel) (by decide)) ?_
      refine gm_sz (gm_p_const (pc := 27) (i := .iconst 1) (v := gm_vi 1) (by decide +kernel) (by decide +kernel)) ?_
      refine gm_c_virt (k := 226) (ci := 11) (mj := 282) (ix := 300) (pc := 28) (as := [gm_vi 1, gm_vi 1]) (st := []) (d' := d - 1) (bc' := 0) (bs' := 0) (by decide +kernel) (by decide +kernel) (by decide +kernel) (by decide +kernel) (e0k hE (k := 226) (c := 11) (by decide +kernel)).1 (e0k hE (k := 226) (c := 11) (by decide +kernel)).2 (by decide) (by decide +kernel) (show 2 = gm_na 282 by decide +kernel) (fw_c2 fw_si fw_si) (show 3 ≤ gm_ml 282 by decide +kernel) (Nat.le_of_ble_eq_true rfl) (by omega) (Nat.zero_le _) (Nat.zero_le _) ?_
      refine tf_1 hE ?_
      show gm_Wp X LX d _ _ 315 31 _ [gm_vi 1] n K _ _ Q
      refine fw_iftd (cc := .ne) (pc := 31) (off := 43) (by decide +kernel) (by decide) ⟨by decide, by decide⟩ (by decide) ?_
      refine gm_sz (gm_p_const (pc := 74) (i := .iconst 0) (v := gm_vi 0) (by decide +kernel) (by decide +kernel)) ?_
      exact gm_r_int (pc := 75) (by decide +kernel) (Or.inl (by decide +kernel)) (q3 (by omega) (gm_uM (gm_uM M 226 0 0) 226 0 1) (fr_p (fr_p fr_0 (Or.inr (by decide))) (Or.inr (by decide))) uM_at)
    · show gm_Wp X LX d _ _ 315 19 _ [gm_vi 0, gm_vr 226] n K _ _ Q
      have n16 : 0 ≤ t ∧ t < N 3 := n16
      refine fw_iftd (cc := .eq) (pc := 19) (off := 7) (by decide +kernel) (by decide) ⟨by decide, by decide⟩ (by decide) ?_
      refine gm_sz (gm_p_const (pc := 26) (i := .iconst 0) (v := gm_vi 0) (by decide +kernel) (by decide +kernel)) ?_
      refine gm_sz (gm_p_const (pc := 27) (i := .iconst 1) (v := gm_vi 1) (by decide +kernel) (by decide +kernel)) ?_
      refine gm_c_virt (k := 226) (ci := 11) (mj := 282) (ix := 300) (pc := 28) (as := [gm_vi 0, gm_vi 1]) (st := []) (d' := d - 1) (bc' := 0) (bs' := 0) (by decide +kernel) (by decide +kernel) (by decide +kernel) (by decide +kernel) (e0k hE (k := 226) (c := 11) (by decide +kernel)).1 (e0k hE (k := 226) (c := 11) (by decide +kernel)).2 (by decide) (by decide +kernel) (show 2 = gm_na 282 by decide +kernel) (fw_c2 fw_si fw_si) (show 3 ≤ gm_ml 282 by decide +kernel) (Nat.le_of_ble_eq_true rfl) (by omega) (Nat.zero_le _) (Nat.zero_le _) ?_
      refine tf_0 hE ?_
      show gm_Wp X LX d _ _ 315 31 _ [gm_vi 0] n K _ _ Q
      refine fw_iffd (cc := .ne) (pc := 31) (off := 43) (by decide +kernel) (by decide) ⟨by decide, by decide⟩ (by decide) ?_
      refine gm_sz (gm_p_load (pc := 34) (i := .aload_n 0) (sr := 2) (j := 0) (by decide +kernel) rfl rfl rfl) ?_
      refine gm_sz (gm_p_load (pc := 35) (i := .iload_n 1) (sr := 0) (j := 1) (by decide +kernel) rfl rfl rfl) ?_
      refine gm_sz (gm_p_load (pc := 36) (i := .iload_n 2) (sr := 0) (j := 2) (by decide +kernel) rfl rfl rfl) ?_
      refine fw_ic (cc := .ne) (pc := 37) (off := 7) (by decide +kernel) (by decide) hf ht (fun h37 => ?_) (fun h37 => ?_)
      · have h37 : ¬ f = t := h37
        refine gm_sz (gm_p_const (pc := 44) (i := .iconst 0) (v := gm_vi 0) (by decide +kernel) (by decide +kernel)) ?_
        refine gm_sz (gm_p_const (pc := 45) (i := .iconst 2) (v := gm_vi 2) (by decide +kernel) (by decide +kernel)) ?_
        refine gm_c_virt (k := 226) (ci := 11) (mj := 282) (ix := 300) (pc := 46) (as := [gm_vi 0, gm_vi 2]) (st := []) (d' := d - 1) (bc' := 0) (bs' := 0) (by decide +kernel) (by decide +kernel) (by decide +kernel) (by decide +kernel) (e0k hE (k := 226) (c := 11) (by decide +kernel)).1 (e0k hE (k := 226) (c := 11) (by decide +kernel)).2 (by decide) (by decide +kernel) (show 2 = gm_na 282 by decide +kernel) (fw_c2 fw_si fw_si) (show 3 ≤ gm_ml 282 by decide +kernel) (Nat.le_of_ble_eq_true rfl) (by omega) (Nat.zero_le _) (Nat.zero_le _) ?_
        refine tf_0 hE ?_
        show gm_Wp X LX d _ _ 315 49 _ [gm_vi 0] n K _ _ Q
        refine fw_iffd (cc := .ne) (pc := 49) (off := 25) (by decide +kernel) (by decide) ⟨by decide, by decide⟩ (by decide) ?_
        refine gm_sz (gm_p_load (pc := 52) (i := .aload_n 0) (sr := 2) (j := 0) (by decide +kernel) rfl rfl rfl) ?_
        refine gm_sz (gm_p_load (pc := 53) (i := .aload_n 0) (sr := 2) (j := 0) (by decide +kernel) rfl rfl rfl) ?_
        refine gm_c_virt (k := 226) (ci := 11) (mj := 254) (ix := 100) (pc := 54) (as := []) (st := [gm_vr 226]) (d' := d - 1) (bc' := 0) (bs' := 0) (by decide +kernel) (by decide +kernel) (by decide +kernel) (by decide +kernel) (e0k hE (k := 226) (c := 11) (by decide +kernel)).1 (e0k hE (k := 226) (c := 11) (by decide +kernel)).2 (by decide) (by decide +kernel) (show 0 = gm_na 254 by decide +kernel) fw_c0 (show 1 ≤ gm_ml 254 by decide +kernel) (Nat.le_of_ble_eq_true rfl) (by omega) (Nat.zero_le _) (Nat.zero_le _) ?_
        refine re_let9 hE ((uM_ne (by omega)).trans (tr_w hT (by decide) (by decide) (by decide))) ?_
        show gm_Wp X LX d _ _ 315 57 _ [gm_vi (N 4), gm_vr 226] n K _ _ Q
        refine gm_sz (gm_p_const (pc := 57) (i := .bipush 24) (v := gm_vi 24) (by decide +kernel) (by decide +kernel)) ?_
        refine fw_ic (cc := .ne) (pc := 59) (off := 7) (by decide +kernel) (by decide) ⟨by omega, by omega⟩ ⟨by decide, by decide⟩ (fun h59 => ?_) (fun h59 => ?_)
        · have h59 : ¬ (N 4) = 24 := h59
          refine gm_sz (gm_p_const (pc := 66) (i := .iconst 0) (v := gm_vi 0) (by decide +kernel) (by decide +kernel)) ?_
          refine gm_sz (gm_p_const (pc := 67) (i := .iconst 3) (v := gm_vi 3) (by decide +kernel) (by decide +kernel)) ?_
          refine gm_c_virt (k := 226) (ci := 11) (mj := 282) (ix := 300) (pc := 68) (as := [gm_vi 0, gm_vi 3]) (st := []) (d' := d - 1) (bc' := 0) (bs' := 0) (by decide +kernel) (by decide +kernel) (by decide +kernel) (by decide +kernel) (e0k hE (k := 226) (c := 11) (by decide +kernel)).1 (e0k hE (k := 226) (c := 11) (by decide +kernel)).2 (by decide) (by decide +kernel) (show 2 = gm_na 282 by decide +kernel) (fw_c2 fw_si fw_si) (show 3 ≤ gm_ml 282 by decide +kernel) (Nat.le_of_ble_eq_true rfl) (by omega) (Nat.zero_le _) (Nat.zero_le _) ?_
          refine tf_0 hE ?_
          show gm_Wp X LX d _ _ 315 71 _ [gm_vi 0] n K _ _ Q
          refine fw_iftd (cc := .eq) (pc := 71) (off := 5) (by decide +kernel) (by decide) ⟨by decide, by decide⟩ (by decide) ?_
          refine gm_sz (gm_p_load (pc := 76) (i := .aload_n 0) (sr := 2) (j := 0) (by decide +kernel) rfl rfl rfl) ?_
          refine gm_c_virt (k := 226) (ci := 11) (mj := 316) (ix := 411) (pc := 77) (as := []) (st := []) (d' := d - 1) (bc' := 0) (bs' := 0) (by decide +kernel) (by decide +kernel) (by decide +kernel) (by decide +kernel) (e0k hE (k := 226) (c := 11) (by decide +kernel)).1 (e0k hE (k := 226) (c := 11) (by decide +kernel)).2 (by decide) (by decide +kernel) (show 0 = gm_na 316 by decide +kernel) fw_c0 (show 1 ≤ gm_ml 316 by decide +kernel) (Nat.le_of_ble_eq_true rfl) (by omega) (Nat.zero_le _) (Nat.zero_le _) ?_
          refine rm_c316 hE (tr_fr (W := [((226 : Nat), some (0 : Int))]) hT (fr_p fr_0 (Or.inr (by decide))) (by decide)).1 (by have h9 : HISR A (M 227 8) (gm_uM M 226 0 0) := hisr_w (W := [((226 : Nat), some (0 : Int))]) hH (fr_p fr_0 (Or.inr (by decide))) (by decide); rwa [show M 227 8 = (gm_uM M 226 0 0) 227 8 from ((uM_ne (by omega))).symm] at h9) (fun M77 hf77 hs77 => ?_)
          show gm_Wp X LX d _ _ 315 80 _ [] n K _ _ Q
          refine gm_sz (gm_p_load (pc := 80) (i := .aload_n 0) (sr := 2) (j := 0) (by decide +kernel) rfl rfl rfl) ?_
          refine gm_sz (gm_p_load (pc := 81) (i := .iload_n 1) (sr := 0) (j := 1) (by decide +kernel) rfl rfl rfl) ?_
          refine gm_sz (gm_p_load (pc := 82) (i := .iload_n 2) (sr := 0) (j := 2) (by decide +kernel) rfl rfl rfl) ?_
          refine gm_sz (gm_p_load (pc := 83) (i := .aload_n 0) (sr := 2) (j := 0) (by decide +kernel) rfl rfl rfl) ?_
          refine gm_sz (gm_p_load (pc := 84) (i := .iload_n 1) (sr := 0) (j := 1) (by decide +kernel) rfl rfl rfl) ?_
          refine gm_sz (gm_p_const (pc := 85) (i := .iconst 0) (v := gm_vi 0) (by decide +kernel) (by decide +kernel)) ?_
          refine gm_c_virt (k := 226) (ci := 11) (mj := 299) (ix := 396) (pc := 86) (as := [gm_vi f, gm_vi 0]) (st := [gm_vi t, gm_vi f, gm_vr 226]) (d' := d - 1) (bc' := 0) (bs' := 0) (by decide +kernel) (by decide +kernel) (by decide +kernel) (by decide +kernel) (e0k hE (k := 226) (c := 11) (by decide +kernel)).1 (e0k hE (k := 226) (c := 11) (by decide +kernel)).2 (by decide) (by decide +kernel) (show 2 = gm_na 299 by decide +kernel) (fw_c2 fw_si fw_si) (show 3 ≤ gm_ml 299 by decide +kernel) (Nat.le_of_ble_eq_true rfl) (by omega) (Nat.zero_le _) (Nat.zero_le _) ?_
          refine re_of hE (tr_fr (W := [((226 : Nat), some (0 : Int)), ((226 : Nat), some (6 : Int)), ((230 : Nat), none)]) hT (fr_t (fr_p fr_0 (Or.inr (by decide))) hf77 (by decide)) (by decide)) hN ⟨by omega, by omega⟩ ⟨by omega, by omega⟩ ?_
          show gm_Wp X LX d _ _ 315 89 _ [gm_vi (N (95 + (f * 3 + 0))), gm_vi t, gm_vi f, gm_vr 226] n K _ _ Q
          refine gm_sz (gm_p_load (pc := 89) (i := .aload_n 0) (sr := 2) (j := 0) (by decide +kernel) rfl rfl rfl) ?_
          refine gm_sz (gm_p_load (pc := 90) (i := .iload_n 1) (sr := 0) (j := 1) (by decide +kernel) rfl rfl rfl) ?_
          refine gm_sz (gm_p_const (pc := 91) (i := .iconst 1) (v := gm_vi 1) (by decide +kernel) (by decide +kernel)) ?_
          refine gm_c_virt (k := 226) (ci := 11) (mj := 299) (ix := 396) (pc := 92) (as := [gm_vi f, gm_vi 1]) (st := [gm_vi (N (95 + (f * 3 + 0))), gm_vi t, gm_vi f, gm_vr 226]) (d' := d - 1) (bc' := 0) (bs' := 0) (by decide +kernel) (by decide +kernel) (by decide +kernel) (by decide +kernel) (e0k hE (k := 226) (c := 11) (by decide +kernel)).1 (e0k hE (k := 226) (c := 11) (by decide +kernel)).2 (by decide) (by decide +kernel) (show 2 = gm_na 299 by decide +kernel) (fw_c2 fw_si fw_si) (show 3 ≤ gm_ml 299 by decide +kernel) (Nat.le_of_ble_eq_true rfl) (by omega) (Nat.zero_le _) (Nat.zero_le _) ?_
          refine re_of hE (tr_fr (W := [((226 : Nat), some (0 : Int)), ((226 : Nat), some (6 : Int)), ((230 : Nat), none)]) hT (fr_t (fr_p fr_0 (Or.inr (by decide))) hf77 (by decide)) (by decide)) hN ⟨by omega, by omega⟩ ⟨by omega, by omega⟩ ?_
          show gm_Wp X LX d _ _ 315 95 _ [gm_vi (N (95 + (f * 3 + 1))), gm_vi (N (95 + (f * 3 + 0))), gm_vi t, gm_vi f, gm_vr 226] n K _ _ Q
          refine gm_c_virt (k := 226) (ci := 11) (mj := 271) (ix := 177) (pc := 95) (as := [gm_vi f, gm_vi t, gm_vi (N (95 + (f * 3 + 0))), gm_vi (N (95 + (f * 3 + 1)))]) (st := []) (d' := d - 1) (bc' := 0) (bs' := 0) (by decide +kernel) (by decide +kernel) (by decide +kernel) (by decide +kernel) (e0k hE (k := 226) (c := 11) (by decide +kernel)).1 (e0k hE (k := 226) (c := 11) (by decide +kernel)).2 (by decide) (by decide +kernel) (show 4 = gm_na 271 by decide +kernel) (fw_c4 fw_si fw_si fw_si fw_si) (show 5 ≤ gm_ml 271 by decide +kernel) (Nat.le_of_ble_eq_true rfl) (by omega) (Nat.zero_le _) (Nat.zero_le _) ?_
          refine re_ti (by omega) hE (tr_fr (W := [((226 : Nat), some (0 : Int)), ((226 : Nat), some (6 : Int)), ((230 : Nat), none)]) hT (fr_t (fr_p fr_0 (Or.inr (by decide))) hf77 (by decide)) (by decide)) hN ⟨by omega, by omega⟩ (fun M95 hf95 hw95 hg95 h895 => ?_)
          show gm_Wp X LX d _ _ 315 98 _ [] n K _ _ Q
          refine gm_sz (gm_p_load (pc := 98) (i := .aload_n 0) (sr := 2) (j := 0) (by decide +kernel) rfl rfl rfl) ?_
          refine gm_c_virt (k := 226) (ci := 11) (mj := 254) (ix := 100) (pc := 99) (as := []) (st := []) (d' := d - 1) (bc' := 0) (bs' := 0) (by decide +kernel) (by decide +kernel) (by decide +kernel) (by decide +kernel) (e0k hE (k := 226) (c := 11) (by decide +kernel)).1 (e0k hE (k := 226) (c := 11) (by decide +kernel)).2 (by decide) (by decide +kernel) (show 0 = gm_na 254 by decide +kernel) fw_c0 (show 1 ≤ gm_ml 254 by decide +kernel) (Nat.le_of_ble_eq_true rfl) (by omega) (Nat.zero_le _) (Nat.zero_le _) ?_
          refine re_let9 hE (nthr_4 (by omega) hw95) ?_
          show gm_Wp X LX d _ _ 315 102 _ [gm_vi (N 4 + 1)] n K _ _ Q
          refine gm_sz (gm_p_const (pc := 102) (i := .iconst 1) (v := gm_vi 1) (by decide +kernel) (by decide +kernel)) ?_
          refine gm_sz (gm_p_bin (pc := 103) (i := .isub) (f := fun x y => x - y) (by decide +kernel) rfl) ?_
          rw [show (N 4 + 1) - 1 = N 4 by omega]
          have h9 := hisr_w (W := [((227 : Nat), none)]) hs77 hf95 (by decide)
          rw [show gm_uM M 226 0 0 227 8 = M 227 8 from uM_ne (by omega)] at h9
          exact gm_r_int (pc := 104) (by decide +kernel) (Or.inl (by decide +kernel)) (hq (by omega) (by omega) (by omega) (by omega) M95 (fr_t (fr_t (fr_p fr_0 (Or.inr (by decide))) hf77 (by decide)) hf95 (by decide)) h9 hw95 (fun j hj => (hg95 j hj).trans ((fr_c hf77 (by decide)).trans (uM_ne (by omega)))) (h895.trans ((fr_c hf77 (by decide)).trans (uM_ne (by omega)))) ((fr_c hf95 (by decide)).trans ((fr_j hf77 (by decide)).trans uM_at)))
        · have h59 : (N 4) = 24 := Classical.not_not.mp h59
          refine gm_sz (gm_p_const (pc := 62) (i := .iconst 1) (v := gm_vi 1) (by decide +kernel) (by decide +kernel)) ?_
          refine gm_sz (gm_p_goto (pc := 63) (off := 4) (by decide +kernel) (by decide)) ?_
          refine gm_sz (gm_p_const (pc := 67) (i := .iconst 3) (v := gm_vi 3) (by decide +kernel) (by decide +kernel)) ?_
          refine gm_c_virt (k := 226) (ci := 11) (mj := 282) (ix := 300) (pc := 68) (as := [gm_vi 1, gm_vi 3]) (st := []) (d' := d - 1) (bc' := 0) (bs' := 0) (by decide +kernel) (by decide +kernel) (by decide +kernel) (by decide +kernel) (e0k hE (k := 226) (c := 11) (by decide +kernel)).1 (e0k hE (k := 226) (c := 11) (by decide +kernel)).2 (by decide) (by decide +kernel) (show 2 = gm_na 282 by decide +kernel) (fw_c2 fw_si fw_si) (show 3 ≤ gm_ml 282 by decide +kernel) (Nat.le_of_ble_eq_true rfl) (by omega) (Nat.zero_le _) (Nat.zero_le _) ?_
          refine tf_1 hE ?_
          show gm_Wp X LX d _ _ 315 71 _ [gm_vi 1] n K _ _ Q
          refine fw_iffd (cc := .eq) (pc := 71) (off := 5) (by decide +kernel) (by decide) ⟨by decide, by decide⟩ (by decide) ?_
          refine gm_sz (gm_p_const (pc := 74) (i := .iconst 0) (v := gm_vi 0) (by decide +kernel) (by decide +kernel)) ?_
          exact gm_r_int (pc := 75) (by decide +kernel) (Or.inl (by decide +kernel)) (q1 (by omega) (by omega) (by omega) (by omega) (gm_uM (gm_uM M 226 0 0) 226 0 3) (fr_p (fr_p fr_0 (Or.inr (by decide))) (Or.inr (by decide))) uM_at)
      · have h37 : f = t := Classical.not_not.mp h37
        refine gm_sz (gm_p_const (pc := 40) (i := .iconst 1) (v := gm_vi 1) (by decide +kernel) (by decide +kernel)) ?_
        refine gm_sz (gm_p_goto (pc := 41) (off := 4) (by decide +kernel) (by decide)) ?_
        refine gm_sz (gm_p_const (pc := 45) (i := .iconst 2) (v := gm_vi 2) (by decide +kernel) (by decide +kernel)) ?_
        refine gm_c_virt (k := 226) (ci := 11) (mj := 282) (ix := 300) (pc := 46) (as := [gm_vi 1, gm_vi 2]) (st := []) (d' := d - 1) (bc' := 0) (bs' := 0) (by decide +kernel) (by decide +kernel) (by decide +kernel) (by decide +kernel) (e0k hE (k := 226) (c := 11) (by decide +kernel)).1 (e0k hE (k := 226) (c := 11) (by decide +kernel)).2 (by decide) (by decide +kernel) (show 2 = gm_na 282 by decide +kernel) (fw_c2 fw_si fw_si) (show 3 ≤ gm_ml 282 by decide +kernel) (Nat.le_of_ble_eq_true rfl) (by omega) (Nat.zero_le _) (Nat.zero_le _) ?_
        refine tf_1 hE ?_
        show gm_Wp X LX d _ _ 315 49 _ [gm_vi 1] n K _ _ Q
        refine fw_iftd (cc := .ne) (pc := 49) (off := 25) (by decide +kernel) (by decide) ⟨by decide, by decide⟩ (by decide) ?_
        refine gm_sz (gm_p_const (pc := 74) (i := .iconst 0) (v := gm_vi 0) (by decide +kernel) (by decide +kernel)) ?_
        exact gm_r_int (pc := 75) (by decide +kernel) (Or.inl (by decide +kernel)) (q0 (by omega) (by omega) (by omega) (gm_uM (gm_uM M 226 0 0) 226 0 2) (fr_p (fr_p fr_0 (Or.inr (by decide))) (Or.inr (by decide))) uM_at)
theorem ra_317 (hd : 6 ≤ d) (hE : E0 n K R) (hT : TR N h M) (hN : NR N) (hH : HISR A (M 227 8) M) (hf : gm_ir p) (ht : gm_ir l) (q3 : ¬ ((0 ≤ p ∧ p < N 3) ∧ (l = -1 ∨ (0 ≤ l ∧ l < N 0))) → ∀ M2, fr [((226 : Nat), some (0 : Int))] M M2 → M2 226 0 = 1 → Q (.inl (some (gm_vi 0))) n K R M2) (hq : 0 ≤ p ∧ p < N 3 → (l = -1 ∨ (0 ≤ l ∧ l < N 0)) → ∀ M2 : gm_M, fr [((226 : Nat), some (0 : Int)), ((226 : Nat), some (6 : Int)), ((230 : Nat), none), ((227 : Nat), none)] M M2 → HISR ((N :: A).take 12) (M 227 8) M2 → ws (M2 227) = nwat N p l → (∀ j, 395 ≤ j → M2 227 j = M 227 j) → M2 227 8 = M 227 8 → M2 226 0 = 0 → Q (.inl (some (gm_vi ((N (95 + (p * 3 + 2))))))) n K R M2) : gm_Wp X LX d bc bs 317 0 (gm_ent 317 [gm_vr 226, gm_vi p, gm_vi l]) [] n K R M Q := by
  obtain ⟨⟨⟨a0, b0⟩, ⟨a1, b1⟩, ⟨a10, b10⟩, ⟨a11, b11⟩, ⟨a12, b12⟩, a9, b9⟩, ⟨⟨a2, b2⟩, ⟨a5, b5⟩, ⟨a3, b3⟩, ⟨a4, b4⟩, ⟨a6, b6⟩, ⟨a14, b14⟩, ⟨a7, b7⟩, a13, b13⟩, rF, rP, rL⟩ := id hN
  refine gm_sz (gm_p_load (pc := 0) (i := .aload_n 0) (sr := 2) (j := 0) (by decide +kernel) rfl rfl rfl) ?_
  refine gm_sz (gm_p_const (pc := 1) (i := .iconst 0) (v := gm_vi 0) (by decide +kernel) (by decide +kernel)) ?_
  refine gm_sz (fw_pi (pc := 2) (ix := 3) (ci := 11) (j := 0) (M' := gm_uM M 226 0 0) (by decide +kernel) (e0k hE (k := 226) (c := 11) (by decide +kernel)) (by decide +kernel) (by decide +kernel) (by decide +kernel) rfl) ?_
  refine gm_sz (gm_p_load (pc := 5) (i := .aload_n 0) (sr := 2) (j := 0) (by decide +kernel) rfl rfl rfl) ?_
  refine gm_sz (gm_p_load (pc := 6) (i := .aload_n 0) (sr := 2) (j := 0) (by decide +kernel) rfl rfl rfl) ?_
  refine gm_sz (gm_p_load (pc := 7) (i := .iload_n 1) (sr := 0) (j := 1) (by decide +kernel) rfl rfl rfl) ?_
  refine gm_c_virt (k := 226) (ci := 11) (mj := 298) (ix := 393) (pc := 8) (as := [gm_vi p]) (st := [gm_vr 226]) (d' := d - 1) (bc' := 0) (bs' := 0) (by decide +kernel) (by decide +kernel) (by decide +kernel) (by decide +kernel) (e0k hE (k := 226) (c := 11) (by decide +kernel)).1 (e0k hE (k := 226) (c := 11) (by decide +kernel)).2 (by decide) (by decide +kernel) (show 1 = gm_na 298 by decide +kernel) (fw_c1 fw_si) (show 2 ≤ gm_ml 298 by decide +kernel) (Nat.le_of_ble_eq_true rfl) (by omega) (Nat.zero_le _) (Nat.zero_le _) ?_
  refine no_298 (i := p) (by omega) hE (tr_fr (W := [((226 : Nat), some (0 : Int))]) hT (fr_p fr_0 (Or.inr (by decide))) (by decide)) hN hf (fun n8 => ?_) (fun n8 => ?_)
  · show gm_Wp X LX d _ _ 317 11 _ [gm_vi 1, gm_vr 226] n K _ _ Q
    have n8 : ¬ (0 ≤ p ∧ p < N 3) := n8
    refine fw_iftd (cc := .ne) (pc := 11) (off := 16) (by decide +kernel) (by decide) ⟨by decide, by decide⟩ (by decide) ?_
    refine gm_sz (gm_p_const (pc := 27) (i := .iconst 1) (v := gm_vi 1) (by decide +kernel) (by decide +kernel)) ?_
    refine gm_sz (gm_p_goto (pc := 28) (off := 4) (by decide +kernel) (by decide)) ?_
    refine gm_sz (gm_p_const (pc := 32) (i := .iconst 1) (v := gm_vi 1) (by decide +kernel) (by decide +kernel)) ?_
    refine gm_c_virt (k := 226) (ci := 11) (mj := 282) (ix := 300) (pc := 33) (as := [gm_vi 1, gm_vi 1]) (st := []) (d' := d - 1) (bc' := 0) (bs' := 0) (by decide +kernel) (by decide +kernel) (by decide +kernel) (by decide +kernel) (e0k hE (k := 226) (c := 11) (by decide +kernel)).1 (e0k hE (k := 226) (c := 11) (by decide +kernel)).2 (by decide) (by decide +kernel) (show 2 = gm_na 282 by decide +kernel) (fw_c2 fw_si fw_si) (show 3 ≤ gm_ml 282 by decide +kernel) (Nat.le_of_ble_eq_true rfl) (by omega) (Nat.zero_le _) (Nat.zero_le _) ?_
    refine tf_1 hE ?_
    show gm_Wp X LX d _ _ 317 36 _ [gm_vi 1] n K _ _ Q
    refine fw_iffd (cc := .eq) (pc := 36) (off := 5) (by decide +kernel) (by decide) ⟨by decide, by decide⟩ (by decide) ?_
    refine gm_sz (gm_p_const (pc := 39) (i := .iconst 0) (v := gm_vi 0) (by decide +kernel) (by decide +kernel)) ?_
    exact gm_r_int (pc := 40) (by decide +kernel) (Or.inl (by decide +kernel)) (q3 (by omega) (gm_uM (gm_uM M 226 0 0) 226 0 1) (fr_p (fr_p fr_0 (Or.inr (by decide))) (Or.inr (by decide))) uM_at)
  · show gm_Wp X LX d _ _ 317 11 _ [gm_vi 0, gm_vr 226] n K _ _ Q
    have n8 : 0 ≤ p ∧ p < N 3 := n8
    refine fw_iffd (cc := .ne) (pc := 11) (off := 16) (by decide +kernel) (by decide) ⟨by decide, by decide⟩ (by decide) ?_
    refine gm_sz (gm_p_load (pc := 14) (i := .iload_n 2) (sr := 0) (j := 2) (by decide +kernel) rfl rfl rfl) ?_
    refine gm_sz (gm_p_const (pc := 15) (i := .iconst (-1)) (v := gm_vi (-1)) (by decide +kernel) (by decide +kernel)) ?_
    refine fw_ic (cc := .eq) (pc := 16) (off := 15) (by decide +kernel) (by decide) ht ⟨by decide, by decide⟩ (fun h16 => ?_) (fun h16 => ?_)
    · have h16 : l = (-1) := h16
      refine gm_sz (gm_p_const (pc := 31) (i := .iconst 0) (v := gm_vi 0) (by decide +kernel) (by decide +kernel)) ?_
      refine gm_sz (gm_p_const (pc := 32) (i := .iconst 1) (v := gm_vi 1) (by decide +kernel) (by decide +kernel)) ?_
      refine gm_c_virt (k := 226) (ci := 11) (mj := 282) (ix := 300) (pc := 33) (as := [gm_vi 0, gm_vi 1]) (st := []) (d' := d - 1) (bc' := 0) (bs' := 0) (by decide +kernel) (by decide +kernel) (by decide +kernel) (by decide +kernel) (e0k hE (k := 226) (c := 11) (by decide +kernel)).1 (e0k hE (k := 226) (c := 11) (by decide +kernel)).2 (by decide) (by decide +kernel) (show 2 = gm_na 282 by decide +kernel) (fw_c2 fw_si fw_si) (show 3 ≤ gm_ml 282 by decide +kernel) (Nat.le_of_ble_eq_true rfl) (by omega) (Nat.zero_le _) (Nat.zero_le _) ?_
      refine tf_0 hE ?_
      show gm_Wp X LX d _ _ 317 36 _ [gm_vi 0] n K _ _ Q
      refine fw_iftd (cc := .eq) (pc := 36) (off := 5) (by decide +kernel) (by decide) ⟨by decide, by decide⟩ (by decide) ?_
      refine gm_sz (gm_p_load (pc := 41) (i := .aload_n 0) (sr := 2) (j := 0) (by decide +kernel) rfl rfl rfl) ?_
      refine gm_c_virt (k := 226) (ci := 11) (mj := 316) (ix := 411) (pc := 42) (as := []) (st := []) (d' := d - 1) (bc' := 0) (bs' := 0) (by decide +kernel) (by decide +kernel) (by decide +kernel) (by decide +kernel) (e0k hE (k := 226) (c := 11) (by decide +kernel)).1 (e0k hE (k := 226) (c := 11) (by decide +kernel)).2 (by decide) (by decide +kernel) (show 0 = gm_na 316 by decide +kernel) fw_c0 (show 1 ≤ gm_ml 316 by decide +kernel) (Nat.le_of_ble_eq_true rfl) (by omega) (Nat.zero_le _) (Nat.zero_le _) ?_
      refine rm_c316 hE (tr_fr (W := [((226 : Nat), some (0 : Int))]) hT (fr_p fr_0 (Or.inr (by decide))) (by decide)).1 (by have h9 : HISR A (M 227 8) (gm_uM M 226 0 0) := hisr_w (W := [((226 : Nat), some (0 : Int))]) hH (fr_p fr_0 (Or.inr (by decide))) (by decide); rwa [show M 227 8 = (gm_uM M 226 0 0) 227 8 from ((uM_ne (by omega))).symm] at h9) (fun M42 hf42 hs42 => ?_)
      show gm_Wp X LX d _ _ 317 45 _ [] n K _ _ Q
      refine gm_sz (gm_p_load (pc := 45) (i := .aload_n 0) (sr := 2) (j := 0) (by decide +kernel) rfl rfl rfl) ?_
      refine gm_sz (gm_p_load (pc := 46) (i := .iload_n 1) (sr := 0) (j := 1) (by decide +kernel) rfl rfl rfl) ?_
      refine gm_sz (gm_p_const (pc := 47) (i := .iconst 2) (v := gm_vi 2) (by decide +kernel) (by decide +kernel)) ?_
      refine gm_c_virt (k := 226) (ci := 11) (mj := 299) (ix := 396) (pc := 48) (as := [gm_vi p, gm_vi 2]) (st := []) (d' := d - 1) (bc' := 0) (bs' := 0) (by decide +kernel) (by decide +kernel) (by decide +kernel) (by decide +kernel) (e0k hE (k := 226) (c := 11) (by decide +kernel)).1 (e0k hE (k := 226) (c := 11) (by decide +kernel)).2 (by decide) (by decide +kernel) (show 2 = gm_na 299 by decide +kernel) (fw_c2 fw_si fw_si) (show 3 ≤ gm_ml 299 by decide +kernel) (Nat.le_of_ble_eq_true rfl) (by omega) (Nat.zero_le _) (Nat.zero_le _) ?_
      refine re_of hE (tr_fr (W := [((226 : Nat), some (0 : Int)), ((226 : Nat), some (6 : Int)), ((230 : Nat), none)]) hT (fr_t (fr_p fr_0 (Or.inr (by decide))) hf42 (by decide)) (by decide)) hN ⟨by omega, by omega⟩ ⟨by omega, by omega⟩ ?_
      show gm_Wp X LX d _ _ 317 51 _ [gm_vi (N (95 + (p * 3 + 2)))] n K _ _ Q
      refine gm_sz (gm_p_stor (pc := 51) (i := .istore_n 3) (sr := 0) (j := 3) (by decide +kernel) rfl (show 4 ≤ _ from Nat.le_of_ble_eq_true rfl) rfl) ?_
      refine gm_sz (gm_p_load (pc := 52) (i := .aload_n 0) (sr := 2) (j := 0) (by decide +kernel) rfl rfl rfl) ?_
      refine gm_sz (fw_gr (pc := 53) (ix := 13) (ci := 11) (j := 1) (r := 227) (by decide +kernel) (e0k hE (k := 226) (c := 11) (by decide +kernel)) (by decide +kernel) (by decide +kernel) (e0r hE (k := 226) (j := 1) (r := 227) (by decide +kernel))) ?_
      refine gm_sz (gm_p_const (pc := 56) (i := .bipush 95) (v := gm_vi 95) (by decide +kernel) (by decide +kernel)) ?_
      refine gm_sz (gm_p_const (pc := 58) (i := .iconst 3) (v := gm_vi 3) (by decide +kernel) (by decide +kernel)) ?_
      refine gm_sz (gm_p_load (pc := 59) (i := .iload_n 1) (sr := 0) (j := 1) (by decide +kernel) rfl rfl rfl) ?_
      refine gm_sz (gm_p_bin (pc := 60) (i := .imul) (f := fun x y => x * y) (by decide +kernel) rfl) ?_
      refine gm_sz (gm_p_bin (pc := 61) (i := .iadd) (f := fun x y => x + y) (by decide +kernel) rfl) ?_
      refine gm_sz (gm_p_const (pc := 62) (i := .iconst 2) (v := gm_vi 2) (by decide +kernel) (by decide +kernel)) ?_
      refine gm_sz (gm_p_bin (pc := 63) (i := .iadd) (f := fun x y => x + y) (by decide +kernel) rfl) ?_
      refine gm_sz (gm_p_load (pc := 64) (i := .iload_n 2) (sr := 0) (j := 2) (by decide +kernel) rfl rfl rfl) ?_
      refine gm_sz (fw_is (pc := 65) (k := 227) (len := 2093) (e0 := (95 + (3 * p)) + 2) (x := l) (M' := gm_uM M42 227 ((95 + (3 * p)) + 2) l) (by decide +kernel) (e0a hE (k := 227) (q := ((0 : Nat), (2093 : Nat))) (by decide +kernel)).1 (e0a hE (k := 227) (q := ((0 : Nat), (2093 : Nat))) (by decide +kernel)).2 (by decide) ⟨by omega, by omega⟩ rfl) ?_
      refine gm_sz (gm_p_load (pc := 66) (i := .iload_n 3) (sr := 0) (j := 3) (by decide +kernel) rfl rfl rfl) ?_
      have t9 := (tr_fr (W := [((226 : Nat), some (0 : Int)), ((226 : Nat), some (6 : Int)), ((230 : Nat), none)]) hT (fr_t (fr_p fr_0 (Or.inr (by decide))) hf42 (by decide)) (by decide))
      have w9 : ws ((gm_uM M42 227 ((95 + (3 * p)) + 2) l) 227) = nwat N p l := by
        have e1 : (gm_uM M42 227 ((95 + (3 * p)) + 2) l) 227 = nup (M42 227) ((95 + (3 * p)) + 2) l := nup_s rfl
        rw [e1, ws_put (k := (95 + (3 * p)) + 2) ⟨by omega, by omega, by omega⟩, t9.1]
        unfold nwat
        rw [show (95 + (3 * p)) + 2 = 95 + (p * 3 + 2) by omega]
      have h9 := hisr_w (W := [((227 : Nat), none)]) hs42 (show fr [((227 : Nat), none)] M42 (gm_uM M42 227 ((95 + (3 * p)) + 2) l) from fr_p fr_0 (Or.inl (by decide))) (by decide)
      rw [show gm_uM M 226 0 0 227 8 = M 227 8 from uM_ne (by omega)] at h9
      exact gm_r_int (pc := 67) (by decide +kernel) (Or.inl (by decide +kernel)) (hq (by omega) (by omega) (gm_uM M42 227 ((95 + (3 * p)) + 2) l) (fr_p (fr_t (fr_p fr_0 (Or.inr (by decide))) hf42 (by decide)) (Or.inl (by decide))) h9 w9 (fun j hj => (uM_ne (by omega)).trans ((fr_c hf42 (by decide)).trans (uM_ne (by omega)))) ((uM_ne (by omega)).trans ((fr_c hf42 (by decide)).trans (uM_ne (by omega)))) ((uM_ne (by omega)).trans ((fr_j hf42 (by decide)).trans uM_at)))
    · have h16 : ¬ l = (-1) := h16
      refine gm_sz (gm_p_load (pc := 19) (i := .aload_n 0) (sr := 2) (j := 0) (by decide +kernel) rfl rfl rfl) ?_
      refine gm_sz (gm_p_load (pc := 20) (i := .iload_n 2) (sr := 0) (j := 2) (by decide +kernel) rfl rfl rfl) ?_
      refine gm_c_virt (k := 226) (ci := 11) (mj := 288) (ix := 356) (pc := 21) (as := [gm_vi l]) (st := [gm_vr 226]) (d' := d - 1) (bc' := 0) (bs' := 0) (by decide +kernel) (by decide +kernel) (by decide +kernel) (by decide +kernel) (e0k hE (k := 226) (c := 11) (by decide +kernel)).1 (e0k hE (k := 226) (c := 11) (by decide +kernel)).2 (by decide) (by decide +kernel) (show 1 = gm_na 288 by decide +kernel) (fw_c1 fw_si) (show 2 ≤ gm_ml 288 by decide +kernel) (Nat.le_of_ble_eq_true rfl) (by omega) (Nat.zero_le _) (Nat.zero_le _) ?_
      refine no_288 (i := l) (by omega) hE (tr_fr (W := [((226 : Nat), some (0 : Int))]) hT (fr_p fr_0 (Or.inr (by decide))) (by decide)) hN ht (fun n21 => ?_) (fun n21 => ?_)
      · show gm_Wp X LX d _ _ 317 24 _ [gm_vi 1, gm_vr 226] n K _ _ Q
        have n21 : ¬ (0 ≤ l ∧ l < N 0) := n21
        refine fw_iffd (cc := .eq) (pc := 24) (off := 7) (by decide +kernel) (by decide) ⟨by decide, by decide⟩ (by decide) ?_
        refine gm_sz (gm_p_const (pc := 27) (i := .iconst 1) (v := gm_vi 1) (by decide +kernel) (by decide +kernel)) ?_
        refine gm_sz (gm_p_goto (pc := 28) (off := 4) (by decide +kernel) (by decide)) ?_
        refine gm_sz (gm_p_const (pc := 32) (i := .iconst 1) (v := gm_vi 1) (by decide +kernel) (by decide +kernel)) ?_
        refine gm_c_virt (k := 226) (ci := 11) (mj := 282) (ix := 300) (pc := 33) (as := [gm_vi 1, gm_vi 1]) (st := []) (d' := d - 1) (bc' := 0) (bs' := 0) (by decide +kernel) (by decide +kernel) (by decide +kernel) (by decide +kernel) (e0k hE (k := 226) (c := 11) (by decide +kernel)).1 (e0k hE (k := 226) (c := 11) (by decide +kernel)).2 (by decide) (by decide +kernel) (show 2 = gm_na 282 by decide +kernel) (fw_c2 fw_si fw_si) (show 3 ≤ gm_ml 282 by decide +kernel) (Nat.le_of_ble_eq_true rfl) (by omega) (Nat.zero_le _) (Nat.zero_le _) ?_
        refine tf_1 hE ?_
        show gm_Wp X LX d _ _ 317 36 _ [gm_vi 1] n K _ _ Q
        refine fw_iffd (cc := .eq) (pc := 36) (off := 5) (by decide +kernel) (by decide) ⟨by decide, by decide⟩ (by decide) ?_
        refine gm_sz (gm_p_const (pc := 39) (i := .iconst 0) (v := gm_vi 0) (by decide +kernel) (by decide +kernel)) ?_
        exact gm_r_int (pc := 40) (by decide +kernel) (Or.inl (by decide +kernel)) (q3 (by omega) (gm_uM (gm_uM M 226 0 0) 226 0 1) (fr_p (fr_p fr_0 (Or.inr (by decide))) (Or.inr (by decide))) uM_at)
      · show gm_Wp X LX d _ _ 317 24 _ [gm_vi 0, gm_vr 226] n K _ _ Q
        have n21 : 0 ≤ l ∧ l < N 0 := n21
        refine fw_iftd (cc := .eq) (pc := 24) (off := 7) (by decide +kernel) (by decide) ⟨by decide, by decide⟩ (by decide) ?_
        refine gm_sz (gm_p_const (pc := 31) (i := .iconst 0) (v := gm_vi 0) (by decide +kernel) (by decide +kernel)) ?_
        refine gm_sz (gm_p_const (pc := 32) (i := .iconst 1) (v := gm_vi 1) (by decide +kernel) (by decide +kernel)) ?_
        refine gm_c_virt (k := 226) (ci := 11) (mj := 282) (ix := 300) (pc := 33) (as := [gm_vi 0, gm_vi 1]) (st := []) (d' := d - 1) (bc' := 0) (bs' := 0) (by decide +kernel) (by decide +kernel) (by decide +kernel) (by decide +kernel) (e0k hE (k := 226) (c := 11) (by decide +kernel)).1 (e0k hE (k := 226) (c := 11) (by decide +kernel)).2 (by decide) (by decide +kernel) (show 2 = gm_na 282 by decide +kernel) (fw_c2 fw_si fw_si) (show 3 ≤ gm_ml 282 by decide +kernel) (Nat.le_of_ble_eq_true rfl) (by omega) (Nat.zero_le _) (Nat.zero_le _) ?_
        refine tf_0 hE ?_
        show gm_Wp X LX d _ _ 317 36 _ [gm_vi 0] n K _ _ Q
        refine fw_iftd (cc := .eq) (pc := 36) (off := 5) (by decide +kernel) (by decide) ⟨by decide, by decide⟩ (by decide) ?_
        refine gm_sz (gm_p_load (pc := 41) (i := .aload_n 0) (sr := 2) (j := 0) (by decide +kernel) rfl rfl rfl) ?_
        refine gm_c_virt (k := 226) (ci := 11) (mj := 316) (ix := 411) (pc := 42) (as := []) (st := []) (d' := d - 1) (bc' := 0) (bs' := 0) (by decide +kernel) (by decide +kernel) (by decide +kernel) (by decide +kernel) (e0k hE (k := 226) (c := 11) (by decide +kernel)).1 (e0k hE (k := 226) (c := 11) (by decide +kernel)).2 (by decide) (by decide +kernel) (show 0 = gm_na 316 by decide +kernel) fw_c0 (show 1 ≤ gm_ml 316 by decide +kernel) (Nat.le_of_ble_eq_true rfl) (by omega) (Nat.zero_le _) (Nat.zero_le _) ?_
        refine rm_c316 hE (tr_fr (W := [((226 : Nat), some (0 : Int))]) hT (fr_p fr_0 (Or.inr (by decide))) (by decide)).1 (by have h9 : HISR A (M 227 8) (gm_uM M 226 0 0) := hisr_w (W := [((226 : Nat), some (0 : Int))]) hH (fr_p fr_0 (Or.inr (by decide))) (by decide); rwa [show M 227 8 = (gm_uM M 226 0 0) 227 8 from ((uM_ne (by omega))).symm] at h9) (fun M42 hf42 hs42 => ?_)
        show gm_Wp X LX d _ _ 317 45 _ [] n K _ _ Q
        refine gm_sz (gm_p_load (pc := 45) (i := .aload_n 0) (sr := 2) (j := 0) (by decide +kernel) rfl rfl rfl) ?_
        refine gm_sz (gm_p_load (pc := 46) (i := .iload_n 1) (sr := 0) (j := 1) (by decide +kernel) rfl rfl rfl) ?_
        refine gm_sz (gm_p_const (pc := 47) (i := .iconst 2) (v := gm_vi 2) (by decide +kernel) (by decide +kernel)) ?_
        refine gm_c_virt (k := 226) (ci := 11) (mj := 299) (ix := 396) (pc := 48) (as := [gm_vi p, gm_vi 2]) (st := []) (d' := d - 1) (bc' := 0) (bs' := 0) (by decide +kernel) (by decide +kernel) (by decide +kernel) (by decide +kernel) (e0k hE (k := 226) (c := 11) (by decide +kernel)).1 (e0k hE (k := 226) (c := 11) (by decide +kernel)).2 (by decide) (by decide +kernel) (show 2 = gm_na 299 by decide +kernel) (fw_c2 fw_si fw_si) (show 3 ≤ gm_ml 299 by decide +kernel) (Nat.le_of_ble_eq_true rfl) (by omega) (Nat.zero_le _) (Nat.zero_le _) ?_
        refine re_of hE (tr_fr (W := [((226 : Nat), some (0 : Int)), ((226 : Nat), some (6 : Int)), ((230 : Nat), none)]) hT (fr_t (fr_p fr_0 (Or.inr (by decide))) hf42 (by decide)) (by decide)) hN ⟨by omega, by omega⟩ ⟨by omega, by omega⟩ ?_
        show gm_Wp X LX d _ _ 317 51 _ [gm_vi (N (95 + (p * 3 + 2)))] n K _ _ Q
        refine gm_sz (gm_p_stor (pc := 51) (i := .istore_n 3) (sr := 0) (j := 3) (by decide +kernel) rfl (show 4 ≤ _ from Nat.le_of_ble_eq_true rfl) rfl) ?_
        refine gm_sz (gm_p_load (pc := 52) (i := .aload_n 0) (sr := 2) (j := 0) (by decide +kernel) rfl rfl rfl) ?_
        refine gm_sz (fw_gr (pc := 53) (ix := 13) (ci := 11) (j := 1) (r := 227) (by decide +kernel) (e0k hE (k := 226) (c := 11) (by decide +kernel)) (by decide +kernel) (by decide +kernel) (e0r hE (k := 226) (j := 1) (r := 227) (by decide +kernel))) ?_
        refine gm_sz (gm_p_const (pc := 56) (i := .bipush 95) (v := gm_vi 95) (by decide +kernel) (by decide +kernel)) ?_
        refine gm_sz (gm_p_const (pc := 58) (i := .iconst 3) (v := gm_vi 3) (by decide +kernel) (by decide +kernel)) ?_
        refine gm_sz (gm_p_load (pc := 59) (i := .iload_n 1) (sr := 0) (j := 1) (by decide +kernel) rfl rfl rfl) ?_
        refine gm_sz (gm_p_bin (pc := 60) (i := .imul) (f := fun x y => x * y) (by decide +kernel) rfl) ?_
        refine gm_sz (gm_p_bin (pc := 61) (i := .iadd) (f := fun x y => x + y) (by decide +kernel) rfl) ?_
        refine gm_sz (gm_p_const (pc := 62) (i := .iconst 2) (v := gm_vi 2) (by decide +kernel) (by decide +kernel)) ?_
        refine gm_sz (gm_p_bin (pc := 63) (i := .iadd) (f := fun x y => x + y) (by decide +kernel) rfl) ?_
        refine gm_sz (gm_p_load (pc := 64) (i := .iload_n 2) (sr := 0) (j := 2) (by decide +kernel) rfl rfl rfl) ?_
        refine gm_sz (fw_is (pc := 65) (k := 227) (len := 2093) (e0 := (95 + (3 * p)) + 2) (x := l) (M' := gm_uM M42 227 ((95 + (3 * p)) + 2) l) (by decide +kernel) (e0a hE (k := 227) (q := ((0 : Nat), (2093 : Nat))) (by decide +kernel)).1 (e0a hE (k := 227) (q := ((0 : Nat), (2093 : Nat))) (by decide +kernel)).2 (by decide) ⟨by omega, by omega⟩ rfl) ?_
        refine gm_sz (gm_p_load (pc := 66) (i := .iload_n 3) (sr := 0) (j := 3) (by decide +kernel) rfl rfl rfl) ?_
        have t9 := (tr_fr (W := [((226 : Nat), some (0 : Int)), ((226 : Nat), some (6 : Int)), ((230 : Nat), none)]) hT (fr_t (fr_p fr_0 (Or.inr (by decide))) hf42 (by decide)) (by decide))
        have w9 : ws ((gm_uM M42 227 ((95 + (3 * p)) + 2) l) 227) = nwat N p l := by
          have e1 : (gm_uM M42 227 ((95 + (3 * p)) + 2) l) 227 = nup (M42 227) ((95 + (3 * p)) + 2) l := nup_s rfl
          rw [e1, ws_put (k := (95 + (3 * p)) + 2) ⟨by omega, by omega, by omega⟩, t9.1]
          unfold nwat
          rw [show (95 + (3 * p)) + 2 = 95 + (p * 3 + 2) by omega]
        have h9 := hisr_w (W := [((227 : Nat), none)]) hs42 (show fr [((227 : Nat), none)] M42 (gm_uM M42 227 ((95 + (3 * p)) + 2) l) from fr_p fr_0 (Or.inl (by decide))) (by decide)
        rw [show gm_uM M 226 0 0 227 8 = M 227 8 from uM_ne (by omega)] at h9
        exact gm_r_int (pc := 67) (by decide +kernel) (Or.inl (by decide +kernel)) (hq (by omega) (by omega) (gm_uM M42 227 ((95 + (3 * p)) + 2) l) (fr_p (fr_t (fr_p fr_0 (Or.inr (by decide))) hf42 (by decide)) (Or.inl (by decide))) h9 w9 (fun j hj => (uM_ne (by omega)).trans ((fr_c hf42 (by decide)).trans (uM_ne (by omega)))) ((uM_ne (by omega)).trans ((fr_c hf42 (by decide)).trans (uM_ne (by omega)))) ((uM_ne (by omega)).trans ((fr_j hf42 (by decide)).trans uM_at)))
theorem re_ol9 (hE : E0 n K R) (h1 : 0 ≤ l ∧ l < 24) (h2 : 0 ≤ c ∧ c < 7) (hv : M 227 (119 + (7 * l) + c) = v) (hq : Q (.inl (some (gm_vi v))) n K R M) : gm_Wp X LX d bc bs 301 0 (gm_ent 301 [gm_vr 226, gm_vi l, gm_vi c]) [] n K R M Q := by
  refine gm_sz (gm_p_load (pc := 0) (i := .aload_n 0) (sr := 2) (j := 0) (by decide +kernel) rfl rfl rfl) ?_
  refine gm_sz (fw_gr (pc := 1) (ix := 13) (ci := 11) (j := 1) (r := 227) (by decide +kernel) (e0k hE (k := 226) (c := 11) (by decide +kernel)) (by decide +kernel) (by decide +kernel) (e0r hE (k := 226) (j := 1) (r := 227) (by decide +kernel))) ?_
  refine gm_sz (gm_p_const (pc := 4) (i := .bipush 119) (v := gm_vi 119) (by decide +kernel) (by decide +kernel)) ?_
  refine gm_sz (gm_p_const (pc := 6) (i := .bipush 7) (v := gm_vi 7) (by decide +kernel) (by decide +kernel)) ?_
  refine gm_sz (gm_p_load (pc := 8) (i := .iload_n 1) (sr := 0) (j := 1) (by decide +kernel) rfl rfl rfl) ?_
  refine gm_sz (gm_p_bin (pc := 9) (i := .imul) (f := fun x y => x * y) (by decide +kernel) rfl) ?_
  refine gm_sz (gm_p_bin (pc := 10) (i := .iadd) (f := fun x y => x + y) (by decide +kernel) rfl) ?_
  refine gm_sz (gm_p_load (pc := 11) (i := .iload_n 2) (sr := 0) (j := 2) (by decide +kernel) rfl rfl rfl) ?_
  refine gm_sz (gm_p_bin (pc := 12) (i := .iadd) (f := fun x y => x + y) (by decide +kernel) rfl) ?_
  refine gm_sz (fw_ia (pc := 13) (k := 227) (len := 2093) (e0 := (119 + (7 * l)) + c) (x := v) (by decide +kernel) (e0a hE (k := 227) (q := ((0 : Nat), (2093 : Nat))) (by decide +kernel)).1 (e0a hE (k := 227) (q := ((0 : Nat), (2093 : Nat))) (by decide +kernel)).2 (by decide) ⟨by omega, by omega⟩ hv) ?_
  exact gm_r_int (pc := 14) (by decide +kernel) (Or.inl (by decide +kernel)) hq
theorem nopn_9 {M2 : gm_M} (h9 : ws (M2 227) = nopn N l p) (hN : NR N) (hg : LOGI N) (hl : 0 ≤ l ∧ l < N 4) (h5 : (N (119 + (l * 7 + 5))) = -1) : M2 227 9 = N 9 := by
  have e1 : M2 227 9 = ws (M2 227) 9 := rfl
  have b4 := hN.2.1.2.2.2.1
  rw [e1, h9]
  exact nopn_o (by decide) (by decide) ⟨hl.1, by omega⟩ (logi_lt hN hg hl h5)
theorem nopn_y {M2 : gm_M} (h9 : ws (M2 227) = nopn N l p) (hN : NR N) (hg : LOGI N) (hl : 0 ≤ l ∧ l < N 4) (h5 : (N (119 + (l * 7 + 5))) = -1) {j : Int} (hj : j = 119 + (l * 7 + 3)) : M2 227 j = (N (119 + (l * 7 + 3))) := by
  have b4 := hN.2.1.2.2.2.1
  have e1 : M2 227 j = ws (M2 227) j := by
    unfold ws
    rw [if_pos ⟨by omega, by omega, by omega⟩]
  rw [e1, h9, hj]
  have h := nopn_L (N := N) (l := l) (p := p) (k := l) (c := 3) ⟨hl.1, by omega⟩ (logi_lt hN hg hl h5) ⟨hl.1, by omega⟩ (by decide)
  rw [if_neg (by omega), if_neg (by omega)] at h
  exact h
theorem ra_318 (hd : 20 ≤ d) (hE : E0 n K R) (hT : TR N h M) (hN : NR N) (hg : LOGI N) (hH : HISR A (M 227 8) M) (hfw : FLR X LX n K R N h FI φ) (hI : FI M) (hl : gm_ir l) (ho : 0 ≤ l ∧ l < N 4 → OUTR N h φ l (o l) (dd l)) (q3 : ¬ (0 ≤ l ∧ l < N 4) → ∀ M2, fr [((226 : Nat), some (0 : Int))] M M2 → M2 226 0 = 1 → Q (.inl (some (gm_vi 0))) n K R M2) (q2 : 0 ≤ l ∧ l < N 4 → ¬ WTS N l (o l) → ∀ M2, fr [((226 : Nat), some (0 : Int)), ((226 : Nat), some (29 : Int)), ((226 : Nat), some (30 : Int)), ((226 : Nat), some (26 : Int)), ((226 : Nat), some (17 : Int)), ((226 : Nat), some (18 : Int)), ((226 : Nat), some (19 : Int)), ((226 : Nat), some (20 : Int)), ((226 : Nat), some (21 : Int)), ((226 : Nat), some (22 : Int)), ((226 : Nat), some (23 : Int)), ((235 : Nat), none), ((233 : Nat), none), ((236 : Nat), none), ((237 : Nat), none)] M M2 → FI M2 → M2 226 0 = 2 → Q (.inl (some (gm_vi 0))) n K R M2) (hq : 0 ≤ l ∧ l < N 4 → WTS N l (o l) → ∀ M1 M2 : gm_M, FI M1 → fr [((226 : Nat), some (6 : Int)), ((230 : Nat), none), ((227 : Nat), none)] M1 M2 → fr [((226 : Nat), some (0 : Int)), ((226 : Nat), some (29 : Int)), ((226 : Nat), some (30 : Int)), ((226 : Nat), some (26 : Int)), ((226 : Nat), some (17 : Int)), ((226 : Nat), some (18 : Int)), ((226 : Nat), some (19 : Int)), ((226 : Nat), some (20 : Int)), ((226 : Nat), some (21 : Int)), ((226 : Nat), some (22 : Int)), ((226 : Nat), some (23 : Int)), ((235 : Nat), none), ((233 : Nat), none), ((236 : Nat), none), ((237 : Nat), none), ((226 : Nat), some (6 : Int)), ((230 : Nat), none), ((227 : Nat), none)] M M2 → HISR ((N :: A).take 12) (M 227 8) M2 → ws (M2 227) = nopn N l ((N (119 + (l * 7 + 1)))) → (∀ j, 395 ≤ j → M2 227 j = M 227 j) → M2 227 8 = M 227 8 → M2 226 0 = 0 → Q (.inl (some (gm_vi (N 9 - (N (119 + (l * 7 + 3))))))) n K R M2) : gm_Wp X LX d bc bs 318 0 (gm_ent 318 [gm_vr 226, gm_vi l]) [] n K R M Q := by
  obtain ⟨⟨⟨a0, b0⟩, ⟨a1, b1⟩, ⟨a10, b10⟩, ⟨a11, b11⟩, ⟨a12, b12⟩, a9, b9⟩, ⟨⟨a2, b2⟩, ⟨a5, b5⟩, ⟨a3, b3⟩, ⟨a4, b4⟩, ⟨a6, b6⟩, ⟨a14, b14⟩, ⟨a7, b7⟩, a13, b13⟩, rF, rP, rL⟩ := id hN
  refine gm_sz (gm_p_load (pc := 0) (i := .aload_n 0) (sr := 2) (j := 0) (by decide +kernel) rfl rfl rfl) ?_
  refine gm_sz (gm_p_const (pc := 1) (i := .iconst 0) (v := gm_vi 0) (by decide +kernel) (by decide +kernel)) ?_
  refine gm_sz (fw_pi (pc := 2) (ix := 3) (ci := 11) (j := 0) (M' := gm_uM M 226 0 0) (by decide +kernel) (e0k hE (k := 226) (c := 11) (by decide +kernel)) (by decide +kernel) (by decide +kernel) (by decide +kernel) rfl) ?_
  refine gm_sz (gm_p_load (pc := 5) (i := .aload_n 0) (sr := 2) (j := 0) (by decide +kernel) rfl rfl rfl) ?_
  refine gm_sz (gm_p_load (pc := 6) (i := .aload_n 0) (sr := 2) (j := 0) (by decide +kernel) rfl rfl rfl) ?_
  refine gm_sz (gm_p_load (pc := 7) (i := .iload_n 1) (sr := 0) (j := 1) (by decide +kernel) rfl rfl rfl) ?_
  refine gm_c_virt (k := 226) (ci := 11) (mj := 309) (ix := 405) (pc := 8) (as := [gm_vi l]) (st := [gm_vr 226]) (d' := d - 1) (bc' := 0) (bs' := 0) (by decide +kernel) (by decide +kernel) (by decide +kernel) (by decide +kernel) (e0k hE (k := 226) (c := 11) (by decide +kernel)).1 (e0k hE (k := 226) (c := 11) (by decide +kernel)).2 (by decide) (by decide +kernel) (show 1 = gm_na 309 by decide +kernel) (fw_c1 fw_si) (show 2 ≤ gm_ml 309 by decide +kernel) (Nat.le_of_ble_eq_true rfl) (by omega) (Nat.zero_le _) (Nat.zero_le _) ?_
  refine no_309 (i := l) (by omega) hE (tr_fr (W := [((226 : Nat), some (0 : Int))]) hT (fr_p fr_0 (Or.inr (by decide))) (by decide)) hN hl (fun n8 => ?_) (fun n8 => ?_)
  · show gm_Wp X LX d _ _ 318 11 _ [gm_vi 1, gm_vr 226] n K _ _ Q
    have n8 : ¬ (0 ≤ l ∧ l < N 4) := n8
    refine gm_sz (gm_p_const (pc := 11) (i := .iconst 1) (v := gm_vi 1) (by decide +kernel) (by decide +kernel)) ?_
    refine gm_c_virt (k := 226) (ci := 11) (mj := 282) (ix := 300) (pc := 12) (as := [gm_vi 1, gm_vi 1]) (st := []) (d' := d - 1) (bc' := 0) (bs' := 0) (by decide +kernel) (by decide +kernel) (by decide +kernel) (by decide +kernel) (e0k hE (k := 226) (c := 11) (by decide +kernel)).1 (e0k hE (k := 226) (c := 11) (by decide +kernel)).2 (by decide) (by decide +kernel) (show 2 = gm_na 282 by decide +kernel) (fw_c2 fw_si fw_si) (show 3 ≤ gm_ml 282 by decide +kernel) (Nat.le_of_ble_eq_true rfl) (by omega) (Nat.zero_le _) (Nat.zero_le _) ?_
    refine tf_1 hE ?_
    show gm_Wp X LX d _ _ 318 15 _ [gm_vi 1] n K _ _ Q
    refine fw_iftd (cc := .ne) (pc := 15) (off := 24) (by decide +kernel) (by decide) ⟨by decide, by decide⟩ (by decide) ?_
    refine gm_sz (gm_p_const (pc := 39) (i := .iconst 0) (v := gm_vi 0) (by decide +kernel) (by decide +kernel)) ?_
    exact gm_r_int (pc := 40) (by decide +kernel) (Or.inl (by decide +kernel)) (q3 (by omega) (gm_uM (gm_uM M 226 0 0) 226 0 1) (fr_p (fr_p fr_0 (Or.inr (by decide))) (Or.inr (by decide))) uM_at)
  · show gm_Wp X LX d _ _ 318 11 _ [gm_vi 0, gm_vr 226] n K _ _ Q
    have n8 : 0 ≤ l ∧ l < N 4 := n8
    refine gm_sz (gm_p_const (pc := 11) (i := .iconst 1) (v := gm_vi 1) (by decide +kernel) (by decide +kernel)) ?_
    refine gm_c_virt (k := 226) (ci := 11) (mj := 282) (ix := 300) (pc := 12) (as := [gm_vi 0, gm_vi 1]) (st := []) (d' := d - 1) (bc' := 0) (bs' := 0) (by decide +kernel) (by decide +kernel) (by decide +kernel) (by decide +kernel) (e0k hE (k := 226) (c := 11) (by decide +kernel)).1 (e0k hE (k := 226) (c := 11) (by decide +kernel)).2 (by decide) (by decide +kernel) (show 2 = gm_na 282 by decide +kernel) (fw_c2 fw_si fw_si) (show 3 ≤ gm_ml 282 by decide +kernel) (Nat.le_of_ble_eq_true rfl) (by omega) (Nat.zero_le _) (Nat.zero_le _) ?_
    refine tf_0 hE ?_
    show gm_Wp X LX d _ _ 318 15 _ [gm_vi 0] n K _ _ Q
    refine fw_iffd (cc := .ne) (pc := 15) (off := 24) (by decide +kernel) (by decide) ⟨by decide, by decide⟩ (by decide) ?_
    refine gm_sz (gm_p_load (pc := 18) (i := .aload_n 0) (sr := 2) (j := 0) (by decide +kernel) rfl rfl rfl) ?_
    refine gm_sz (gm_p_load (pc := 19) (i := .aload_n 0) (sr := 2) (j := 0) (by decide +kernel) rfl rfl rfl) ?_
    refine gm_sz (gm_p_load (pc := 20) (i := .iload_n 1) (sr := 0) (j := 1) (by decide +kernel) rfl rfl rfl) ?_
    refine gm_c_virt (k := 226) (ci := 11) (mj := 302) (ix := 390) (pc := 21) (as := [gm_vi l]) (st := [gm_vr 226]) (d' := d - 1) (bc' := 0) (bs' := 0) (by decide +kernel) (by decide +kernel) (by decide +kernel) (by decide +kernel) (e0k hE (k := 226) (c := 11) (by decide +kernel)).1 (e0k hE (k := 226) (c := 11) (by decide +kernel)).2 (by decide) (by decide +kernel) (show 1 = gm_na 302 by decide +kernel) (fw_c1 fw_si) (show 2 ≤ gm_ml 302 by decide +kernel) (Nat.le_of_ble_eq_true rfl) (by omega) (Nat.zero_le _) (Nat.zero_le _) ?_
    refine rw_c302 (o := o) (dd := dd) (by omega) hE (tr_fr (W := [((226 : Nat), some (0 : Int))]) hT (fr_p fr_0 (Or.inr (by decide))) (by decide)) hN hfw (hfw.2.1 [((226 : Nat), some (0 : Int))] _ _ (by decide) (fr_p fr_0 (Or.inr (by decide))) hI) n8 (ho n8) (fun v21 M21 hf21 hI21 e29 e37 => ?_) (fun v21 M21 hf21 hI21 => ?_)
    · show gm_Wp X LX d _ _ 318 24 _ [gm_vi 1, gm_vr 226] n K _ _ Q
      refine fw_iftd (cc := .ne) (pc := 24) (off := 7) (by decide +kernel) (by decide) ⟨by decide, by decide⟩ (by decide) ?_
      refine gm_sz (gm_p_const (pc := 31) (i := .iconst 0) (v := gm_vi 0) (by decide +kernel) (by decide +kernel)) ?_
      refine gm_sz (gm_p_const (pc := 32) (i := .iconst 2) (v := gm_vi 2) (by decide +kernel) (by decide +kernel)) ?_
      refine gm_c_virt (k := 226) (ci := 11) (mj := 282) (ix := 300) (pc := 33) (as := [gm_vi 0, gm_vi 2]) (st := []) (d' := d - 1) (bc' := 0) (bs' := 0) (by decide +kernel) (by decide +kernel) (by decide +kernel) (by decide +kernel) (e0k hE (k := 226) (c := 11) (by decide +kernel)).1 (e0k hE (k := 226) (c := 11) (by decide +kernel)).2 (by decide) (by decide +kernel) (show 2 = gm_na 282 by decide +kernel) (fw_c2 fw_si fw_si) (show 3 ≤ gm_ml 282 by decide +kernel) (Nat.le_of_ble_eq_true rfl) (by omega) (Nat.zero_le _) (Nat.zero_le _) ?_
      refine tf_0 hE ?_
      show gm_Wp X LX d _ _ 318 36 _ [gm_vi 0] n K _ _ Q
      refine fw_iftd (cc := .eq) (pc := 36) (off := 5) (by decide +kernel) (by decide) ⟨by decide, by decide⟩ (by decide) ?_
      refine gm_sz (gm_p_load (pc := 41) (i := .aload_n 0) (sr := 2) (j := 0) (by decide +kernel) rfl rfl rfl) ?_
      refine gm_c_virt (k := 226) (ci := 11) (mj := 316) (ix := 411) (pc := 42) (as := []) (st := []) (d' := d - 1) (bc' := 0) (bs' := 0) (by decide +kernel) (by decide +kernel) (by decide +kernel) (by decide +kernel) (e0k hE (k := 226) (c := 11) (by decide +kernel)).1 (e0k hE (k := 226) (c := 11) (by decide +kernel)).2 (by decide) (by decide +kernel) (show 0 = gm_na 316 by decide +kernel) fw_c0 (show 1 ≤ gm_ml 316 by decide +kernel) (Nat.le_of_ble_eq_true rfl) (by omega) (Nat.zero_le _) (Nat.zero_le _) ?_
      refine rm_c316 hE (tr_fr (W := [((226 : Nat), some (0 : Int)), ((226 : Nat), some (29 : Int)), ((226 : Nat), some (30 : Int)), ((226 : Nat), some (26 : Int)), ((226 : Nat), some (17 : Int)), ((226 : Nat), some (18 : Int)), ((226 : Nat), some (19 : Int)), ((226 : Nat), some (20 : Int)), ((226 : Nat), some (21 : Int)), ((226 : Nat), some (22 : Int)), ((226 : Nat), some (23 : Int)), ((235 : Nat), none), ((233 : Nat), none), ((236 : Nat), none), ((237 : Nat), none)]) hT (fr_t (fr_p fr_0 (Or.inr (by decide))) hf21 (by decide)) (by decide)).1 (by have h9 : HISR A (M 227 8) M21 := hisr_w (W := [((226 : Nat), some (0 : Int)), ((226 : Nat), some (29 : Int)), ((226 : Nat), some (30 : Int)), ((226 : Nat), some (26 : Int)), ((226 : Nat), some (17 : Int)), ((226 : Nat), some (18 : Int)), ((226 : Nat), some (19 : Int)), ((226 : Nat), some (20 : Int)), ((226 : Nat), some (21 : Int)), ((226 : Nat), some (22 : Int)), ((226 : Nat), some (23 : Int)), ((235 : Nat), none), ((233 : Nat), none), ((236 : Nat), none), ((237 : Nat), none)]) hH (fr_t (fr_p fr_0 (Or.inr (by decide))) hf21 (by decide)) (by decide); rwa [show M 227 8 = M21 227 8 from (((fr_c hf21 (by decide)).trans (uM_ne (by omega)))).symm] at h9) (fun M42 hf42 hs42 => ?_)
      show gm_Wp X LX d _ _ 318 45 _ [] n K _ _ Q
      refine gm_sz (gm_p_load (pc := 45) (i := .aload_n 0) (sr := 2) (j := 0) (by decide +kernel) rfl rfl rfl) ?_
      refine gm_sz (gm_p_load (pc := 46) (i := .iload_n 1) (sr := 0) (j := 1) (by decide +kernel) rfl rfl rfl) ?_
      refine gm_sz (gm_p_load (pc := 47) (i := .aload_n 0) (sr := 2) (j := 0) (by decide +kernel) rfl rfl rfl) ?_
      refine gm_sz (gm_p_load (pc := 48) (i := .iload_n 1) (sr := 0) (j := 1) (by decide +kernel) rfl rfl rfl) ?_
      refine gm_sz (gm_p_const (pc := 49) (i := .iconst 1) (v := gm_vi 1) (by decide +kernel) (by decide +kernel)) ?_
      refine gm_c_virt (k := 226) (ci := 11) (mj := 301) (ix := 82) (pc := 50) (as := [gm_vi l, gm_vi 1]) (st := [gm_vi l, gm_vr 226]) (d' := d - 1) (bc' := 0) (bs' := 0) (by decide +kernel) (by decide +kernel) (by decide +kernel) (by decide +kernel) (e0k hE (k := 226) (c := 11) (by decide +kernel)).1 (e0k hE (k := 226) (c := 11) (by decide +kernel)).2 (by decide) (by decide +kernel) (show 2 = gm_na 301 by decide +kernel) (fw_c2 fw_si fw_si) (show 3 ≤ gm_ml 301 by decide +kernel) (Nat.le_of_ble_eq_true rfl) (by omega) (Nat.zero_le _) (Nat.zero_le _) ?_
      refine re_ol hE (tr_fr (W := [((226 : Nat), some (0 : Int)), ((226 : Nat), some (29 : Int)), ((226 : Nat), some (30 : Int)), ((226 : Nat), some (26 : Int)), ((226 : Nat), some (17 : Int)), ((226 : Nat), some (18 : Int)), ((226 : Nat), some (19 : Int)), ((226 : Nat), some (20 : Int)), ((226 : Nat), some (21 : Int)), ((226 : Nat), some (22 : Int)), ((226 : Nat), some (23 : Int)), ((235 : Nat), none), ((233 : Nat), none), ((236 : Nat), none), ((237 : Nat), none), ((226 : Nat), some (6 : Int)), ((230 : Nat), none)]) hT (fr_t (fr_t (fr_p fr_0 (Or.inr (by decide))) hf21 (by decide)) hf42 (by decide)) (by decide)) hN ⟨by omega, by omega⟩ ⟨by omega, by omega⟩ ?_
      show gm_Wp X LX d _ _ 318 53 _ [gm_vi (N (119 + (l * 7 + 1))), gm_vi l, gm_vr 226] n K _ _ Q
      refine gm_c_virt (k := 226) (ci := 11) (mj := 319) (ix := 414) (pc := 53) (as := [gm_vi l, gm_vi (N (119 + (l * 7 + 1)))]) (st := []) (d' := d - 1) (bc' := 0) (bs' := 0) (by decide +kernel) (by decide +kernel) (by decide +kernel) (by decide +kernel) (e0k hE (k := 226) (c := 11) (by decide +kernel)).1 (e0k hE (k := 226) (c := 11) (by decide +kernel)).2 (by decide) (by decide +kernel) (show 2 = gm_na 319 by decide +kernel) (fw_c2 fw_si fw_si) (show 3 ≤ gm_ml 319 by decide +kernel) (Nat.le_of_ble_eq_true rfl) (by omega) (Nat.zero_le _) (Nat.zero_le _) ?_
      refine re_op (by omega) hE (tr_fr (W := [((226 : Nat), some (0 : Int)), ((226 : Nat), some (29 : Int)), ((226 : Nat), some (30 : Int)), ((226 : Nat), some (26 : Int)), ((226 : Nat), some (17 : Int)), ((226 : Nat), some (18 : Int)), ((226 : Nat), some (19 : Int)), ((226 : Nat), some (20 : Int)), ((226 : Nat), some (21 : Int)), ((226 : Nat), some (22 : Int)), ((226 : Nat), some (23 : Int)), ((235 : Nat), none), ((233 : Nat), none), ((236 : Nat), none), ((237 : Nat), none), ((226 : Nat), some (6 : Int)), ((230 : Nat), none)]) hT (fr_t (fr_t (fr_p fr_0 (Or.inr (by decide))) hf21 (by decide)) hf42 (by decide)) (by decide)) hN ⟨by omega, by omega⟩ (logi_lt hN hg n8 v21.2.1) (fun M53 hf53 hw53 hg53 h853 => ?_)
      show gm_Wp X LX d _ _ 318 56 _ [] n K _ _ Q
      refine gm_sz (gm_p_load (pc := 56) (i := .aload_n 0) (sr := 2) (j := 0) (by decide +kernel) rfl rfl rfl) ?_
      refine gm_c_virt (k := 226) (ci := 11) (mj := 266) (ix := 162) (pc := 57) (as := []) (st := []) (d' := d - 1) (bc' := 0) (bs' := 0) (by decide +kernel) (by decide +kernel) (by decide +kernel) (by decide +kernel) (e0k hE (k := 226) (c := 11) (by decide +kernel)).1 (e0k hE (k := 226) (c := 11) (by decide +kernel)).2 (by decide) (by decide +kernel) (show 0 = gm_na 266 by decide +kernel) fw_c0 (show 1 ≤ gm_ml 266 by decide +kernel) (Nat.le_of_ble_eq_true rfl) (by omega) (Nat.zero_le _) (Nat.zero_le _) ?_
      refine re_now9 hE (nopn_9 hw53 hN hg n8 v21.2.1) ?_
      show gm_Wp X LX d _ _ 318 60 _ [gm_vi (N 9)] n K _ _ Q
      refine gm_sz (gm_p_load (pc := 60) (i := .aload_n 0) (sr := 2) (j := 0) (by decide +kernel) rfl rfl rfl) ?_
      refine gm_sz (gm_p_load (pc := 61) (i := .iload_n 1) (sr := 0) (j := 1) (by decide +kernel) rfl rfl rfl) ?_
      refine gm_sz (gm_p_const (pc := 62) (i := .iconst 3) (v := gm_vi 3) (by decide +kernel) (by decide +kernel)) ?_
      refine gm_c_virt (k := 226) (ci := 11) (mj := 301) (ix := 82) (pc := 63) (as := [gm_vi l, gm_vi 3]) (st := [gm_vi (N 9)]) (d' := d - 1) (bc' := 0) (bs' := 0) (by decide +kernel) (by decide +kernel) (by decide +kernel) (by decide +kernel) (e0k hE (k := 226) (c := 11) (by decide +kernel)).1 (e0k hE (k := 226) (c := 11) (by decide +kernel)).2 (by decide) (by decide +kernel) (show 2 = gm_na 301 by decide +kernel) (fw_c2 fw_si fw_si) (show 3 ≤ gm_ml 301 by decide +kernel) (Nat.le_of_ble_eq_true rfl) (by omega) (Nat.zero_le _) (Nat.zero_le _) ?_
      refine re_ol9 hE ⟨by omega, by omega⟩ ⟨by omega, by omega⟩ (nopn_y hw53 hN hg n8 v21.2.1 (by omega)) ?_
      show gm_Wp X LX d _ _ 318 66 _ [gm_vi ((N (119 + (l * 7 + 3)))), gm_vi (N 9)] n K _ _ Q
      refine gm_sz (gm_p_bin (pc := 66) (i := .isub) (f := fun x y => x - y) (by decide +kernel) rfl) ?_
      have h9 := hisr_w (W := [((227 : Nat), none)]) hs42 hf53 (by decide)
      rw [show M21 227 8 = M 227 8 from (fr_c hf21 (by decide)).trans (uM_ne (by omega))] at h9
      exact gm_r_int (pc := 67) (by decide +kernel) (Or.inl (by decide +kernel)) (hq n8 v21 M21 M53 hI21 (fr_t (fr_t fr_0 hf42 (by decide)) hf53 (by decide)) (fr_t (fr_t (fr_t (fr_p fr_0 (Or.inr (by decide))) hf21 (by decide)) hf42 (by decide)) hf53 (by decide)) h9 hw53 (fun j hj => (hg53 j hj).trans ((fr_c hf42 (by decide)).trans ((fr_c hf21 (by decide)).trans (uM_ne (by omega))))) (h853.trans ((fr_c hf42 (by decide)).trans ((fr_c hf21 (by decide)).trans (uM_ne (by omega))))) ((fr_c hf53 (by decide)).trans ((fr_j hf42 (by decide)).trans ((fr_j hf21 (by decide)).trans uM_at))))
    · show gm_Wp X LX d _ _ 318 24 _ [gm_vi 0, gm_vr 226] n K _ _ Q
      refine fw_iffd (cc := .ne) (pc := 24) (off := 7) (by decide +kernel) (by decide) ⟨by decide, by decide⟩ (by decide) ?_
      refine gm_sz (gm_p_const (pc := 27) (i := .iconst 1) (v := gm_vi 1) (by decide +kernel) (by decide +kernel)) ?_
      refine gm_sz (gm_p_goto (pc := 28) (off := 4) (by decide +kernel) (by decide)) ?_
      refine gm_sz (gm_p_const (pc := 32) (i := .iconst 2) (v := gm_vi 2) (by decide +kernel) (by decide +kernel)) ?_
      refine gm_c_virt (k := 226) (ci := 11) (mj := 282) (ix := 300) (pc := 33) (as := [gm_vi 1, gm_vi 2]) (st := []) (d' := d - 1) (bc' := 0) (bs' := 0) (by decide +kernel) (by decide +kernel) (by decide +kernel) (by decide +kernel) (e0k hE (k := 226) (c := 11) (by decide +kernel)).1 (e0k hE (k := 226) (c := 11) (by decide +kernel)).2 (by decide) (by decide +kernel) (show 2 = gm_na 282 by decide +kernel) (fw_c2 fw_si fw_si) (show 3 ≤ gm_ml 282 by decide +kernel) (Nat.le_of_ble_eq_true rfl) (by omega) (Nat.zero_le _) (Nat.zero_le _) ?_
      refine tf_1 hE ?_
      show gm_Wp X LX d _ _ 318 36 _ [gm_vi 1] n K _ _ Q
      refine fw_iffd (cc := .eq) (pc := 36) (off := 5) (by decide +kernel) (by decide) ⟨by decide, by decide⟩ (by decide) ?_
      refine gm_sz (gm_p_const (pc := 39) (i := .iconst 0) (v := gm_vi 0) (by decide +kernel) (by decide +kernel)) ?_
      exact gm_r_int (pc := 40) (by decide +kernel) (Or.inl (by decide +kernel)) (q2 n8 v21 (gm_uM M21 226 0 2) (fr_p (fr_t (fr_p fr_0 (Or.inr (by decide))) hf21 (by decide)) (Or.inr (by decide))) (hfw.2.1 [((226 : Nat), some (0 : Int))] _ _ (by decide) (fr_p fr_0 (Or.inr (by decide))) hI21) uM_at)
end AC6
end
/-! 7a28.r7ys -/
section
/-! THE REFERENCE: a year more, years (laid by wip/core/r7.py). -/
section YS7
variable {X : Int → Int} {LX d bc bs n : Nat} {K : gm_K} {R : gm_R} {M : gm_M} {Q : gm_Q} {l p f t v w y c : Int} {N h : Int → Int} {FI : gm_M → Prop} {φ : Int → Int → Int → Int} {Ψ : (Int → Int) → Int → Int → Int → Int → Prop} {o dd : Int → Int} {A : List (Int → Int)}
theorem tr_ws {M2 : gm_M} {N2 : Int → Int} {W : List (Nat × Option Int)} (hT : TR N h M) (hw : ws (M2 227) = N2) (hf : fr W M M2) (hW : W.all (fun w => !(w.1 == 234)) = true) : TR N2 h M2 := ⟨hw, fun y y0 y1 => by
  rw [hf 234 y (fun hm => by have := List.all_eq_true.mp hW _ hm; simp at this) (fun hm => by have := List.all_eq_true.mp hW _ hm; simp at this)]
  exact hT.2 y y0 y1⟩
/-- what lies behind the world stays while a year goes by -/
noncomputable def BW (M M2 : gm_M) : Prop := (∀ j, 395 ≤ j → M2 227 j = M 227 j) ∧ M2 227 8 = M 227 8
theorem rm_l (hd : 20 ≤ d) (hE : E0 n K R) (hT : TR N h M) (hN : NR N) (hg : LOGI N) (h9 : N 9 < 299) (hfw : ∀ N2, geo N N2 → NR N2 → FLR X LX n K R N2 h FI φ) (hI : FI M) (hmo : ∀ N2, geo N N2 → NR N2 → MOR X LX n K R N2 h FI (Ψ N2)) (hFX : ∀ M M2, FI M → fr [((227 : Nat), none)] M M2 → (∀ j, 395 ≤ j → M2 227 j = M 227 j) → M2 227 8 = M 227 8 → FI M2) (ho : ∀ l, 0 ≤ l → l < N 4 → OUTR N h φ l (o l) (dd l)) (hq : ∀ M2, fr [((226 : Nat), some (29 : Int)), ((226 : Nat), some (30 : Int)), ((226 : Nat), some (26 : Int)), ((226 : Nat), some (17 : Int)), ((226 : Nat), some (18 : Int)), ((226 : Nat), some (19 : Int)), ((226 : Nat), some (20 : Int)), ((226 : Nat), some (21 : Int)), ((226 : Nat), some (22 : Int)), ((226 : Nat), some (23 : Int)), ((235 : Nat), none), ((233 : Nat), none), ((236 : Nat), none), ((237 : Nat), none), ((227 : Nat), none)] M M2 → FI M2 → BW M M2 → ws (M2 227) = (yrun Ψ o dd (nyr N, 0) (N 4).toNat).1 → Q (.inl (some (gm_vi (yrun Ψ o dd (nyr N, 0) (N 4).toNat).2))) n K R M2) : ∀ (u k : Nat) (z : Option gm_V) (M1 : gm_M), (k : Int) + (u : Int) = N 4 → fr [((226 : Nat), some (29 : Int)), ((226 : Nat), some (30 : Int)), ((226 : Nat), some (26 : Int)), ((226 : Nat), some (17 : Int)), ((226 : Nat), some (18 : Int)), ((226 : Nat), some (19 : Int)), ((226 : Nat), some (20 : Int)), ((226 : Nat), some (21 : Int)), ((226 : Nat), some (22 : Int)), ((226 : Nat), some (23 : Int)), ((235 : Nat), none), ((233 : Nat), none), ((236 : Nat), none), ((237 : Nat), none), ((227 : Nat), none)] M M1 → FI M1 → BW M M1 → ws (M1 227) = (yrun Ψ o dd (nyr N, 0) k).1 → gm_Wp X LX d bc bs 321 15 [some (gm_vr 226), some (gm_vi (yrun Ψ o dd (nyr N, 0) k).2), some (gm_vi (k : Int)), z] [] n K R M1 Q := by
  have b4 := hN.2.1.2.2.2.1
  have b5 := hN.2.1.2.1
  have e4 : nyr N 4 = N 4 := nup_ne (by decide)
  have inv : ∀ k : Nat, (k : Int) ≤ N 4 → NR (yrun Ψ o dd (nyr N, 0) k).1 ∧ LOGI (yrun Ψ o dd (nyr N, 0) k).1 ∧ geo (nyr N) (yrun Ψ o dd (nyr N, 0) k).1 ∧ (yrun Ψ o dd (nyr N, 0) k).1 4 = nyr N 4 ∧ 0 ≤ (yrun Ψ o dd (nyr N, 0) k).2 ∧ (yrun Ψ o dd (nyr N, 0) k).2 ≤ 0 + (k : Int) := fun k hk => ym_i (nr_nyr hN h9) (logi_nyr hg) (Int.le_refl 0) k (by rw [e4]; exact hk)
  intro u
  induction u with
  | zero =>
    intro k z M1 hk hf hI1 hb hc
    have ek : (N 4).toNat = k := by omega
    rw [ek] at hq
    obtain ⟨i1, -, -, i4, -⟩ := inv k (by omega)
    exact rm_e (by omega) hE (tr_ws hT hc hf (by decide)) i1 (by rw [i4, e4]; omega) (hq M1 hf hI1 hb hc) z
  | succ u ih =>
    intro k z M1 hk hf hI1 hb hc
    obtain ⟨i1, i2, i3, i4, i5, i6⟩ := inv k (by omega)
    have g9 : geo N (yrun Ψ o dd (nyr N, 0) k).1 := geo_t geo_nyr i3
    refine rm_b (by omega) hE (tr_ws hT hc hf (by decide)) i1 i2 (hfw _ g9 i1) hI1 (hfw _ g9 i1).2.1 (hmo _ g9 i1) hFX ⟨by omega, by rw [i4, e4]; omega⟩ (OUTR_geo g9 b5 ⟨by omega, by omega⟩ (ho (k : Int) (by omega) (by omega))) ⟨i5, by omega⟩ (fun z2 M2 hf2 hI2 hb2 hc2 => ?_) z
    have q := ih (k + 1) z2 M2 (by omega) (fr_t hf hf2 (by decide)) hI2 ⟨fun j hj => (hb2.1 j hj).trans (hb.1 j hj), hb2.2.trans hb.2⟩ hc2
    rwa [show ((k + 1 : Nat) : Int) = (k : Int) + 1 by omega] at q
theorem rm_c321 (hd : 20 ≤ d) (hE : E0 n K R) (hT : TR N h M) (hN : NR N) (hg : LOGI N) (h9 : N 9 < 299) (hfw : ∀ N2, geo N N2 → NR N2 → FLR X LX n K R N2 h FI φ) (hI : FI M) (hmo : ∀ N2, geo N N2 → NR N2 → MOR X LX n K R N2 h FI (Ψ N2)) (hFX : ∀ M M2, FI M → fr [((227 : Nat), none)] M M2 → (∀ j, 395 ≤ j → M2 227 j = M 227 j) → M2 227 8 = M 227 8 → FI M2) (ho : ∀ l, 0 ≤ l → l < N 4 → OUTR N h φ l (o l) (dd l)) (hq : ∀ M2, fr [((226 : Nat), some (29 : Int)), ((226 : Nat), some (30 : Int)), ((226 : Nat), some (26 : Int)), ((226 : Nat), some (17 : Int)), ((226 : Nat), some (18 : Int)), ((226 : Nat), some (19 : Int)), ((226 : Nat), some (20 : Int)), ((226 : Nat), some (21 : Int)), ((226 : Nat), some (22 : Int)), ((226 : Nat), some (23 : Int)), ((235 : Nat), none), ((233 : Nat), none), ((236 : Nat), none), ((237 : Nat), none), ((227 : Nat), none)] M M2 → FI M2 → BW M M2 → ws (M2 227) = (yrun Ψ o dd (nyr N, 0) (N 4).toNat).1 → Q (.inl (some (gm_vi (yrun Ψ o dd (nyr N, 0) (N 4).toNat).2))) n K R M2) : gm_Wp X LX d bc bs 321 0 (gm_ent 321 [gm_vr 226]) [] n K R M Q := by
  obtain ⟨⟨⟨a0, b0⟩, ⟨a1, b1⟩, ⟨a10, b10⟩, ⟨a11, b11⟩, ⟨a12, b12⟩, a9, b9⟩, ⟨⟨a2, b2⟩, ⟨a5, b5⟩, ⟨a3, b3⟩, ⟨a4, b4⟩, ⟨a6, b6⟩, ⟨a14, b14⟩, ⟨a7, b7⟩, a13, b13⟩, rF, rP, rL⟩ := id hN
  refine gm_sz (gm_p_load (pc := 0) (i := .aload_n 0) (sr := 2) (j := 0) (by decide +kernel) rfl rfl rfl) ?_
  refine gm_sz (fw_gr (pc := 1) (ix := 13) (ci := 11) (j := 1) (r := 227) (by decide +kernel) (e0k hE (k := 226) (c := 11) (by decide +kernel)) (by decide +kernel) (by decide +kernel) (e0r hE (k := 226) (j := 1) (r := 227) (by decide +kernel))) ?_
  refine gm_sz (gm_p_const (pc := 4) (i := .bipush 9) (v := gm_vi 9) (by decide +kernel) (by decide +kernel)) ?_
  refine gm_sz (gm_p_dup2 (pc := 6) (by decide +kernel) fw_si fw_sr) ?_
  refine gm_sz (fw_ia (pc := 7) (k := 227) (len := 2093) (e0 := 9) (x := N 9) (by decide +kernel) (e0a hE (k := 227) (q := ((0 : Nat), (2093 : Nat))) (by decide +kernel)).1 (e0a hE (k := 227) (q := ((0 : Nat), (2093 : Nat))) (by decide +kernel)).2 (by decide) ⟨by omega, by omega⟩ (tr_w hT (by decide) (by decide) (by decide))) ?_
  refine gm_sz (gm_p_const (pc := 8) (i := .iconst 1) (v := gm_vi 1) (by decide +kernel) (by decide +kernel)) ?_
  refine gm_sz (gm_p_bin (pc := 9) (i := .iadd) (f := fun x y => x + y) (by decide +kernel) rfl) ?_
  refine gm_sz (fw_is (pc := 10) (k := 227) (len := 2093) (e0 := 9) (x := (N 9) + 1) (M' := gm_uM M 227 9 ((N 9) + 1)) (by decide +kernel) (e0a hE (k := 227) (q := ((0 : Nat), (2093 : Nat))) (by decide +kernel)).1 (e0a hE (k := 227) (q := ((0 : Nat), (2093 : Nat))) (by decide +kernel)).2 (by decide) ⟨by omega, by omega⟩ rfl) ?_
  refine gm_sz (gm_p_const (pc := 11) (i := .iconst 0) (v := gm_vi 0) (by decide +kernel) (by decide +kernel)) ?_
  refine gm_sz (gm_p_stor (pc := 12) (i := .istore_n 1) (sr := 0) (j := 1) (by decide +kernel) rfl (show 2 ≤ _ from Nat.le_of_ble_eq_true rfl) rfl) ?_
  refine gm_sz (gm_p_const (pc := 13) (i := .iconst 0) (v := gm_vi 0) (by decide +kernel) (by decide +kernel)) ?_
  refine gm_sz (gm_p_stor (pc := 14) (i := .istore_n 2) (sr := 0) (j := 2) (by decide +kernel) rfl (show 3 ≤ _ from Nat.le_of_ble_eq_true rfl) rfl) ?_
  have e9 : ws ((gm_uM M 227 9 ((N 9) + 1)) 227) = nyr N := by
    have e1 : (gm_uM M 227 9 ((N 9) + 1)) 227 = nup (M 227) 9 (N 9 + 1) := nup_s rfl
    rw [e1, ws_put (k := 9) ⟨by decide, by decide, by decide⟩, hT.1]
    rfl
  have f9 := hFX M (gm_uM M 227 9 ((N 9) + 1)) hI (show fr [((227 : Nat), none)] M (gm_uM M 227 9 ((N 9) + 1)) from fr_p fr_0 (Or.inl (by decide))) (fun j hj => uM_ne (by omega)) (uM_ne (by omega))
  exact rm_l hd hE hT hN hg h9 hfw hI hmo hFX ho hq (N 4).toNat 0 _ (gm_uM M 227 9 ((N 9) + 1)) (by omega) (fr_p fr_0 (Or.inl (by decide))) f9 ⟨fun j hj => uM_ne (by omega), uM_ne (by omega)⟩ e9
theorem ry_l (hd : 22 ≤ d) (hE : E0 n K R) (hT : TR N h M) (hN : NR N) (hg : LOGI N) (hfw : ∀ N2, geo N N2 → NR N2 → FLR X LX n K R N2 h FI φ) (hI : FI M) (hmo : ∀ N2, geo N N2 → NR N2 → MOR X LX n K R N2 h FI (Ψ N2)) (hFX : ∀ M M2, FI M → fr [((227 : Nat), none)] M M2 → (∀ j, 395 ≤ j → M2 227 j = M 227 j) → M2 227 8 = M 227 8 → FI M2) (ho : ∀ l, 0 ≤ l → l < N 4 → OUTR N h φ l (o l) (dd l)) (hv : 0 ≤ v ∧ v ≤ 50 ∧ v + N 9 ≤ 299) (hq : ∀ M2, fr [((226 : Nat), some (29 : Int)), ((226 : Nat), some (30 : Int)), ((226 : Nat), some (26 : Int)), ((226 : Nat), some (17 : Int)), ((226 : Nat), some (18 : Int)), ((226 : Nat), some (19 : Int)), ((226 : Nat), some (20 : Int)), ((226 : Nat), some (21 : Int)), ((226 : Nat), some (22 : Int)), ((226 : Nat), some (23 : Int)), ((235 : Nat), none), ((233 : Nat), none), ((236 : Nat), none), ((237 : Nat), none), ((227 : Nat), none)] M M2 → FI M2 → BW M M2 → ws (M2 227) = (yrs Ψ o dd (N, 0) v.toNat).1 → Q (.inl (some (gm_vi (yrs Ψ o dd (N, 0) v.toNat).2))) n K R M2) : ∀ (u k : Nat) (M1 : gm_M), (k : Int) + (u : Int) = v → fr [((226 : Nat), some (29 : Int)), ((226 : Nat), some (30 : Int)), ((226 : Nat), some (26 : Int)), ((226 : Nat), some (17 : Int)), ((226 : Nat), some (18 : Int)), ((226 : Nat), some (19 : Int)), ((226 : Nat), some (20 : Int)), ((226 : Nat), some (21 : Int)), ((226 : Nat), some (22 : Int)), ((226 : Nat), some (23 : Int)), ((235 : Nat), none), ((233 : Nat), none), ((236 : Nat), none), ((237 : Nat), none), ((227 : Nat), none)] M M1 → FI M1 → BW M M1 → ws (M1 227) = (yrs Ψ o dd (N, 0) k).1 → gm_Wp X LX d bc bs 320 50 [some (gm_vr 226), some (gm_vi v), some (gm_vi ((yrs Ψ o dd (N, 0) k).2)), some (gm_vi (k : Int))] [] n K R M1 Q := by
  have b5 := hN.2.1.2.1
  intro u
  induction u with
  | zero =>
    intro k M1 hk hf hI1 hb hc
    have ek : v.toNat = k := by omega
    rw [ek] at hq
    refine gm_sz (gm_p_load (pc := 50) (i := .iload_n 3) (sr := 0) (j := 3) (by decide +kernel) rfl rfl rfl) ?_
    refine gm_sz (gm_p_load (pc := 51) (i := .iload_n 1) (sr := 0) (j := 1) (by decide +kernel) rfl rfl rfl) ?_
    refine fw_ict (cc := .ge) (pc := 52) (off := 16) (by decide +kernel) (by decide) ⟨by omega, by omega⟩ ⟨by omega, by omega⟩ (show v ≤ (k : Int) by omega) ?_
    refine gm_sz (gm_p_load (pc := 68) (i := .iload_n 2) (sr := 0) (j := 2) (by decide +kernel) rfl rfl rfl) ?_
    exact gm_r_int (pc := 69) (by decide +kernel) (Or.inl (by decide +kernel)) (hq M1 hf hI1 hb hc)
  | succ u ih =>
    intro k M1 hk hf hI1 hb hc
    obtain ⟨i1, i2, i3, i4, i5, i6, i7⟩ := yrs_i (Ψ := Ψ) (o := o) (dd := dd) hN hg k (by omega)
    refine gm_sz (gm_p_load (pc := 50) (i := .iload_n 3) (sr := 0) (j := 3) (by decide +kernel) rfl rfl rfl) ?_
    refine gm_sz (gm_p_load (pc := 51) (i := .iload_n 1) (sr := 0) (j := 1) (by decide +kernel) rfl rfl rfl) ?_
    refine fw_icf (cc := .ge) (pc := 52) (off := 16) (by decide +kernel) (by decide) ⟨by omega, by omega⟩ ⟨by omega, by omega⟩ (show ¬ v ≤ (k : Int) by omega) ?_
    refine gm_sz (gm_p_load (pc := 55) (i := .iload_n 2) (sr := 0) (j := 2) (by decide +kernel) rfl rfl rfl) ?_
    refine gm_sz (gm_p_load (pc := 56) (i := .aload_n 0) (sr := 2) (j := 0) (by decide +kernel) rfl rfl rfl) ?_
    refine gm_c_virt (k := 226) (ci := 11) (mj := 321) (ix := 423) (pc := 57) (as := []) (st := [gm_vi ((yrs Ψ o dd (N, 0) k).2)]) (d' := d - 1) (bc' := 0) (bs' := 0) (by decide +kernel) (by decide +kernel) (by decide +kernel) (by decide +kernel) (e0k hE (k := 226) (c := 11) (by decide +kernel)).1 (e0k hE (k := 226) (c := 11) (by decide +kernel)).2 (by decide) (by decide +kernel) (show 0 = gm_na 321 by decide +kernel) fw_c0 (show 1 ≤ gm_ml 321 by decide +kernel) (Nat.le_of_ble_eq_true rfl) (by omega) (Nat.zero_le _) (Nat.zero_le _) ?_
    refine rm_c321 (o := o) (dd := dd) (by omega) hE (tr_ws hT hc hf (by decide)) i1 i2 (by omega) (fun N2 g2 n2 => hfw N2 (geo_t i3 g2) n2) hI1 (fun N2 g2 n2 => hmo N2 (geo_t i3 g2) n2) hFX (fun l l0 l1 => OUTR_geo i3 b5 ⟨l0, by have b4 := hN.2.1.2.2.2.1; omega⟩ (ho l l0 (by omega))) (fun M9 hf9 hI9 hb9 hc9 => ?_)
    show gm_Wp X LX d _ _ 320 60 _ [gm_vi ((yrun Ψ o dd (nyr (yrs Ψ o dd (N, 0) k).1, 0) ((yrs Ψ o dd (N, 0) k).1 4).toNat).2), gm_vi ((yrs Ψ o dd (N, 0) k).2)] n K _ _ Q
    refine gm_sz (gm_p_bin (pc := 60) (i := .iadd) (f := fun x y => x + y) (by decide +kernel) rfl) ?_
    refine gm_sz (gm_p_stor (pc := 61) (i := .istore_n 2) (sr := 0) (j := 2) (by decide +kernel) rfl (show 3 ≤ _ from Nat.le_of_ble_eq_true rfl) rfl) ?_
    refine gm_sz (gm_p_iinc (pc := 62) (j := 3) (z := 1) (by decide +kernel) rfl) ?_
    refine gm_sz (gm_p_goto (pc := 65) (off := (-15)) (by decide +kernel) (by decide)) ?_
    have q := ih (k + 1) M9 (by omega) (fr_t (fr_t fr_0 hf (by decide)) hf9 (by decide)) hI9 ⟨fun j hj => (hb9.1 j hj).trans (hb.1 j hj), hb9.2.trans hb.2⟩ hc9
    rwa [show ((k + 1 : Nat) : Int) = (k : Int) + 1 by omega] at q
theorem ra_320 (hd : 22 ≤ d) (hE : E0 n K R) (hT : TR N h M) (hN : NR N) (hg : LOGI N) (hfw : ∀ N2, geo N N2 → NR N2 → FLR X LX n K R N2 h FI φ) (hI : FI M) (hmo : ∀ N2, geo N N2 → NR N2 → MOR X LX n K R N2 h FI (Ψ N2)) (hFX : ∀ M M2, FI M → fr [((227 : Nat), none)] M M2 → (∀ j, 395 ≤ j → M2 227 j = M 227 j) → M2 227 8 = M 227 8 → FI M2) (ho : ∀ l, 0 ≤ l → l < N 4 → OUTR N h φ l (o l) (dd l)) (hH : HISR A (M 227 8) M) (hy : gm_ir y) (q0 : ¬ (1 ≤ y ∧ y ≤ 50 ∧ y ≤ 299 - N 9) → ∀ M2, fr [((226 : Nat), some (0 : Int))] M M2 → M2 226 0 = 1 → Q (.inl (some (gm_vi 0))) n K R M2) (hq : 1 ≤ y ∧ y ≤ 50 ∧ y ≤ 299 - N 9 → ∀ M2 : gm_M, fr [((226 : Nat), some (0 : Int)), ((226 : Nat), some (6 : Int)), ((230 : Nat), none), ((226 : Nat), some (29 : Int)), ((226 : Nat), some (30 : Int)), ((226 : Nat), some (26 : Int)), ((226 : Nat), some (17 : Int)), ((226 : Nat), some (18 : Int)), ((226 : Nat), some (19 : Int)), ((226 : Nat), some (20 : Int)), ((226 : Nat), some (21 : Int)), ((226 : Nat), some (22 : Int)), ((226 : Nat), some (23 : Int)), ((235 : Nat), none), ((233 : Nat), none), ((236 : Nat), none), ((237 : Nat), none), ((227 : Nat), none)] M M2 → FI M2 → HISR ((N :: A).take 12) (M 227 8) M2 → ws (M2 227) = (yrs Ψ o dd (N, 0) y.toNat).1 → (∀ j, 395 ≤ j → M2 227 j = M 227 j) → M2 227 8 = M 227 8 → M2 226 0 = 0 → Q (.inl (some (gm_vi (yrs Ψ o dd (N, 0) y.toNat).2))) n K R M2) : gm_Wp X LX d bc bs 320 0 (gm_ent 320 [gm_vr 226, gm_vi y]) [] n K R M Q := by
  obtain ⟨⟨⟨a0, b0⟩, ⟨a1, b1⟩, ⟨a10, b10⟩, ⟨a11, b11⟩, ⟨a12, b12⟩, a9, b9⟩, ⟨⟨a2, b2⟩, ⟨a5, b5⟩, ⟨a3, b3⟩, ⟨a4, b4⟩, ⟨a6, b6⟩, ⟨a14, b14⟩, ⟨a7, b7⟩, a13, b13⟩, rF, rP, rL⟩ := id hN
  refine gm_sz (gm_p_load (pc := 0) (i := .aload_n 0) (sr := 2) (j := 0) (by decide +kernel) rfl rfl rfl) ?_
  refine gm_sz (gm_p_const (pc := 1) (i := .iconst 0) (v := gm_vi 0) (by decide +kernel) (by decide +kernel)) ?_
  refine gm_sz (fw_pi (pc := 2) (ix := 3) (ci := 11) (j := 0) (M' := gm_uM M 226 0 0) (by decide +kernel) (e0k hE (k := 226) (c := 11) (by decide +kernel)) (by decide +kernel) (by decide +kernel) (by decide +kernel) rfl) ?_
  refine gm_sz (gm_p_load (pc := 5) (i := .aload_n 0) (sr := 2) (j := 0) (by decide +kernel) rfl rfl rfl) ?_
  refine gm_sz (gm_p_load (pc := 6) (i := .iload_n 1) (sr := 0) (j := 1) (by decide +kernel) rfl rfl rfl) ?_
  refine gm_sz (gm_p_const (pc := 7) (i := .iconst 1) (v := gm_vi 1) (by decide +kernel) (by decide +kernel)) ?_
  refine gm_sz (gm_p_const (pc := 8) (i := .bipush 50) (v := gm_vi 50) (by decide +kernel) (by decide +kernel)) ?_
  refine gm_c_stat (mj := 286) (ix := 90) (pc := 10) (as := [gm_vi y, gm_vi 1, gm_vi 50]) (st := [gm_vr 226]) (d' := d - 1) (bc' := 0) (bs' := 0) (by decide +kernel) (by decide +kernel) (by decide +kernel) (by decide +kernel) (show 3 = gm_na 286 by decide +kernel) (fw_c3 fw_si fw_si fw_si) (show 3 ≤ gm_ml 286 by decide +kernel) (Nat.le_of_ble_eq_true rfl) (by omega) (Nat.zero_le _) (Nat.zero_le _) ?_
  refine in_286 (x := y) (y := 1) (z := 50) hy ⟨by decide, by decide⟩ ⟨by decide, by decide⟩ (fun k10a k10 => ?_) (fun k10 => ?_)
  · show gm_Wp X LX d _ _ 320 13 _ [gm_vi 1, gm_vr 226] n K _ _ Q
    have k10a : 1 ≤ y := k10a
    have k10 : y ≤ 50 := k10
    refine fw_iffd (cc := .eq) (pc := 13) (off := 15) (by decide +kernel) (by decide) ⟨by decide, by decide⟩ (by decide) ?_
    refine gm_sz (gm_p_load (pc := 16) (i := .aload_n 0) (sr := 2) (j := 0) (by decide +kernel) rfl rfl rfl) ?_
    refine gm_c_virt (k := 226) (ci := 11) (mj := 266) (ix := 162) (pc := 17) (as := []) (st := [gm_vr 226]) (d' := d - 1) (bc' := 0) (bs' := 0) (by decide +kernel) (by decide +kernel) (by decide +kernel) (by decide +kernel) (e0k hE (k := 226) (c := 11) (by decide +kernel)).1 (e0k hE (k := 226) (c := 11) (by decide +kernel)).2 (by decide) (by decide +kernel) (show 0 = gm_na 266 by decide +kernel) fw_c0 (show 1 ≤ gm_ml 266 by decide +kernel) (Nat.le_of_ble_eq_true rfl) (by omega) (Nat.zero_le _) (Nat.zero_le _) ?_
    refine re_now9 hE ((uM_ne (by omega)).trans (tr_w hT (by decide) (by decide) (by decide))) ?_
    show gm_Wp X LX d _ _ 320 20 _ [gm_vi (N 9), gm_vr 226] n K _ _ Q
    refine gm_sz (gm_p_load (pc := 20) (i := .iload_n 1) (sr := 0) (j := 1) (by decide +kernel) rfl rfl rfl) ?_
    refine gm_sz (gm_p_bin (pc := 21) (i := .iadd) (f := fun x y => x + y) (by decide +kernel) rfl) ?_
    refine gm_sz (gm_p_const (pc := 22) (i := .sipush 299) (v := gm_vi 299) (by decide +kernel) (by decide +kernel)) ?_
    refine fw_ic (cc := .le) (pc := 25) (off := 7) (by decide +kernel) (by decide) ⟨by omega, by omega⟩ ⟨by decide, by decide⟩ (fun h25 => ?_) (fun h25 => ?_)
    · have h25 : ((N 9) + y) ≤ 299 := h25
      refine gm_sz (gm_p_const (pc := 32) (i := .iconst 0) (v := gm_vi 0) (by decide +kernel) (by decide +kernel)) ?_
      refine gm_sz (gm_p_const (pc := 33) (i := .iconst 1) (v := gm_vi 1) (by decide +kernel) (by decide +kernel)) ?_
      refine gm_c_virt (k := 226) (ci := 11) (mj := 282) (ix := 300) (pc := 34) (as := [gm_vi 0, gm_vi 1]) (st := []) (d' := d - 1) (bc' := 0) (bs' := 0) (by decide +kernel) (by decide +kernel) (by decide +kernel) (by decide +kernel) (e0k hE (k := 226) (c := 11) (by decide +kernel)).1 (e0k hE (k := 226) (c := 11) (by decide +kernel)).2 (by decide) (by decide +kernel) (show 2 = gm_na 282 by decide +kernel) (fw_c2 fw_si fw_si) (show 3 ≤ gm_ml 282 by decide +kernel) (Nat.le_of_ble_eq_true rfl) (by omega) (Nat.zero_le _) (Nat.zero_le _) ?_
      refine tf_0 hE ?_
      show gm_Wp X LX d _ _ 320 37 _ [gm_vi 0] n K _ _ Q
      refine fw_iftd (cc := .eq) (pc := 37) (off := 5) (by decide +kernel) (by decide) ⟨by decide, by decide⟩ (by decide) ?_
      refine gm_sz (gm_p_load (pc := 42) (i := .aload_n 0) (sr := 2) (j := 0) (by decide +kernel) rfl rfl rfl) ?_
      refine gm_c_virt (k := 226) (ci := 11) (mj := 316) (ix := 411) (pc := 43) (as := []) (st := []) (d' := d - 1) (bc' := 0) (bs' := 0) (by decide +kernel) (by decide +kernel) (by decide +kernel) (by decide +kernel) (e0k hE (k := 226) (c := 11) (by decide +kernel)).1 (e0k hE (k := 226) (c := 11) (by decide +kernel)).2 (by decide) (by decide +kernel) (show 0 = gm_na 316 by decide +kernel) fw_c0 (show 1 ≤ gm_ml 316 by decide +kernel) (Nat.le_of_ble_eq_true rfl) (by omega) (Nat.zero_le _) (Nat.zero_le _) ?_
      refine rm_c316 hE (tr_fr (W := [((226 : Nat), some (0 : Int))]) hT (fr_p fr_0 (Or.inr (by decide))) (by decide)).1 (by have h9 : HISR A (M 227 8) (gm_uM M 226 0 0) := hisr_w (W := [((226 : Nat), some (0 : Int))]) hH (fr_p fr_0 (Or.inr (by decide))) (by decide); rwa [show M 227 8 = (gm_uM M 226 0 0) 227 8 from ((uM_ne (by omega))).symm] at h9) (fun M43 hf43 hs43 => ?_)
      show gm_Wp X LX d _ _ 320 46 _ [] n K _ _ Q
      refine gm_sz (gm_p_const (pc := 46) (i := .iconst 0) (v := gm_vi 0) (by decide +kernel) (by decide +kernel)) ?_
      refine gm_sz (gm_p_stor (pc := 47) (i := .istore_n 2) (sr := 0) (j := 2) (by decide +kernel) rfl (show 3 ≤ _ from Nat.le_of_ble_eq_true rfl) rfl) ?_
      refine gm_sz (gm_p_const (pc := 48) (i := .iconst 0) (v := gm_vi 0) (by decide +kernel) (by decide +kernel)) ?_
      refine gm_sz (gm_p_stor (pc := 49) (i := .istore_n 3) (sr := 0) (j := 3) (by decide +kernel) rfl (show 4 ≤ _ from Nat.le_of_ble_eq_true rfl) rfl) ?_
      have f9 : FI M43 := (hfw N geo_r hN).2.1 [(226, some 0), (226, some 6), (230, none)] _ _ (by decide) (fr_t (fr_p fr_0 (Or.inr (by decide))) hf43 (by decide)) hI
      have c0 : M43 226 0 = 0 := ((fr_j hf43 (by decide)).trans uM_at)
      refine ry_l (o := o) (dd := dd) hd hE (tr_fr (W := [((226 : Nat), some (0 : Int)), ((226 : Nat), some (6 : Int)), ((230 : Nat), none)]) hT (fr_t (fr_p fr_0 (Or.inr (by decide))) hf43 (by decide)) (by decide)) hN hg hfw f9 hmo hFX ho ⟨by omega, by omega, by omega⟩ (fun M2 hf2 hI2 hb2 hc2 => ?_) y.toNat 0 M43 (by omega) fr_0 f9 ⟨fun _ _ => rfl, rfl⟩ (tr_fr (W := [((226 : Nat), some (0 : Int)), ((226 : Nat), some (6 : Int)), ((230 : Nat), none)]) hT (fr_t (fr_p fr_0 (Or.inr (by decide))) hf43 (by decide)) (by decide)).1
      have h9 := hisr_w (W := [((226 : Nat), some (29 : Int)), ((226 : Nat), some (30 : Int)), ((226 : Nat), some (26 : Int)), ((226 : Nat), some (17 : Int)), ((226 : Nat), some (18 : Int)), ((226 : Nat), some (19 : Int)), ((226 : Nat), some (20 : Int)), ((226 : Nat), some (21 : Int)), ((226 : Nat), some (22 : Int)), ((226 : Nat), some (23 : Int)), ((235 : Nat), none), ((233 : Nat), none), ((236 : Nat), none), ((237 : Nat), none), ((227 : Nat), none)]) hs43 hf2 (by decide)
      rw [show gm_uM M 226 0 0 227 8 = M 227 8 from uM_ne (by omega)] at h9
      exact hq ⟨by omega, by omega, by omega⟩ M2 (fr_t (fr_t (fr_p fr_0 (Or.inr (by decide))) hf43 (by decide)) hf2 (by decide)) hI2 h9 hc2 (fun j hj => (hb2.1 j hj).trans ((fr_c hf43 (by decide)).trans (uM_ne (by omega)))) (hb2.2.trans ((fr_c hf43 (by decide)).trans (uM_ne (by omega)))) ((fr_j hf2 (by decide)).trans c0)
    · have h25 : ¬ ((N 9) + y) ≤ 299 := h25
      refine gm_sz (gm_p_const (pc := 28) (i := .iconst 1) (v := gm_vi 1) (by decide +kernel) (by decide +kernel)) ?_
      refine gm_sz (gm_p_goto (pc := 29) (off := 4) (by decide +kernel) (by decide)) ?_
      refine gm_sz (gm_p_const (pc := 33) (i := .iconst 1) (v := gm_vi 1) (by decide +kernel) (by decide +kernel)) ?_
      refine gm_c_virt (k := 226) (ci := 11) (mj := 282) (ix := 300) (pc := 34) (as := [gm_vi 1, gm_vi 1]) (st := []) (d' := d - 1) (bc' := 0) (bs' := 0) (by decide +kernel) (by decide +kernel) (by decide +kernel) (by decide +kernel) (e0k hE (k := 226) (c := 11) (by decide +kernel)).1 (e0k hE (k := 226) (c := 11) (by decide +kernel)).2 (by decide) (by decide +kernel) (show 2 = gm_na 282 by decide +kernel) (fw_c2 fw_si fw_si) (show 3 ≤ gm_ml 282 by decide +kernel) (Nat.le_of_ble_eq_true rfl) (by omega) (Nat.zero_le _) (Nat.zero_le _) ?_
      refine tf_1 hE ?_
      show gm_Wp X LX d _ _ 320 37 _ [gm_vi 1] n K _ _ Q
      refine fw_iffd (cc := .eq) (pc := 37) (off := 5) (by decide +kernel) (by decide) ⟨by decide, by decide⟩ (by decide) ?_
      refine gm_sz (gm_p_const (pc := 40) (i := .iconst 0) (v := gm_vi 0) (by decide +kernel) (by decide +kernel)) ?_
      exact gm_r_int (pc := 41) (by decide +kernel) (Or.inl (by decide +kernel)) (q0 (by omega) (gm_uM (gm_uM M 226 0 0) 226 0 1) (fr_p (fr_p fr_0 (Or.inr (by decide))) (Or.inr (by decide))) uM_at)
  · show gm_Wp X LX d _ _ 320 13 _ [gm_vi 0, gm_vr 226] n K _ _ Q
    have k10 : ¬ (1 ≤ y ∧ y ≤ 50) := k10
    refine fw_iftd (cc := .eq) (pc := 13) (off := 15) (by decide +kernel) (by decide) ⟨by decide, by decide⟩ (by decide) ?_
    refine gm_sz (gm_p_const (pc := 28) (i := .iconst 1) (v := gm_vi 1) (by decide +kernel) (by decide +kernel)) ?_
    refine gm_sz (gm_p_goto (pc := 29) (off := 4) (by decide +kernel) (by decide)) ?_
    refine gm_sz (gm_p_const (pc := 33) (i := .iconst 1) (v := gm_vi 1) (by decide +kernel) (by decide +kernel)) ?_
    refine gm_c_virt (k := 226) (ci := 11) (mj := 282) (ix := 300) (pc := 34) (as := [gm_vi 1, gm_vi 1]) (st := []) (d' := d - 1) (bc' := 0) (bs' := 0) (by decide +kernel) (by decide +kernel) (by decide +kernel) (by decide +kernel) (e0k hE (k := 226) (c := 11) (by decide +kernel)).1 (e0k hE (k := 226) (c := 11) (by decide +kernel)).2 (by decide) (by decide +kernel) (show 2 = gm_na 282 by decide +kernel) (fw_c2 fw_si fw_si) (show 3 ≤ gm_ml 282 by decide +kernel) (Nat.le_of_ble_eq_true rfl) (by omega) (Nat.zero_le _) (Nat.zero_le _) ?_
    refine tf_1 hE ?_
    show gm_Wp X LX d _ _ 320 37 _ [gm_vi 1] n K _ _ Q
    refine fw_iffd (cc := .eq) (pc := 37) (off := 5) (by decide +kernel) (by decide) ⟨by decide, by decide⟩ (by decide) ?_
    refine gm_sz (gm_p_const (pc := 40) (i := .iconst 0) (v := gm_vi 0) (by decide +kernel) (by decide +kernel)) ?_
    exact gm_r_int (pc := 41) (by decide +kernel) (Or.inl (by decide +kernel)) (q0 (by omega) (gm_uM (gm_uM M 226 0 0) 226 0 1) (fr_p (fr_p fr_0 (Or.inr (by decide))) (Or.inr (by decide))) uM_at)
end YS7
end
/-! 7a29.k0st -/
section
/-! WHAT A TEXT OF A LAW TELLS, by tokens: its lines, each condition as steps behind one another. -/
section KS0
variable (f : Int → Int) (e : Int)
noncomputable def s_fc (b : Int) : Int := tif (tx_is f e b wo_lane) 0 (tif (tx_is f e b wo_row) 1 (tif (tx_is f e b wo_year) 2 (tif (tx_is f e b wo_heat) 3 (tif (tx_is f e b wo_speed) 4 (tif (tx_is f e b wo_person) 5 (tif (tx_is f e b wo_age) 6 7))))))
noncomputable def s_pt (b : Int) : Int × Int := tif (tx_k f e b = 258) (10, tx_v f e 3 b) (s_fc f e b, 0)
noncomputable def s_sum : Nat → Int → List (Int × Int)
  | 0, _ => []
  | t + 1, b => s_pt f e b :: tif (tx_k f e (tx_n f e b) = 43) (s_sum t (tx_n f e (tx_n f e b))) []
noncomputable def s_atm (SA SC : Int → List lst) (b : Int) : List lst :=
  tif (tx_is f e b wo_not) (SA (tx_n f e b) ++ [(14, false, [], [])])
    (tif (tx_k f e b = 40) (SC (tx_n f e b))
      (tif (tx_is f e b wo_side) [(8, false, [], [])] (tif (tx_is f e b wo_first) [(9, false, [], [])]
        [(0, decide (tx_k f e (g_sum f e 400 b).2 = 62), s_sum f e 400 b, s_sum f e 400 (tx_n f e (g_sum f e 400 b).2))])))
noncomputable def s_all (A : Int → Bool × Int) (SA : Int → List lst) : Nat → Bool → Int → List lst
  | 0, _, _ => []
  | t + 1, fst, b => SA b ++ ((if fst = true then [] else [(15, false, [], [])]) ++ tif (tx_is f e (A b).2 wo_and) (s_all A SA t false (tx_n f e (A b).2)) [])
noncomputable def s_cnd (A : Int → Bool × Int) (SA : Int → List lst) : Nat → Bool → Int → List lst
  | 0, _, _ => []
  | t + 1, fst, b => s_all f e A SA 400 true b ++ ((if fst = true then [] else [(16, false, [], [])]) ++ tif (tx_is f e (g_all f e A 400 b).2 wo_or) (s_cnd A SA t false (tx_n f e (g_all f e A 400 b).2)) [])
noncomputable def s_at : Nat → Int → List lst
  | 0 => s_atm f e (fun _ => []) (fun _ => [])
  | k + 1 => s_atm f e (s_at k) (fun b => s_cnd f e (g_at f e k) (s_at k) 400 true b)
noncomputable def s_cd (k : Nat) (b : Int) : List lst := s_cnd f e (g_at f e k) (s_at f e k) 400 true b
noncomputable def s_if (b : Int) : Option (List lst) := tif (tx_is f e b wo_if) (some (s_cd f e 6 (tx_n f e b))) none
noncomputable def s_line (b : Int) : lln := tif (tx_is f e b wo_open) (2, 0, s_if f e (tx_n f e b)) (tif (tx_is f e b wo_fast) (0, tx_v f e 3 (tx_n f e b), s_if f e (tx_n f e (tx_n f e b))) (1, tx_v f e 3 (tx_n f e b), s_if f e (tx_n f e (tx_n f e b))))
noncomputable def s_txt : Nat → Int → List lln
  | 0, _ => []
  | t + 1, b => s_line f e b :: tif (tx_k f e (g_line f e b).2 = 256) [] (tif (tx_k f e (g_line f e b).2 = 59) (s_txt t (tx_n f e (g_line f e b).2)) [])
/-- the law that is told -/
noncomputable def s_law : List lln := tif (tx_k f e (tx_g f e 0) = 256) [] (s_txt f e 12 (tx_g f e 0))
end KS0
section KS1
variable {f : Int → Int} {e b : Int} {A A2 : Int → Bool × Int} {SA SC : Int → List lst} {t : Nat}
theorem s_sum1 (h2 : ¬ tx_k f e (tx_n f e b) = 43) : s_sum f e (t + 1) b = [s_pt f e b] := by
  show s_pt f e b :: tif _ _ _ = _
  rw [tif_f h2]
theorem s_sum2 (h2 : tx_k f e (tx_n f e b) = 43) : s_sum f e (t + 1) b = s_pt f e b :: s_sum f e t (tx_n f e (tx_n f e b)) := by
  show s_pt f e b :: tif _ _ _ = _
  rw [tif_t h2]
theorem s_a1 (h : tx_is f e b wo_not) : s_atm f e SA SC b = SA (tx_n f e b) ++ [(14, false, [], [])] := tif_t h
theorem s_a3 (h : ¬ tx_is f e b wo_not) (h0 : tx_k f e b = 40) : s_atm f e SA SC b = SC (tx_n f e b) := by
  unfold s_atm
  rw [tif_f h, tif_t h0]
theorem s_a5 (h : ¬ tx_is f e b wo_not) (h0 : ¬ tx_k f e b = 40) (h1 : tx_is f e b wo_side) : s_atm f e SA SC b = [(8, false, [], [])] := by
  unfold s_atm
  rw [tif_f h, tif_f h0, tif_t h1]
theorem s_a6 (h : ¬ tx_is f e b wo_not) (h0 : ¬ tx_k f e b = 40) (h1 : ¬ tx_is f e b wo_side) (h2 : tx_is f e b wo_first) : s_atm f e SA SC b = [(9, false, [], [])] := by
  unfold s_atm
  rw [tif_f h, tif_f h0, tif_f h1, tif_t h2]
theorem s_a8 (h : ¬ tx_is f e b wo_not) (h0 : ¬ tx_k f e b = 40) (h1 : ¬ tx_is f e b wo_side) (h2 : ¬ tx_is f e b wo_first) {g : Bool} (hg : decide (tx_k f e (g_sum f e 400 b).2 = 62) = g) : s_atm f e SA SC b = [(0, g, s_sum f e 400 b, s_sum f e 400 (tx_n f e (g_sum f e 400 b).2))] := by
  unfold s_atm
  rw [tif_f h, tif_f h0, tif_f h1, tif_f h2, hg]
theorem s_l1 {fst : Bool} (h : ¬ tx_is f e (A b).2 wo_and) : s_all f e A SA (t + 1) fst b = SA b ++ (if fst = true then [] else [(15, false, [], [])]) := by
  show SA b ++ ((if fst = true then [] else [(15, false, [], [])]) ++ tif _ _ _) = _
  rw [tif_f h, List.append_nil]
theorem s_l2 {fst : Bool} (h : tx_is f e (A b).2 wo_and) : s_all f e A SA (t + 1) fst b = SA b ++ ((if fst = true then [] else [(15, false, [], [])]) ++ s_all f e A SA t false (tx_n f e (A b).2)) := by
  show SA b ++ ((if fst = true then [] else [(15, false, [], [])]) ++ tif _ _ _) = _
  rw [tif_t h]
theorem s_d1 {fst : Bool} (h : ¬ tx_is f e (g_all f e A 400 b).2 wo_or) : s_cnd f e A SA (t + 1) fst b = s_all f e A SA 400 true b ++ (if fst = true then [] else [(16, false, [], [])]) := by
  show s_all f e A SA 400 true b ++ ((if fst = true then [] else [(16, false, [], [])]) ++ tif _ _ _) = _
  rw [tif_f h, List.append_nil]
theorem s_d2 {fst : Bool} (h : tx_is f e (g_all f e A 400 b).2 wo_or) : s_cnd f e A SA (t + 1) fst b = s_all f e A SA 400 true b ++ ((if fst = true then [] else [(16, false, [], [])]) ++ s_cnd f e A SA t false (tx_n f e (g_all f e A 400 b).2)) := by
  show s_all f e A SA 400 true b ++ ((if fst = true then [] else [(16, false, [], [])]) ++ tif _ _ _) = _
  rw [tif_t h]
theorem s_f1 (h : tx_is f e b wo_if) : s_if f e b = some (s_cd f e 6 (tx_n f e b)) := tif_t h
theorem s_f0 (h : ¬ tx_is f e b wo_if) : s_if f e b = none := tif_f h
theorem s_n1 (h : tx_is f e b wo_open) : s_line f e b = (2, 0, s_if f e (tx_n f e b)) := tif_t h
theorem s_n2 (h : tx_is f e b wo_fast) : s_line f e b = (0, tx_v f e 3 (tx_n f e b), s_if f e (tx_n f e (tx_n f e b))) := by
  unfold s_line
  rw [tif_f (g_ex h (by decide)), tif_t h]
theorem s_n3 (h : tx_is f e b wo_slow) : s_line f e b = (1, tx_v f e 3 (tx_n f e b), s_if f e (tx_n f e (tx_n f e b))) := by
  unfold s_line
  rw [tif_f (g_ex h (by decide)), tif_f (g_ex h (by decide))]
theorem s_t1 (h2 : tx_k f e (g_line f e b).2 = 256) : s_txt f e (t + 1) b = [s_line f e b] := by
  show s_line f e b :: tif _ _ _ = _
  rw [tif_t h2]
theorem s_t3 (h2 : ¬ tx_k f e (g_line f e b).2 = 256) (h3 : tx_k f e (g_line f e b).2 = 59) : s_txt f e (t + 1) b = s_line f e b :: s_txt f e t (tx_n f e (g_line f e b).2) := by
  show s_line f e b :: tif _ _ _ = _
  rw [tif_f h2, tif_t h3]
theorem scds_1 {k : Int} (h : k = 14 ∨ k = 15 ∨ k = 16 ∨ k = 8 ∨ k = 9) : scds [(k, false, [], [])] = [if k = 14 then -15 else if k = 15 then -16 else if k = 16 then -17 else -2 - k] := by
  rcases h with rfl | rfl | rfl | rfl | rfl <;> rfl
theorem scds_c {g : Bool} {x y : List (Int × Int)} : scds [(0, g, x, y)] = x.map pcd ++ ([-12] ++ (y.map pcd ++ [if g = true then -14 else -13])) := by
  show scd (0, g, x, y) ++ [] = _
  rw [List.append_nil]
  rfl
theorem srds_1 {k : Int} (h : k = 14 ∨ k = 15 ∨ k = 16 ∨ k = 8 ∨ k = 9) : srds [(k, false, [], [])] = [(k, 0)] := by
  rcases h with rfl | rfl | rfl | rfl | rfl <;> rfl
theorem srds_c {g : Bool} {x y : List (Int × Int)} : srds [(0, g, x, y)] = rpt x ++ (rpt y ++ [(if g = true then 13 else 12, 0)]) := by
  show srd (0, g, x, y) ++ [] = _
  rw [List.append_nil]
  rfl
/-- a word is as long as it is -/
theorem tx_nw {l : List Int} (h1 : b ≤ e) (h : tx_is f e b l) : b + (l.length : Int) ≤ tx_n f e b := by
  obtain ⟨a1, a2, -⟩ := tx_sb (f := f) h1
  obtain ⟨c1, -, -⟩ := tx_gb (f := f) (e := e) (p := tx_s f e b) a2
  have := h.2.1
  unfold tx_n
  omega
theorem s_fcb : 0 ≤ s_fc f e b ∧ s_fc f e b ≤ 7 := by
  unfold s_fc tif
  repeat' split
  all_goals decide
theorem s_ptw (h : g_pt f e b) : pwf (s_pt f e b) := by
  unfold s_pt
  by_cases h1 : tx_k f e b = 258
  · rw [tif_t h1]
    have a1 := tx_vb (f := f) (e := e) (m := 3) (b := b) (by decide)
    have a2 := tx_v9 (f := f) (e := e) (b := b)
    refine Or.inr ⟨rfl, ?_, a2⟩
    show 0 ≤ tx_v f e 3 b
    rcases h with h | h
    · have := h.2
      omega
    · have := g_fk h
      omega
  · rw [tif_f h1]
    exact Or.inl ⟨s_fcb, rfl⟩
theorem s_sumw : ∀ t b, 0 ≤ b → b ≤ e → (g_sum f e t b).1 = true → (∀ p ∈ s_sum f e t b, pwf p) ∧ ¬ s_sum f e t b = [] ∧ ((s_sum f e t b).length : Int) ≤ (g_sum f e t b).2 - b := by
  intro t
  induction t with
  | zero => exact fun b _ _ h => by cases h
  | succ t ih =>
    intro b h0 h1 h
    obtain ⟨a1, a2, a3⟩ := tx_nb (f := f) h1
    by_cases hp : g_pt f e b
    · have a3 := a3 (g_pk hp)
      have w := s_ptw hp
      by_cases h2 : tx_k f e (tx_n f e b) = 43
      · rw [g_sum2 hp h2] at h ⊢
        rw [s_sum2 h2]
        obtain ⟨c1, c2, c3⟩ := tx_nb (f := f) a2
        obtain ⟨i1, i2, i3⟩ := ih _ (by omega) c2 h
        refine ⟨fun p hm => ?_, (fun hn => by cases hn), ?_⟩
        · rcases List.mem_cons.mp hm with rfl | hm
          · exact w
          · exact i1 p hm
        · rw [List.length_cons]
          omega
      · rw [g_sum1 hp h2, s_sum1 h2]
        refine ⟨fun p hm => ?_, (fun hn => by cases hn), ?_⟩
        · rcases List.mem_cons.mp hm with rfl | hm
          · exact w
          · cases hm
        · show ((1 : Nat) : Int) ≤ tx_n f e b - b
          omega
    · rw [g_sum0 hp] at h
      cases h
/-- what is said of steps: how many codes, how high they lie -/
noncomputable def s_ok (e : Int) (A : Int → Bool × Int) (SA : Int → List lst) (B : Nat) : Prop := ∀ b, 0 ≤ b → b ≤ e → (A b).1 = true → ((scds (SA b)).length : Int) ≤ (A b).2 - b + 1 ∧ ∀ h : Nat, shg (h + B) (SA b) h (h + 1)
theorem s_atm_ok {ok : Prop} {BA BC B : Nat} (iA : g_in e A) (iC : g_in e A2) (hA : ok → s_ok e A SA BA) (hC : ok → s_ok e A2 SC BC) (hB : 1 ≤ B ∧ (ok → BA ≤ B ∧ BC ≤ B)) : s_ok e (g_atm f e A A2 ok) (s_atm f e SA SC) B := by
  intro b h0 h1 ht
  obtain ⟨n1, n2, n3⟩ := tx_nb (f := f) h1
  by_cases h : tx_is f e b wo_not
  · by_cases h2 : ok
    · rw [g_a1 h h2] at ht ⊢
      rw [s_a1 h]
      have nw := tx_nw h1 h
      have nw : b + 3 ≤ tx_n f e b := nw
      obtain ⟨l1, l2⟩ := hA h2 _ (by omega) n2 ht
      refine ⟨?_, fun k => shg_app _ _ (shg_mono (by have := (hB.2 h2).1; omega) _ _ (l2 k)) ?_⟩
      · rw [scds_app, scds_1 (Or.inl rfl), List.length_append]
        show (((scds (SA (tx_n f e b))).length + 1 : Nat) : Int) ≤ _
        omega
      · exact Or.inr (Or.inl ⟨rfl, by omega, rfl⟩)
    · rw [g_a0 (Or.inl h) h2] at ht
      cases ht
  · by_cases h4 : tx_k f e b = 40
    · by_cases h2 : ok
      · have n3 := n3 (tx_kne (f := f) (by omega))
        by_cases h5 : (A2 (tx_n f e b)).1 = true
        · by_cases h6 : tx_k f e (A2 (tx_n f e b)).2 = 41
          · rw [g_a3 h h4 h2 h5 h6, s_a3 h h4]
            obtain ⟨l1, l2⟩ := hC h2 _ (by omega) n2 h5
            obtain ⟨c1, c2, -⟩ := iC _ (by omega) n2
            obtain ⟨m1, -, -⟩ := tx_nb (f := f) c2
            refine ⟨?_, fun k => shg_mono (by have := (hB.2 h2).2; omega) _ _ (l2 k)⟩
            show _ ≤ tx_n f e (A2 (tx_n f e b)).2 - b + 1
            omega
          · rw [g_a4 h h4 h2 h5 h6] at ht
            cases ht
        · rw [g_a2 h h4 h2 h5] at ht
          exact absurd ht h5
      · rw [g_a0 (Or.inr h4) h2] at ht
        cases ht
    · by_cases h5 : tx_is f e b wo_side
      · rw [g_a5 h h4 (Or.inl h5), s_a5 h h4 h5]
        refine ⟨?_, fun k => Or.inl ⟨Or.inr (Or.inl rfl), by omega, rfl⟩⟩
        have := n3 (g_isb h5)
        show ((1 : Nat) : Int) ≤ tx_n f e b - b + 1
        omega
      · by_cases h6 : tx_is f e b wo_first
        · rw [g_a5 h h4 (Or.inr h6), s_a6 h h4 h5 h6]
          refine ⟨?_, fun k => Or.inl ⟨Or.inr (Or.inr rfl), by omega, rfl⟩⟩
          have := n3 (g_isb h6)
          show ((1 : Nat) : Int) ≤ tx_n f e b - b + 1
          omega
        · by_cases h7 : (g_sum f e 400 b).1 = true
          · by_cases h8 : tx_k f e (g_sum f e 400 b).2 = 60 ∨ tx_k f e (g_sum f e 400 b).2 = 62
            · rw [g_a8 h h4 h5 h6 h7 h8] at ht ⊢
              rw [s_a8 h h4 h5 h6 rfl]
              obtain ⟨c1, c2, -⟩ := g_sum_in (f := f) 400 b h0 h1
              obtain ⟨m1, m2, m3⟩ := tx_nb (f := f) c2
              have m3 := m3 (tx_kne (f := f) (by omega))
              obtain ⟨u1, u2, u3⟩ := s_sumw (f := f) 400 b h0 h1 h7
              obtain ⟨v1, v2, v3⟩ := s_sumw (f := f) 400 _ (by omega) m2 ht
              refine ⟨?_, fun k => Or.inl ⟨Or.inl ⟨rfl, u1, v1, u2, v2⟩, by omega, rfl⟩⟩
              rw [scds_c]
              simp only [List.length_append, List.length_map, List.length_cons, List.length_nil]
              omega
            · rw [g_a7 h h4 h5 h6 h7 h8] at ht
              cases ht
          · rw [g_a6 h h4 h5 h6 h7] at ht
            exact absurd ht h7
theorem s_all_f {B : Nat} (iA : g_in e A) (hA : s_ok e A SA B) : ∀ t b, 0 ≤ b → b ≤ e → (g_all f e A t b).1 = true → ((scds (s_all f e A SA t false b)).length : Int) ≤ (g_all f e A t b).2 - b + 2 ∧ ∀ h : Nat, shg (h + B + 1) (s_all f e A SA t false b) (h + 1) (h + 1) := by
  intro t
  induction t with
  | zero => exact fun b _ _ _ => ⟨by show ((0 : Nat) : Int) ≤ b - b + 2; omega, fun h => rfl⟩
  | succ t ih =>
    intro b h0 h1 ht
    by_cases h : (A b).1 = true
    · obtain ⟨l1, l2⟩ := hA b h0 h1 h
      obtain ⟨a1, a2, -⟩ := iA b h0 h1
      have en : ∀ k : Nat, shg (k + B + 1) [((15 : Int), false, ([] : List (Int × Int)), ([] : List (Int × Int)))] (k + 1 + 1) (k + 1) := fun k => Or.inr (Or.inr ⟨Or.inl rfl, by omega, rfl⟩)
      by_cases h2 : tx_is f e (A b).2 wo_and
      · rw [g_l2 h h2] at ht ⊢
        rw [s_l2 h2, if_neg (by decide)]
        obtain ⟨c1, c2, -⟩ := tx_nb (f := f) a2
        have nw := tx_nw a2 h2
        have nw : (A b).2 + 3 ≤ tx_n f e (A b).2 := nw
        obtain ⟨i1, i2⟩ := ih _ (by omega) c2 ht
        refine ⟨?_, fun k => shg_app _ _ ?_ (shg_app _ _ (en k) (i2 k))⟩
        · rw [scds_app, scds_app, scds_1 (Or.inr (Or.inl rfl)), List.length_append, List.length_append]
          show (((scds (SA b)).length + (1 + (scds (s_all f e A SA t false (tx_n f e (A b).2))).length) : Nat) : Int) ≤ _
          omega
        · have := l2 (k + 1)
          exact shg_mono (by omega) _ _ this
      · rw [g_l1 h h2, s_l1 h2, if_neg (by decide)]
        refine ⟨?_, fun k => shg_app _ _ ?_ (en k)⟩
        · rw [scds_app, scds_1 (Or.inr (Or.inl rfl)), List.length_append]
          show (((scds (SA b)).length + 1 : Nat) : Int) ≤ (A b).2 - b + 2
          omega
        · have := l2 (k + 1)
          exact shg_mono (by omega) _ _ this
    · rw [g_l0 h] at ht
      exact absurd ht h
theorem s_all_ok {B : Nat} (iA : g_in e A) (hA : s_ok e A SA B) : s_ok e (g_all f e A 400) (s_all f e A SA 400 true) (B + 1) := by
  intro b h0 h1 ht
  by_cases h : (A b).1 = true
  · obtain ⟨l1, l2⟩ := hA b h0 h1 h
    obtain ⟨a1, a2, -⟩ := iA b h0 h1
    by_cases h2 : tx_is f e (A b).2 wo_and
    · rw [g_l2 (t := 399) h h2] at ht ⊢
      rw [s_l2 (t := 399) h2, if_pos rfl, List.nil_append]
      obtain ⟨c1, c2, -⟩ := tx_nb (f := f) a2
      have nw := tx_nw a2 h2
      have nw : (A b).2 + 3 ≤ tx_n f e (A b).2 := nw
      obtain ⟨i1, i2⟩ := s_all_f iA hA 399 _ (by omega) c2 ht
      refine ⟨?_, fun k => shg_app _ _ (shg_mono (by omega) _ _ (l2 k)) (i2 k)⟩
      rw [scds_app, List.length_append]
      omega
    · rw [g_l1 (t := 399) h h2, s_l1 (t := 399) h2, if_pos rfl, List.append_nil]
      exact ⟨l1, fun k => shg_mono (by omega) _ _ (l2 k)⟩
  · rw [g_l0 (t := 399) h] at ht
    exact absurd ht h
theorem s_cnd_f {B : Nat} (iA : g_in e A) (hA : s_ok e A SA B) : ∀ t b, 0 ≤ b → b ≤ e → (g_cnd f e A t b).1 = true → (((scds (s_cnd f e A SA t false b)).length : Int) ≤ (g_cnd f e A t b).2 - b + 2 ∧ ∀ h : Nat, shg (h + B + 2) (s_cnd f e A SA t false b) (h + 1) (h + 1)) ∧ ((scds (s_cnd f e A SA t true b)).length : Int) ≤ (g_cnd f e A t b).2 - b + 1 ∧ ∀ h : Nat, shg (h + B + 2) (s_cnd f e A SA t true b) h (h + 1) := by
  intro t
  induction t with
  | zero => exact fun b _ _ h => by cases h
  | succ t ih =>
    intro b h0 h1 ht
    by_cases h : (g_all f e A 400 b).1 = true
    · obtain ⟨l1, l2⟩ := s_all_ok (f := f) iA hA b h0 h1 h
      obtain ⟨a1, a2, -⟩ := g_all_in (f := f) iA 400 b h0 h1
      have en : ∀ k : Nat, shg (k + B + 2) [((16 : Int), false, ([] : List (Int × Int)), ([] : List (Int × Int)))] (k + 1 + 1) (k + 1) := fun k => Or.inr (Or.inr ⟨Or.inr rfl, by omega, rfl⟩)
      by_cases h2 : tx_is f e (g_all f e A 400 b).2 wo_or
      · rw [g_d2 h h2] at ht ⊢
        rw [s_d2 h2, s_d2 h2, if_neg (by decide), if_pos rfl, List.nil_append]
        obtain ⟨c1, c2, -⟩ := tx_nb (f := f) a2
        have nw := tx_nw a2 h2
        have nw : (g_all f e A 400 b).2 + 2 ≤ tx_n f e (g_all f e A 400 b).2 := nw
        obtain ⟨⟨i1, i2⟩, -, -⟩ := ih _ (by omega) c2 ht
        refine ⟨⟨?_, fun k => shg_app _ _ ?_ (shg_app _ _ (en k) (i2 k))⟩, ?_, fun k => shg_app _ _ (shg_mono (by omega) _ _ (l2 k)) (i2 k)⟩
        · rw [scds_app, scds_app, scds_1 (Or.inr (Or.inr (Or.inl rfl))), List.length_append, List.length_append]
          show (((scds (s_all f e A SA 400 true b)).length + (1 + (scds (s_cnd f e A SA t false (tx_n f e (g_all f e A 400 b).2))).length) : Nat) : Int) ≤ _
          omega
        · have := l2 (k + 1)
          exact shg_mono (by omega) _ _ this
        · rw [scds_app, List.length_append]
          omega
      · rw [g_d1 h h2, s_d1 h2, s_d1 h2, if_neg (by decide), if_pos rfl, List.append_nil]
        refine ⟨⟨?_, fun k => shg_app _ _ ?_ (en k)⟩, l1, fun k => shg_mono (by omega) _ _ (l2 k)⟩
        · rw [scds_app, scds_1 (Or.inr (Or.inr (Or.inl rfl))), List.length_append]
          show (((scds (s_all f e A SA 400 true b)).length + 1 : Nat) : Int) ≤ (g_all f e A 400 b).2 - b + 2
          omega
        · have := l2 (k + 1)
          exact shg_mono (by omega) _ _ this
    · rw [g_d0 h] at ht
      exact absurd ht h
theorem s_cnd_ok {B : Nat} (iA : g_in e A) (hA : s_ok e A SA B) : s_ok e (g_cnd f e A 400) (fun b => s_cnd f e A SA 400 true b) (B + 2) := fun b h0 h1 ht => (s_cnd_f iA hA 400 b h0 h1 ht).2
theorem s_at_ok : ∀ k : Nat, s_ok e (g_at f e k) (s_at f e k) (1 + 2 * k) := by
  intro k
  induction k with
  | zero => exact s_atm_ok (BA := 0) (BC := 0) g_no_in g_no_in (fun h => h.elim) (fun h => h.elim) ⟨by decide, fun h => h.elim⟩
  | succ k ih => exact s_atm_ok (g_at_in k) (g_cnd_in (g_at_in k) 400) (fun _ => ih) (fun _ => s_cnd_ok (g_at_in k) ih) ⟨by omega, fun _ => ⟨by omega, by omega⟩⟩
theorem s_cd_ok (k : Nat) : s_ok e (g_cd f e k) (s_cd f e k) (3 + 2 * k) := by
  have h := s_cnd_ok (f := f) (g_at_in k) (s_at_ok (f := f) (e := e) k)
  intro b h0 h1 ht
  obtain ⟨a, c⟩ := h b h0 h1 ht
  exact ⟨a, fun h => shg_mono (by omega) _ _ (c h)⟩
end KS1
end
