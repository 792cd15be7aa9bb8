/-! 7a24.c14rn -/
section
/-! THE CLASS: heats, speeds and floods made anew (laid by wip/core/c14.py). -/
/-- the draws -/
def hnum (s : Int) : Nat → Int
  | 0 => s
  | k + 1 => (1103515245 * hnum s k) + 12345
theorem and_b {x : Int} : 0 ≤ gm_and x 32767 ∧ gm_and x 32767 ≤ 32767 := by
  have h : (Int32.ofInt x &&& Int32.ofInt 32767).toBitVec = (Int32.ofInt x).toBitVec &&& 32767#32 := rfl
  have h2 : gm_and x 32767 = ((Int32.ofInt x).toBitVec &&& 32767#32).toInt := rfl
  rw [h2]
  have h3 : ((Int32.ofInt x).toBitVec &&& 32767#32).toNat ≤ 32767 := by
    rw [BitVec.toNat_and]
    exact Nat.and_le_right
  rw [BitVec.toInt_eq_toNat_of_lt (by omega)]
  exact ⟨by omega, by omega⟩
/-- the bits behind the sixteenth: a sign shifted in makes no odds -/
theorem and_sh {x : Int} : gm_and (gm_ushr x 16) 32767 = gm_and (gm_shr x 16) 32767 := by
  have e1 : gm_and (gm_ushr x 16) 32767 = ((bI (gm_ushr x 16)) &&& 32767#32).toInt := rfl
  have e2 : gm_and (gm_shr x 16) 32767 = ((bI (gm_shr x 16)) &&& 32767#32).toInt := rfl
  have e3 : bI (gm_ushr x 16) = (bI x) >>> 16 := by
    unfold gm_ushr
    rw [bI_toInt]
    show (Int32.ofInt x).toBitVec >>> (((Int32.ofInt 16).toUInt32 &&& Int32.toUInt32 31).toBitVec % 32#32) = _
    rw [show ((Int32.ofInt 16).toUInt32 &&& Int32.toUInt32 31).toBitVec % 32#32 = 16#32 by decide, BitVec.ushiftRight_eq']
    rfl
  have e4 : bI (gm_shr x 16) = (bI x).sshiftRight 16 := by
    unfold gm_shr
    rw [bI_toInt]
    show (Int32.ofInt x).toBitVec.sshiftRight' ((Int32.ofInt 16 &&& 31).toBitVec.smod 32#32) = _
    rw [show (Int32.ofInt 16 &&& 31).toBitVec.smod 32#32 = 16#32 by decide, BitVec.sshiftRight_eq']
    rfl
  rw [e1, e2, e3, e4]
  congr 1
  apply BitVec.eq_of_getLsbD_eq
  intro i hi
  rw [BitVec.getLsbD_and, BitVec.getLsbD_and, BitVec.getLsbD_ushiftRight, BitVec.getLsbD_sshiftRight]
  by_cases h : i < 15
  · have h1 : ¬ 32 ≤ i := by omega
    have h2 : 16 + i < 32 := by omega
    simp [h1, h2]
  · have h3 : (32767#32).getLsbD i = false := by
      have h32 : i < 32 := hi
      have : i = 15 ∨ i = 16 ∨ i = 17 ∨ i = 18 ∨ i = 19 ∨ i = 20 ∨ i = 21 ∨ i = 22 ∨ i = 23 ∨ i = 24 ∨ i = 25 ∨ i = 26 ∨ i = 27 ∨ i = 28 ∨ i = 29 ∨ i = 30 ∨ i = 31 := by omega
      rcases this with rfl | rfl | rfl | rfl | rfl | rfl | rfl | rfl | rfl | rfl | rfl | rfl | rfl | rfl | rfl | rfl | rfl <;> decide
    rw [h3, Bool.and_false, Bool.and_false]
/-- HEAT -/
def hts (s y : Int) : Int := gm_and (gm_shr (hnum s (y.toNat + 1)) 16) 32767 % 10
theorem hts_b {s y : Int} : 0 ≤ hts s y ∧ hts s y ≤ 9 := by
  unfold hts
  exact ⟨by omega, by omega⟩
/-- speeds, those beside the valley 0 -/
def spd (N : Int → Int) (l r : Int) : Int := if l < N 0 ∧ r < N 1 then nsp N l r else 0
theorem spd_b {N : Int → Int} (hN : NR N) (hS : NS N) {l r : Int} (h0 : 0 ≤ l) : 0 ≤ spd N l r ∧ spd N l r ≤ 20 := by
  have a2 := hN.2.1.1
  unfold spd
  split
  · rename_i h
    exact rsp_b hS ⟨h0, h.1⟩ (N 2).toNat (by omega)
  · exact ⟨Int.le_refl _, by decide⟩
/-- the speeds in the midst: s sections done, of the next LANES ahead of l, and of l ROWS ahead of r0 -/
def SP2 (N : Int → Int) (s : Nat) (l r0 : Int) (M : gm_M) : Prop := ∀ l2 r, 0 ≤ l2 → l2 < 6 → 0 ≤ r → r < 99 → M 202 (l2 * 99 + r) = if l2 < N 0 ∧ r < N 1 then (if l2 < l ∨ (l2 = l ∧ r < r0) then rsp N l2 r (s + 1) else rsp N l2 r s) else 0
section SP14
variable {N : Int → Int} {M M2 : gm_M} {s : Nat} {l r0 : Int}
theorem sp2_e (h : ∀ j, M2 202 j = M 202 j) (h2 : SP2 N s l r0 M) : SP2 N s l r0 M2 := fun l2 r a b c e => by rw [h]; exact h2 l2 r a b c e
/-- ahead of the section's ROW nothing changes -/
theorem sp2_f (h : SP2 N s l 0 M) {f : Int} (hf : N (15 + 7 * (s : Int)) = f) : SP2 N s l f M := by
  intro l2 r a b c e
  rw [h l2 r a b c e]
  by_cases h1 : l2 < N 0 ∧ r < N 1
  · rw [if_pos h1, if_pos h1]
    by_cases h2 : l2 < l
    · rw [if_pos (Or.inl h2), if_pos (Or.inl h2)]
    · rw [if_neg (by omega)]
      by_cases h3 : l2 = l ∧ r < f
      · rw [if_pos (Or.inr h3)]
        show _ = if N (15 + 7 * (s : Int)) ≤ r then _ else rsp N l2 r s
        rw [hf, if_neg (by omega)]
      · rw [if_neg (by omega)]
  · rw [if_neg h1, if_neg h1]
theorem sp2_r (h : SP2 N s l r0 M) (hl : 0 ≤ l ∧ l < 6) (hr : 0 ≤ r0 ∧ r0 < 99) (hl0 : l < N 0) (hr1 : r0 < N 1) (hf : N (15 + 7 * (s : Int)) ≤ r0) {v : Int} (hv : N (15 + 7 * (s : Int) + 1 + l) = v) : SP2 N s l (r0 + 1) (gm_uM M 202 (l * 99 + r0) v) := by
  intro l2 r a b c e
  by_cases h9 : l2 = l ∧ r = r0
  · obtain ⟨rfl, rfl⟩ := h9
    rw [uM_at, if_pos ⟨hl0, hr1⟩, if_pos (Or.inr ⟨rfl, by omega⟩)]
    show v = if N (15 + 7 * (s : Int)) ≤ r then N (15 + 7 * (s : Int) + 1 + l2) else _
    rw [if_pos hf, hv]
  · rw [uM_ne (by omega), h l2 r a b c e]
    by_cases h1 : l2 < N 0 ∧ r < N 1
    · rw [if_pos h1, if_pos h1]
      by_cases h2 : l2 < l ∨ (l2 = l ∧ r < r0)
      · rw [if_pos h2, if_pos (by omega)]
      · rw [if_neg h2, if_neg (by omega)]
    · rw [if_neg h1, if_neg h1]
theorem sp2_x (h : SP2 N s l r0 M) (hr : N 1 ≤ r0) : SP2 N s (l + 1) 0 M := by
  intro l2 r a b c e
  rw [h l2 r a b c e]
  by_cases h1 : l2 < N 0 ∧ r < N 1
  · rw [if_pos h1, if_pos h1]
    by_cases h2 : l2 < l ∨ (l2 = l ∧ r < r0)
    · rw [if_pos h2, if_pos (by omega)]
    · rw [if_neg h2, if_neg (by omega)]
  · rw [if_neg h1, if_neg h1]
theorem sp2_n (h : SP2 N s l 0 M) (hl : N 0 ≤ l) : SP2 N (s + 1) 0 0 M := by
  intro l2 r a b c e
  rw [h l2 r a b c e]
  by_cases h1 : l2 < N 0 ∧ r < N 1
  · rw [if_pos h1, if_pos h1, if_pos (by omega), if_neg (by omega)]
  · rw [if_neg h1, if_neg h1]
theorem sp2_z (h : ∀ j, 0 ≤ j → j < 594 → M 202 j = 0) : SP2 N 0 0 0 M := by
  intro l2 r a b c e
  rw [h _ (by omega) (by omega)]
  by_cases h1 : l2 < N 0 ∧ r < N 1
  · rw [if_pos h1, if_neg (by omega)]
    rfl
  · rw [if_neg h1]
theorem sp2_d (h : SP2 N s 0 0 M) (hs : (N 2).toNat = s) : ∀ l2 r, 0 ≤ l2 → l2 < 6 → 0 ≤ r → r < 99 → M 202 (l2 * 99 + r) = spd N l2 r := by
  intro l2 r a b c e
  rw [h l2 r a b c e]
  unfold spd nsp
  rw [hs]
  by_cases h1 : l2 < N 0 ∧ r < N 1
  · rw [if_pos h1, if_pos h1, if_neg (by omega)]
  · rw [if_neg h1, if_neg h1]
end SP14
/-- bits -/
theorem n8 {f : Nat} (h : f < 8) : f = 0 ∨ f = 1 ∨ f = 2 ∨ f = 3 ∨ f = 4 ∨ f = 5 ∨ f = 6 ∨ f = 7 := by omega
theorem sh_8 {k : Nat} (hk : k < 8) : ((Int32.ofInt (k : Int)) &&& 31).toBitVec.smod 32#32 = BitVec.ofNat 32 k := by
  rcases n8 hk with rfl | rfl | rfl | rfl | rfl | rfl | rfl | rfl <;> decide
theorem bI_shr8 {a : Int} {k : Nat} (hk : k < 8) : bI (gm_shr a (k : Int)) = (bI a).sshiftRight k := by
  unfold gm_shr
  rw [bI_toInt]
  show (Int32.ofInt a).toBitVec.sshiftRight' ((Int32.ofInt (k : Int) &&& 31).toBitVec.smod 32#32) = _
  rw [sh_8 hk, BitVec.sshiftRight_eq', BitVec.toNat_ofNat, Nat.mod_eq_of_lt (by omega)]
  rfl
theorem and_1 {x : Int} : gm_and x 1 = 1 ↔ (bI x).getLsbD 0 = true := SB_top (l := []) ⟨by show 1 ≤ 32; decide, fun i v h => by
  cases i with
  | zero => simpa using h
  | succ i => simp at h⟩
theorem bit_8 {b : Int} {f : Nat} (hf : f < 8) : gm_and (gm_shr b (f : Int)) 1 = 1 ↔ (bI b).getLsbD f = true := by
  rw [and_1, bI_shr8 hf, BitVec.getLsbD_sshiftRight]
  have h2 : f < 32 := by omega
  have h3 : ¬ 32 ≤ f := by omega
  simp [h2, h3]
theorem bit_s {k f : Nat} (hk : k < 8) (hf : f < 8) : (bI (gm_shl 1 (k : Int))).getLsbD f = decide (f = k) := by
  rcases n8 hk with rfl | rfl | rfl | rfl | rfl | rfl | rfl | rfl <;> rcases n8 hf with rfl | rfl | rfl | rfl | rfl | rfl | rfl | rfl <;> decide
theorem bit_or {b : Int} {k f : Nat} (hk : k < 8) (hf : f < 8) : gm_and (gm_shr (gm_or b (gm_shl 1 (k : Int))) (f : Int)) 1 = 1 ↔ (gm_and (gm_shr b (f : Int)) 1 = 1 ∨ f = k) := by
  rw [bit_8 hf, bit_8 hf, bI_or, BitVec.getLsbD_or, bit_s hk hf, Bool.or_eq_true, decide_eq_true_eq]
/-- the bits of a year's floods, k of them looked at -/
def fbk (N : Int → Int) (k : Nat) (y b : Int) : Prop := gm_ir b ∧ ∀ f : Nat, f < 8 → (gm_and (gm_shr b (f : Int)) 1 = 1 ↔ (f < k ∧ (N (71 + ((f : Int) * 3 + 0))) = y))
section FB14
variable {N : Int → Int} {k : Nat} {y b : Int}
theorem fbk_0 : fbk N 0 y 0 := ⟨⟨by decide, by decide⟩, fun f hf => ⟨fun h => absurd h (fbit_0 hf), fun h => absurd h.1 (Nat.not_lt_zero _)⟩⟩
theorem fbk_y (h : fbk N k y b) (hy : (N (71 + ((k : Int) * 3 + 0))) = y) (hk : k < 8) : fbk N (k + 1) y (gm_or b (gm_shl 1 (k : Int))) := ⟨or_ir, fun f hf => by
  rw [bit_or hk hf, h.2 f hf]
  constructor
  · rintro (h1 | rfl)
    · exact ⟨by omega, h1.2⟩
    · exact ⟨by omega, hy⟩
  · intro h1
    by_cases e : f = k
    · exact Or.inr e
    · exact Or.inl ⟨by omega, h1.2⟩⟩
theorem fbk_n (h : fbk N k y b) (hy : ¬ (N (71 + ((k : Int) * 3 + 0))) = y) : fbk N (k + 1) y b := ⟨h.1, fun f hf => by
  rw [h.2 f hf]
  constructor
  · intro h1
    exact ⟨by omega, h1.2⟩
  · intro h1
    refine ⟨?_, h1.2⟩
    by_cases e : f = k
    · subst e
      exact absurd h1.2 hy
    · omega⟩
theorem fbk_f (h : fbk N k y b) (hk : (k : Int) = N 5) : gm_ir b ∧ fbit N y b := ⟨h.1, fun f hf => by
  rw [h.2 f hf]
  exact ⟨fun a => ⟨by omega, a.2⟩, fun a => ⟨by omega, a.2⟩⟩⟩
end FB14
section RN14
variable {X : Int → Int} {LX d bc bs n : Nat} {K : gm_K} {R : gm_R} {M : gm_M} {Q : gm_Q} {s f v l : Int} {N : Int → Int}
/-- what is told, without what is made of it -/
def TQ (N : Int → Int) (M : gm_M) : Prop := CST M ∧ cs M 3 = N
theorem tq_fr {M2 : gm_M} {W : List (Nat × Option Int)} (hT : TQ N M) (h9 : fr W M M2) (hw : W.all (fun w => !(decide (3 ≤ w.1) && decide (w.1 ≤ 15))) = true) (hc : W.all (fun w => cstL.all (fun q => !(q.1 == w.1 && (w.2 == none || w.2 == some q.2.1)))) = true) : TQ N M2 := ⟨cst_fr hT.1 h9 hc, (cs_same fun x j x1 x2 => h9 x j (fun hm => by have := List.all_eq_true.mp hw _ hm; simp at this; omega) (fun hm => by have := List.all_eq_true.mp hw _ hm; simp at this; omega)).trans hT.2⟩
theorem tq_lan (hT : TQ N M) : M 3 0 = N 0 := congrFun hT.2 0
theorem tq_las (hT : TQ N M) : M 3 1 = N 1 := congrFun hT.2 1
theorem tq_see (hT : TQ N M) : M 3 5 = N 13 := congrFun hT.2 13
theorem tq_sec (hT : TQ N M) : M 4 3 = N 2 := congrFun hT.2 2
theorem tq_flo (hT : TQ N M) : M 6 3 = N 5 := congrFun hT.2 5
theorem tq_aS (hT : TQ N M) {j : Int} (h0 : 0 ≤ j) (h1 : j < 56) : M 5 j = N (15 + j) := by
  have e := congrFun hT.2 (15 + j)
  rw [← e]
  unfold cs
  rw [if_neg (show ¬ 15 + j < 0 by omega), if_neg (show ¬ 15 + j < 15 by omega), if_pos (show 15 + j < 71 by omega)]
  show M 5 j = M 5 _
  congr 1
  omega
theorem tq_aF (hT : TQ N M) {j : Int} (h0 : 0 ≤ j) (h1 : j < 24) : M 7 j = N (71 + j) := by
  have e := congrFun hT.2 (71 + j)
  rw [← e]
  unfold cs
  rw [if_neg (show ¬ 71 + j < 0 by omega), if_neg (show ¬ 71 + j < 15 by omega), if_neg (show ¬ 71 + j < 71 by omega), if_pos (show 71 + j < 95 by omega)]
  show M 7 j = M 7 _
  congr 1
  omega
theorem rh_l (hE : E0 n K R) (hT : TQ N M) (hN : NR N) (hq : ∀ M2, fr [(201, none)] M M2 → (∀ y, 0 ≤ y → y < 300 → M2 201 y = hts (N 13) y) → Q (.inl none) n K R M2) : ∀ (u k : Nat) (M1 : gm_M), k + u = 300 → fr [(201, none)] M M1 → (∀ y, 0 ≤ y → y < (k : Int) → M1 201 y = hts (N 13) y) → gm_Wp X LX d bc bs 6 10 [some (gm_vr 200), some (gm_vi (hnum (N 13) k)), some (gm_vi (k : Int))] [] n K R M1 Q := by
  intro u
  induction u with
  | zero =>
    intro k M1 hk hf hy
    refine gm_sz (gm_p_load (pc := 10) (i := .iload_n 2) (sr := 0) (j := 2) (by decide +kernel) rfl rfl rfl) ?_
    refine gm_sz (gm_p_const (pc := 11) (i := .sipush 300) (v := gm_vi 300) (by decide +kernel) (by decide +kernel)) ?_
    refine fw_ict (cc := .ge) (pc := 14) (off := 35) (by decide +kernel) (by decide) ⟨by omega, by omega⟩ ⟨by decide, by decide⟩ (show 300 ≤ (k : Int) by omega) ?_
    exact gm_r_void (pc := 49) (by decide +kernel) (by decide +kernel) (hq M1 hf (fun y y0 y1 => hy y y0 (by omega)))
  | succ u ih =>
    intro k M1 hk hf hy
    refine gm_sz (gm_p_load (pc := 10) (i := .iload_n 2) (sr := 0) (j := 2) (by decide +kernel) rfl rfl rfl) ?_
    refine gm_sz (gm_p_const (pc := 11) (i := .sipush 300) (v := gm_vi 300) (by decide +kernel) (by decide +kernel)) ?_
    refine fw_icf (cc := .ge) (pc := 14) (off := 35) (by decide +kernel) (by decide) ⟨by omega, by omega⟩ ⟨by decide, by decide⟩ (show ¬ 300 ≤ (k : Int) by omega) ?_
    refine gm_sz (gm_p_ldci (pc := 17) (i := .ldc 56) (ix := 56) (v := 1103515245) (by decide +kernel) (Or.inl rfl) (by decide +kernel)) ?_
    refine gm_sz (gm_p_load (pc := 19) (i := .iload_n 1) (sr := 0) (j := 1) (by decide +kernel) rfl rfl rfl) ?_
    refine gm_sz (gm_p_bin (pc := 20) (i := .imul) (f := fun x y => x * y) (by decide +kernel) rfl) ?_
    refine gm_sz (gm_p_const (pc := 21) (i := .sipush 12345) (v := gm_vi 12345) (by decide +kernel) (by decide +kernel)) ?_
    refine gm_sz (gm_p_bin (pc := 24) (i := .iadd) (f := fun x y => x + y) (by decide +kernel) rfl) ?_
    refine gm_sz (gm_p_stor (pc := 25) (i := .istore_n 1) (sr := 0) (j := 1) (by decide +kernel) rfl (show 2 ≤ _ from Nat.le_of_ble_eq_true rfl) rfl) ?_
    refine gm_sz (gm_p_load (pc := 26) (i := .aload_n 0) (sr := 2) (j := 0) (by decide +kernel) rfl rfl rfl) ?_
    refine gm_sz (fw_gr (pc := 27) (ix := 9) (ci := 4) (j := 1) (r := 201) (by decide +kernel) (e0k hE (k := 200) (c := 4) (by decide +kernel)) (by decide +kernel) (by decide +kernel) (e0r hE (k := 200) (j := 1) (r := 201) (by decide +kernel))) ?_
    refine gm_sz (gm_p_load (pc := 30) (i := .iload_n 2) (sr := 0) (j := 2) (by decide +kernel) rfl rfl rfl) ?_
    refine gm_sz (gm_p_load (pc := 31) (i := .iload_n 1) (sr := 0) (j := 1) (by decide +kernel) rfl rfl rfl) ?_
    refine gm_sz (gm_p_const (pc := 32) (i := .bipush 16) (v := gm_vi 16) (by decide +kernel) (by decide +kernel)) ?_
    refine gm_sz (gm_p_bin (pc := 34) (i := .iushr) (f := gm_ushr) (by decide +kernel) rfl) ?_
    refine gm_sz (gm_p_const (pc := 35) (i := .sipush 32767) (v := gm_vi 32767) (by decide +kernel) (by decide +kernel)) ?_
    refine gm_sz (gm_p_bin (pc := 38) (i := .iand) (f := gm_and) (by decide +kernel) rfl) ?_
    have hb9 := and_b (x := gm_ushr ((1103515245 * (hnum (N 13) k)) + 12345) 16)
    refine gm_sz (gm_p_const (pc := 39) (i := .bipush 10) (v := gm_vi 10) (by decide +kernel) (by decide +kernel)) ?_
    refine gm_sz (gm_p_rem (pc := 41) (by decide +kernel) (by decide)) ?_
    rw [fw_rem (a := gm_and (gm_ushr ((1103515245 * (hnum (N 13) k)) + 12345) 16) 32767) (b := 10) (by omega) (by omega) (by decide)]
    refine gm_sz (fw_is (pc := 42) (k := 201) (len := 300) (e0 := (k : Int)) (x := (gm_and (gm_ushr ((1103515245 * (hnum (N 13) k)) + 12345) 16) 32767) % 10) (M' := gm_uM M1 201 (k : Int) ((gm_and (gm_ushr ((1103515245 * (hnum (N 13) k)) + 12345) 16) 32767) % 10)) (by decide +kernel) (e0a hE (k := 201) (q := (0, 300)) (by decide +kernel)).1 (e0a hE (k := 201) (q := (0, 300)) (by decide +kernel)).2 (by decide) ⟨by omega, by omega⟩ rfl) ?_
    refine gm_sz (gm_p_iinc (pc := 43) (j := 2) (z := 1) (by decide +kernel) rfl) ?_
    refine gm_sz (gm_p_goto (pc := 46) (off := (-36)) (by decide +kernel) (by decide)) ?_
    refine ih (k + 1) _ (by omega) (fr_p (fr_t fr_0 hf (by decide)) (Or.inl (by decide))) (fun y y0 y1 => ?_)
    by_cases e : y = (k : Int)
    · subst e
      rw [uM_at]
      unfold hts
      rw [show ((k : Int)).toNat = k from Int.toNat_natCast k, ← and_sh]
      rfl
    · exact (uM_ne (fun hh => e hh.2)).trans (hy y y0 (by omega))
theorem rh_c6 (hE : E0 n K R) (hT : TQ N M) (hN : NR N) (hq : ∀ M2, fr [(201, none)] M M2 → (∀ y, 0 ≤ y → y < 300 → M2 201 y = hts (N 13) y) → Q (.inl none) n K R M2) : gm_Wp X LX d bc bs 6 0 (gm_ent 6 [gm_vr 200]) [] n K R M Q := by
  refine gm_sz (gm_p_load (pc := 0) (i := .aload_n 0) (sr := 2) (j := 0) (by decide +kernel) rfl rfl rfl) ?_
  refine gm_sz (fw_gr (pc := 1) (ix := 34) (ci := 4) (j := 0) (r := 3) (by decide +kernel) (e0k hE (k := 200) (c := 4) (by decide +kernel)) (by decide +kernel) (by decide +kernel) (e0r hE (k := 200) (j := 0) (r := 3) (by decide +kernel))) ?_
  refine gm_sz (fw_gi (pc := 4) (ix := 50) (ci := 1) (j := 5) (x := N 13) (by decide +kernel) (e0k hE (k := 3) (c := 1) (by decide +kernel)) (by decide +kernel) (by decide +kernel) (tq_see hT)) ?_
  refine gm_sz (gm_p_stor (pc := 7) (i := .istore_n 1) (sr := 0) (j := 1) (by decide +kernel) rfl (show 2 ≤ _ from Nat.le_of_ble_eq_true rfl) rfl) ?_
  refine gm_sz (gm_p_const (pc := 8) (i := .iconst 0) (v := gm_vi 0) (by decide +kernel) (by decide +kernel)) ?_
  refine gm_sz (gm_p_stor (pc := 9) (i := .istore_n 2) (sr := 0) (j := 2) (by decide +kernel) rfl (show 3 ≤ _ from Nat.le_of_ble_eq_true rfl) rfl) ?_
  exact rh_l hE hT hN hq 300 0 M rfl fr_0 (fun y y0 y1 => absurd y1 (by omega))
theorem rs_r (hE : E0 n K R) (hT : TQ N M) (hN : NR N) {k : Nat} (hk : (k : Int) < N 2) (hl : 0 ≤ l ∧ l < N 0 ∧ l < 6) (hf0 : 0 ≤ f) (hf1 : N (15 + 7 * (k : Int)) ≤ f) (hv : N (15 + 7 * (k : Int) + 1 + l) = v) {z2 : Option gm_V} (hq : ∀ M2 r, fr [(202, none)] M M2 → N 1 ≤ r → SP2 N k l r M2 → gm_Wp X LX d bc bs 7 118 [some (gm_vr 200), some (gm_vi (k : Int)), z2, some (gm_vi l), some (gm_vi v), some (gm_vi r)] [] n K R M2 Q) : ∀ (u : Nat) (r : Int) (M1 : gm_M), (N 1 - r).toNat = u → f ≤ r → r ≤ 99 → fr [(202, none)] M M1 → SP2 N k l r M1 → gm_Wp X LX d bc bs 7 79 [some (gm_vr 200), some (gm_vi (k : Int)), z2, some (gm_vi l), some (gm_vi v), some (gm_vi r)] [] n K R M1 Q := by
  have b1 := hN.1.2.1
  intro u
  induction u with
  | zero =>
    intro r M1 hu hfr hr9 hf hs
    refine gm_sz (gm_p_load (pc := 79) (i := .iload 5) (sr := 0) (j := 5) (by decide +kernel) rfl rfl rfl) ?_
    refine gm_sz (gm_p_load (pc := 81) (i := .aload_n 0) (sr := 2) (j := 0) (by decide +kernel) rfl rfl rfl) ?_
    refine gm_sz (fw_gr (pc := 82) (ix := 34) (ci := 4) (j := 0) (r := 3) (by decide +kernel) (e0k hE (k := 200) (c := 4) (by decide +kernel)) (by decide +kernel) (by decide +kernel) (e0r hE (k := 200) (j := 0) (r := 3) (by decide +kernel))) ?_
    refine gm_sz (fw_gi (pc := 85) (ix := 85) (ci := 1) (j := 1) (x := N 1) (by decide +kernel) (e0k hE (k := 3) (c := 1) (by decide +kernel)) (by decide +kernel) (by decide +kernel) ((fr_c hf (by decide)).trans (tq_las hT))) ?_
    refine fw_ict (cc := .ge) (pc := 88) (off := 30) (by decide +kernel) (by decide) ⟨by omega, by omega⟩ ⟨by omega, by omega⟩ (show (N 1) ≤ r by omega) ?_
    exact hq M1 r hf (by omega) hs
  | succ u ih =>
    intro r M1 hu hfr hr9 hf hs
    refine gm_sz (gm_p_load (pc := 79) (i := .iload 5) (sr := 0) (j := 5) (by decide +kernel) rfl rfl rfl) ?_
    refine gm_sz (gm_p_load (pc := 81) (i := .aload_n 0) (sr := 2) (j := 0) (by decide +kernel) rfl rfl rfl) ?_
    refine gm_sz (fw_gr (pc := 82) (ix := 34) (ci := 4) (j := 0) (r := 3) (by decide +kernel) (e0k hE (k := 200) (c := 4) (by decide +kernel)) (by decide +kernel) (by decide +kernel) (e0r hE (k := 200) (j := 0) (r := 3) (by decide +kernel))) ?_
    refine gm_sz (fw_gi (pc := 85) (ix := 85) (ci := 1) (j := 1) (x := N 1) (by decide +kernel) (e0k hE (k := 3) (c := 1) (by decide +kernel)) (by decide +kernel) (by decide +kernel) ((fr_c hf (by decide)).trans (tq_las hT))) ?_
    refine fw_icf (cc := .ge) (pc := 88) (off := 30) (by decide +kernel) (by decide) ⟨by omega, by omega⟩ ⟨by omega, by omega⟩ (show ¬ (N 1) ≤ r by omega) ?_
    refine gm_sz (gm_p_load (pc := 91) (i := .iload 5) (sr := 0) (j := 5) (by decide +kernel) rfl rfl rfl) ?_
    refine gm_sz (gm_p_const (pc := 93) (i := .bipush 99) (v := gm_vi 99) (by decide +kernel) (by decide +kernel)) ?_
    refine fw_icf (cc := .ge) (pc := 95) (off := 23) (by decide +kernel) (by decide) ⟨by omega, by omega⟩ ⟨by decide, by decide⟩ (show ¬ 99 ≤ r by omega) ?_
    refine gm_sz (gm_p_load (pc := 98) (i := .aload_n 0) (sr := 2) (j := 0) (by decide +kernel) rfl rfl rfl) ?_
    refine gm_sz (fw_gr (pc := 99) (ix := 15) (ci := 4) (j := 2) (r := 202) (by decide +kernel) (e0k hE (k := 200) (c := 4) (by decide +kernel)) (by decide +kernel) (by decide +kernel) (e0r hE (k := 200) (j := 2) (r := 202) (by decide +kernel))) ?_
    refine gm_sz (gm_p_load (pc := 102) (i := .iload_n 3) (sr := 0) (j := 3) (by decide +kernel) rfl rfl rfl) ?_
    refine gm_sz (gm_p_const (pc := 103) (i := .bipush 99) (v := gm_vi 99) (by decide +kernel) (by decide +kernel)) ?_
    refine gm_sz (gm_p_bin (pc := 105) (i := .imul) (f := fun x y => x * y) (by decide +kernel) rfl) ?_
    refine gm_sz (gm_p_load (pc := 106) (i := .iload 5) (sr := 0) (j := 5) (by decide +kernel) rfl rfl rfl) ?_
    refine gm_sz (gm_p_bin (pc := 108) (i := .iadd) (f := fun x y => x + y) (by decide +kernel) rfl) ?_
    refine gm_sz (gm_p_load (pc := 109) (i := .iload 4) (sr := 0) (j := 4) (by decide +kernel) rfl rfl rfl) ?_
    refine gm_sz (fw_is (pc := 111) (k := 202) (len := 594) (e0 := (l * 99) + r) (x := v) (M' := gm_uM M1 202 ((l * 99) + r) v) (by decide +kernel) (e0a hE (k := 202) (q := (0, 594)) (by decide +kernel)).1 (e0a hE (k := 202) (q := (0, 594)) (by decide +kernel)).2 (by decide) ⟨by omega, by omega⟩ rfl) ?_
    refine gm_sz (gm_p_iinc (pc := 112) (j := 5) (z := 1) (by decide +kernel) rfl) ?_
    refine gm_sz (gm_p_goto (pc := 115) (off := (-36)) (by decide +kernel) (by decide)) ?_
    exact ih (r + 1) _ (by omega) (by omega) (by omega) (fr_p (fr_t fr_0 hf (by decide)) (Or.inl (by decide))) (sp2_r hs ⟨hl.1, hl.2.2⟩ ⟨by omega, by omega⟩ hl.2.1 (by omega) (by omega) hv)
theorem rs_n (hd : 1 ≤ d) (hE : E0 n K R) (hT : TQ N M) (hN : NR N) (hS : NS N) {k : Nat} (hk : (k : Int) < N 2) (hf : N (15 + 7 * (k : Int)) = f) (hq : ∀ M2 z4 z5 l, fr [(202, none)] M M2 → N 0 ≤ l → SP2 N k l 0 M2 → gm_Wp X LX d bc bs 7 124 [some (gm_vr 200), some (gm_vi (k : Int)), some (gm_vi f), some (gm_vi l), z4, z5] [] n K R M2 Q) : ∀ (u : Nat) (l : Int) (z4 z5 : Option gm_V) (M1 : gm_M), (N 0 - l).toNat = u → 0 ≤ l → l ≤ 6 → fr [(202, none)] M M1 → SP2 N k l 0 M1 → gm_Wp X LX d bc bs 7 43 [some (gm_vr 200), some (gm_vi (k : Int)), some (gm_vi f), some (gm_vi l), z4, z5] [] n K R M1 Q := by
  have b0 := hN.1.1
  have b2 := hN.2.1.1
  obtain ⟨⟨s0, s1⟩, s2⟩ := hS (k : Int) (by omega) hk
  intro u
  induction u with
  | zero =>
    intro l z4 z5 M1 hu hl hl6 hf1 hs
    refine gm_sz (gm_p_load (pc := 43) (i := .iload_n 3) (sr := 0) (j := 3) (by decide +kernel) rfl rfl rfl) ?_
    refine gm_sz (gm_p_load (pc := 44) (i := .aload_n 0) (sr := 2) (j := 0) (by decide +kernel) rfl rfl rfl) ?_
    refine gm_sz (fw_gr (pc := 45) (ix := 34) (ci := 4) (j := 0) (r := 3) (by decide +kernel) (e0k hE (k := 200) (c := 4) (by decide +kernel)) (by decide +kernel) (by decide +kernel) (e0r hE (k := 200) (j := 0) (r := 3) (by decide +kernel))) ?_
    refine gm_sz (fw_gi (pc := 48) (ix := 82) (ci := 1) (j := 0) (x := N 0) (by decide +kernel) (e0k hE (k := 3) (c := 1) (by decide +kernel)) (by decide +kernel) (by decide +kernel) ((fr_c hf1 (by decide)).trans (tq_lan hT))) ?_
    refine fw_ict (cc := .ge) (pc := 51) (off := 73) (by decide +kernel) (by decide) ⟨by omega, by omega⟩ ⟨by omega, by omega⟩ (show (N 0) ≤ l by omega) ?_
    exact hq M1 _ _ l hf1 (by omega) hs
  | succ u ih =>
    intro l z4 z5 M1 hu hl hl6 hf1 hs
    refine gm_sz (gm_p_load (pc := 43) (i := .iload_n 3) (sr := 0) (j := 3) (by decide +kernel) rfl rfl rfl) ?_
    refine gm_sz (gm_p_load (pc := 44) (i := .aload_n 0) (sr := 2) (j := 0) (by decide +kernel) rfl rfl rfl) ?_
    refine gm_sz (fw_gr (pc := 45) (ix := 34) (ci := 4) (j := 0) (r := 3) (by decide +kernel) (e0k hE (k := 200) (c := 4) (by decide +kernel)) (by decide +kernel) (by decide +kernel) (e0r hE (k := 200) (j := 0) (r := 3) (by decide +kernel))) ?_
    refine gm_sz (fw_gi (pc := 48) (ix := 82) (ci := 1) (j := 0) (x := N 0) (by decide +kernel) (e0k hE (k := 3) (c := 1) (by decide +kernel)) (by decide +kernel) (by decide +kernel) ((fr_c hf1 (by decide)).trans (tq_lan hT))) ?_
    refine fw_icf (cc := .ge) (pc := 51) (off := 73) (by decide +kernel) (by decide) ⟨by omega, by omega⟩ ⟨by omega, by omega⟩ (show ¬ (N 0) ≤ l by omega) ?_
    refine gm_sz (gm_p_load (pc := 54) (i := .iload_n 3) (sr := 0) (j := 3) (by decide +kernel) rfl rfl rfl) ?_
    refine gm_sz (gm_p_const (pc := 55) (i := .bipush 6) (v := gm_vi 6) (by decide +kernel) (by decide +kernel)) ?_
    refine fw_icf (cc := .ge) (pc := 57) (off := 67) (by decide +kernel) (by decide) ⟨by omega, by omega⟩ ⟨by decide, by decide⟩ (show ¬ 6 ≤ l by omega) ?_
    refine gm_sz (gm_p_load (pc := 60) (i := .aload_n 0) (sr := 2) (j := 0) (by decide +kernel) rfl rfl rfl) ?_
    refine gm_sz (fw_gr (pc := 61) (ix := 34) (ci := 4) (j := 0) (r := 3) (by decide +kernel) (e0k hE (k := 200) (c := 4) (by decide +kernel)) (by decide +kernel) (by decide +kernel) (e0r hE (k := 200) (j := 0) (r := 3) (by decide +kernel))) ?_
    refine gm_sz (fw_gr (pc := 64) (ix := 63) (ci := 1) (j := 9) (r := 4) (by decide +kernel) (e0k hE (k := 3) (c := 1) (by decide +kernel)) (by decide +kernel) (by decide +kernel) (e0r hE (k := 3) (j := 9) (r := 4) (by decide +kernel))) ?_
    refine gm_sz (gm_p_load (pc := 67) (i := .iload_n 1) (sr := 0) (j := 1) (by decide +kernel) rfl rfl rfl) ?_
    refine gm_sz (gm_p_const (pc := 68) (i := .iconst 1) (v := gm_vi 1) (by decide +kernel) (by decide +kernel)) ?_
    refine gm_sz (gm_p_load (pc := 69) (i := .iload_n 3) (sr := 0) (j := 3) (by decide +kernel) rfl rfl rfl) ?_
    refine gm_sz (gm_p_bin (pc := 70) (i := .iadd) (f := fun x y => x + y) (by decide +kernel) rfl) ?_
    refine gm_c_virt (k := 4) (ci := 2) (mj := 10) (ix := 73) (pc := 71) (as := [gm_vi (k : Int), gm_vi (1 + l)]) (st := []) (d' := d - 1) (bc' := 0) (bs' := 0) (by decide +kernel) (by decide +kernel) (by decide +kernel) (by decide +kernel) (e0k hE (k := 4) (c := 2) (by decide +kernel)).1 (e0k hE (k := 4) (c := 2) (by decide +kernel)).2 (by decide) (by decide +kernel) (show 2 = gm_na 10 by decide +kernel) (fw_c2 fw_si fw_si) (show 3 ≤ gm_ml 10 by decide +kernel) (Nat.le_of_ble_eq_true rfl) (by omega) (Nat.zero_le _) (Nat.zero_le _) ?_
    refine rw_get (s := N 2) (w := 7) (x := N (15 + ((k : Int) * 7 + (1 + l)))) (e0k hE (k := 4) (c := 2) (by decide +kernel)) (e0a hE (k := 5) (q := (0, 56)) (by decide +kernel)) (e0r hE (k := 4) (j := 2) (r := 5) (by decide +kernel)) (by decide) ((fr_c hf1 (by decide)).trans (tq_sec hT)) ((fr_c hf1 (by decide)).trans (hT.1 (4, 1, 7) (by decide))) ⟨by omega, by omega⟩ ⟨by omega, by omega⟩ ⟨by omega, by omega⟩ ⟨by omega, by omega⟩ ((fr_c hf1 (by decide)).trans (tq_aS hT (by omega) (by omega))) ?_
    show gm_Wp X LX d _ _ 7 74 _ [gm_vi (N (15 + ((k : Int) * 7 + (1 + l))))] n K _ _ Q
    refine gm_sz (gm_p_stor (pc := 74) (i := .istore 4) (sr := 0) (j := 4) (by decide +kernel) rfl (show 5 ≤ _ from Nat.le_of_ble_eq_true rfl) rfl) ?_
    refine gm_sz (gm_p_load (pc := 76) (i := .iload_n 2) (sr := 0) (j := 2) (by decide +kernel) rfl rfl rfl) ?_
    refine gm_sz (gm_p_stor (pc := 77) (i := .istore 5) (sr := 0) (j := 5) (by decide +kernel) rfl (show 6 ≤ _ from Nat.le_of_ble_eq_true rfl) rfl) ?_
    have e9 : N (15 + 7 * (k : Int) + 1 + l) = N (15 + ((k : Int) * 7 + (1 + l))) := congrArg N (by omega)
    refine rs_r hE (tq_fr hT hf1 (by decide) (by decide +kernel)) hN hk ⟨by omega, by omega, by omega⟩ (f := f) (by omega) (by omega) e9 (fun M2 r hf2 hr hs2 => ?_) (N 1 - f).toNat f M1 rfl (Int.le_refl _) (by omega) fr_0 (sp2_f hs hf)
    refine gm_sz (gm_p_iinc (pc := 118) (j := 3) (z := 1) (by decide +kernel) rfl) ?_
    refine gm_sz (gm_p_goto (pc := 121) (off := (-78)) (by decide +kernel) (by decide)) ?_
    exact ih (l + 1) _ _ M2 (by omega) (by omega) (by omega) (fr_t hf1 hf2 (by decide)) (sp2_x hs2 hr)
theorem rs_s (hd : 1 ≤ d) (hE : E0 n K R) (hT : TQ N M) (hN : NR N) (hS : NS N) (hq : ∀ M2, fr [(202, none)] M M2 → (∀ l2 r, 0 ≤ l2 → l2 < 6 → 0 ≤ r → r < 99 → M2 202 (l2 * 99 + r) = spd N l2 r) → Q (.inl none) n K R M2) : ∀ (u k : Nat) (z2 z3 z4 z5 : Option gm_V) (M1 : gm_M), (k : Int) + (u : Int) = N 2 → fr [(202, none)] M M1 → SP2 N k 0 0 M1 → gm_Wp X LX d bc bs 7 10 [some (gm_vr 200), some (gm_vi (k : Int)), z2, z3, z4, z5] [] n K R M1 Q := by
  have b2 := hN.2.1.1
  intro u
  induction u with
  | zero =>
    intro k z2 z3 z4 z5 M1 hu hf hs
    refine gm_sz (gm_p_load (pc := 10) (i := .iload_n 1) (sr := 0) (j := 1) (by decide +kernel) rfl rfl rfl) ?_
    refine gm_sz (gm_p_load (pc := 11) (i := .aload_n 0) (sr := 2) (j := 0) (by decide +kernel) rfl rfl rfl) ?_
    refine gm_sz (fw_gr (pc := 12) (ix := 34) (ci := 4) (j := 0) (r := 3) (by decide +kernel) (e0k hE (k := 200) (c := 4) (by decide +kernel)) (by decide +kernel) (by decide +kernel) (e0r hE (k := 200) (j := 0) (r := 3) (by decide +kernel))) ?_
    refine gm_sz (fw_gr (pc := 15) (ix := 63) (ci := 1) (j := 9) (r := 4) (by decide +kernel) (e0k hE (k := 3) (c := 1) (by decide +kernel)) (by decide +kernel) (by decide +kernel) (e0r hE (k := 3) (j := 9) (r := 4) (by decide +kernel))) ?_
    refine gm_c_virt (k := 4) (ci := 2) (mj := 9) (ix := 67) (pc := 18) (as := []) (st := [gm_vi (k : Int)]) (d' := d - 1) (bc' := 0) (bs' := 0) (by decide +kernel) (by decide +kernel) (by decide +kernel) (by decide +kernel) (e0k hE (k := 4) (c := 2) (by decide +kernel)).1 (e0k hE (k := 4) (c := 2) (by decide +kernel)).2 (by decide) (by decide +kernel) (show 0 = gm_na 9 by decide +kernel) fw_c0 (show 1 ≤ gm_ml 9 by decide +kernel) (Nat.le_of_ble_eq_true rfl) (by omega) (Nat.zero_le _) (Nat.zero_le _) ?_
    refine rw_size (s := N 2) (e0k hE (k := 4) (c := 2) (by decide +kernel)) ((fr_c hf (by decide)).trans (tq_sec hT)) ?_
    show gm_Wp X LX d _ _ 7 21 _ [gm_vi (N 2), gm_vi (k : Int)] n K _ _ Q
    refine fw_ict (cc := .ge) (pc := 21) (off := 109) (by decide +kernel) (by decide) ⟨by omega, by omega⟩ ⟨by omega, by omega⟩ (show (N 2) ≤ (k : Int) by omega) ?_
    exact gm_r_void (pc := 130) (by decide +kernel) (by decide +kernel) (hq M1 hf (sp2_d hs (by omega)))
  | succ u ih =>
    intro k z2 z3 z4 z5 M1 hu hf hs
    obtain ⟨⟨s0, s1⟩, s2⟩ := hS (k : Int) (by omega) (by omega)
    have e0 : N (15 + 7 * (k : Int)) = N (15 + ((k : Int) * 7 + 0)) := congrArg N (by omega)
    rw [e0] at s0 s1
    refine gm_sz (gm_p_load (pc := 10) (i := .iload_n 1) (sr := 0) (j := 1) (by decide +kernel) rfl rfl rfl) ?_
    refine gm_sz (gm_p_load (pc := 11) (i := .aload_n 0) (sr := 2) (j := 0) (by decide +kernel) rfl rfl rfl) ?_
    refine gm_sz (fw_gr (pc := 12) (ix := 34) (ci := 4) (j := 0) (r := 3) (by decide +kernel) (e0k hE (k := 200) (c := 4) (by decide +kernel)) (by decide +kernel) (by decide +kernel) (e0r hE (k := 200) (j := 0) (r := 3) (by decide +kernel))) ?_
    refine gm_sz (fw_gr (pc := 15) (ix := 63) (ci := 1) (j := 9) (r := 4) (by decide +kernel) (e0k hE (k := 3) (c := 1) (by decide +kernel)) (by decide +kernel) (by decide +kernel) (e0r hE (k := 3) (j := 9) (r := 4) (by decide +kernel))) ?_
    refine gm_c_virt (k := 4) (ci := 2) (mj := 9) (ix := 67) (pc := 18) (as := []) (st := [gm_vi (k : Int)]) (d' := d - 1) (bc' := 0) (bs' := 0) (by decide +kernel) (by decide +kernel) (by decide +kernel) (by decide +kernel) (e0k hE (k := 4) (c := 2) (by decide +kernel)).1 (e0k hE (k := 4) (c := 2) (by decide +kernel)).2 (by decide) (by decide +kernel) (show 0 = gm_na 9 by decide +kernel) fw_c0 (show 1 ≤ gm_ml 9 by decide +kernel) (Nat.le_of_ble_eq_true rfl) (by omega) (Nat.zero_le _) (Nat.zero_le _) ?_
    refine rw_size (s := N 2) (e0k hE (k := 4) (c := 2) (by decide +kernel)) ((fr_c hf (by decide)).trans (tq_sec hT)) ?_
    show gm_Wp X LX d _ _ 7 21 _ [gm_vi (N 2), gm_vi (k : Int)] n K _ _ Q
    refine fw_icf (cc := .ge) (pc := 21) (off := 109) (by decide +kernel) (by decide) ⟨by omega, by omega⟩ ⟨by omega, by omega⟩ (show ¬ (N 2) ≤ (k : Int) by omega) ?_
    refine gm_sz (gm_p_const (pc := 24) (i := .iconst 0) (v := gm_vi 0) (by decide +kernel) (by decide +kernel)) ?_
    refine gm_sz (gm_p_load (pc := 25) (i := .aload_n 0) (sr := 2) (j := 0) (by decide +kernel) rfl rfl rfl) ?_
    refine gm_sz (fw_gr (pc := 26) (ix := 34) (ci := 4) (j := 0) (r := 3) (by decide +kernel) (e0k hE (k := 200) (c := 4) (by decide +kernel)) (by decide +kernel) (by decide +kernel) (e0r hE (k := 200) (j := 0) (r := 3) (by decide +kernel))) ?_
    refine gm_sz (fw_gr (pc := 29) (ix := 63) (ci := 1) (j := 9) (r := 4) (by decide +kernel) (e0k hE (k := 3) (c := 1) (by decide +kernel)) (by decide +kernel) (by decide +kernel) (e0r hE (k := 3) (j := 9) (r := 4) (by decide +kernel))) ?_
    refine gm_sz (gm_p_load (pc := 32) (i := .iload_n 1) (sr := 0) (j := 1) (by decide +kernel) rfl rfl rfl) ?_
    refine gm_sz (gm_p_const (pc := 33) (i := .iconst 0) (v := gm_vi 0) (by decide +kernel) (by decide +kernel)) ?_
    refine gm_c_virt (k := 4) (ci := 2) (mj := 10) (ix := 73) (pc := 34) (as := [gm_vi (k : Int), gm_vi 0]) (st := [gm_vi 0]) (d' := d - 1) (bc' := 0) (bs' := 0) (by decide +kernel) (by decide +kernel) (by decide +kernel) (by decide +kernel) (e0k hE (k := 4) (c := 2) (by decide +kernel)).1 (e0k hE (k := 4) (c := 2) (by decide +kernel)).2 (by decide) (by decide +kernel) (show 2 = gm_na 10 by decide +kernel) (fw_c2 fw_si fw_si) (show 3 ≤ gm_ml 10 by decide +kernel) (Nat.le_of_ble_eq_true rfl) (by omega) (Nat.zero_le _) (Nat.zero_le _) ?_
    refine rw_get (s := N 2) (w := 7) (x := N (15 + ((k : Int) * 7 + 0))) (e0k hE (k := 4) (c := 2) (by decide +kernel)) (e0a hE (k := 5) (q := (0, 56)) (by decide +kernel)) (e0r hE (k := 4) (j := 2) (r := 5) (by decide +kernel)) (by decide) ((fr_c hf (by decide)).trans (tq_sec hT)) ((fr_c hf (by decide)).trans (hT.1 (4, 1, 7) (by decide))) ⟨by omega, by omega⟩ ⟨by omega, by omega⟩ ⟨by omega, by omega⟩ ⟨by omega, by omega⟩ ((fr_c hf (by decide)).trans (tq_aS hT (by omega) (by omega))) ?_
    show gm_Wp X LX d _ _ 7 37 _ [gm_vi (N (15 + ((k : Int) * 7 + 0))), gm_vi 0] n K _ _ Q
    refine gm_sz (gm_p_max (pc := 37) (ix := 77) (x := 0) (y := N (15 + ((k : Int) * 7 + 0))) (by decide +kernel) (by decide +kernel) (gm_w_id (by omega) (by omega)) (gm_w_id (by omega) (by omega)) (Nat.le_of_ble_eq_true rfl) (by omega)) ?_
    rw [show max 0 (N (15 + ((k : Int) * 7 + 0))) = N (15 + ((k : Int) * 7 + 0)) by omega]
    refine gm_sz (gm_p_stor (pc := 40) (i := .istore_n 2) (sr := 0) (j := 2) (by decide +kernel) rfl (show 3 ≤ _ from Nat.le_of_ble_eq_true rfl) rfl) ?_
    refine gm_sz (gm_p_const (pc := 41) (i := .iconst 0) (v := gm_vi 0) (by decide +kernel) (by decide +kernel)) ?_
    refine gm_sz (gm_p_stor (pc := 42) (i := .istore_n 3) (sr := 0) (j := 3) (by decide +kernel) rfl (show 4 ≤ _ from Nat.le_of_ble_eq_true rfl) rfl) ?_
    refine rs_n hd hE (tq_fr hT hf (by decide) (by decide +kernel)) hN hS (by omega) e0 (fun M2 z4 z5 l hf2 hl hs2 => ?_) (N 0).toNat 0 _ _ M1 (by omega) (Int.le_refl _) (by decide) fr_0 hs
    refine gm_sz (gm_p_iinc (pc := 124) (j := 1) (z := 1) (by decide +kernel) rfl) ?_
    refine gm_sz (gm_p_goto (pc := 127) (off := (-117)) (by decide +kernel) (by decide)) ?_
    exact ih (k + 1) _ _ _ _ M2 (by omega) (fr_t hf hf2 (by decide)) (sp2_n hs2 hl)
theorem rs_c7 (hd : 1 ≤ d) (hE : E0 n K R) (hT : TQ N M) (hN : NR N) (hS : NS N) (hq : ∀ M2, fr [(202, none)] M M2 → (∀ l2 r, 0 ≤ l2 → l2 < 6 → 0 ≤ r → r < 99 → M2 202 (l2 * 99 + r) = spd N l2 r) → Q (.inl none) n K R M2) : gm_Wp X LX d bc bs 7 0 (gm_ent 7 [gm_vr 200]) [] n K R M Q := by
  have b2 := hN.2.1.1
  refine gm_sz (gm_p_load (pc := 0) (i := .aload_n 0) (sr := 2) (j := 0) (by decide +kernel) rfl rfl rfl) ?_
  refine gm_sz (fw_gr (pc := 1) (ix := 15) (ci := 4) (j := 2) (r := 202) (by decide +kernel) (e0k hE (k := 200) (c := 4) (by decide +kernel)) (by decide +kernel) (by decide +kernel) (e0r hE (k := 200) (j := 2) (r := 202) (by decide +kernel))) ?_
  refine gm_sz (gm_p_const (pc := 4) (i := .iconst 0) (v := gm_vi 0) (by decide +kernel) (by decide +kernel)) ?_
  refine gm_c_stat (mj := 8) (ix := 57) (pc := 5) (as := [gm_vr 202, gm_vi 0]) (st := []) (d' := d - 1) (bc' := 0) (bs' := 0) (by decide +kernel) (by decide +kernel) (by decide +kernel) (by decide +kernel) (show 2 = gm_na 8 by decide +kernel) (fw_c2 fw_sr fw_si) (show 2 ≤ gm_ml 8 by decide +kernel) (Nat.le_of_ble_eq_true rfl) (by omega) (Nat.zero_le _) (Nat.zero_le _) ?_
  refine fl_c8 (e0a hE (k := 202) (q := (0, 594)) (by decide +kernel)) (by decide) ?_
  show gm_Wp X LX d _ _ 7 8 _ [] n K _ _ Q
  refine gm_sz (gm_p_const (pc := 8) (i := .iconst 0) (v := gm_vi 0) (by decide +kernel) (by decide +kernel)) ?_
  refine gm_sz (gm_p_stor (pc := 9) (i := .istore_n 1) (sr := 0) (j := 1) (by decide +kernel) rfl (show 2 ≤ _ from Nat.le_of_ble_eq_true rfl) rfl) ?_
  exact rs_s hd hE hT hN hS hq (N 2).toNat 0 _ _ _ _ _ (by omega) (fr_t fr_0 gm_fil_fr (by decide)) (sp2_z (fun j j0 j1 => gm_fil_in j0 j1))
theorem rf_l (hd : 1 ≤ d) (hE : E0 n K R) (hT : TQ N M) (hN : NR N) (hq : ∀ M2, fr [(203, none)] M M2 → (∀ y, 0 ≤ y → y < 300 → gm_ir (M2 203 y) ∧ fbit N y (M2 203 y)) → Q (.inl none) n K R M2) : ∀ (u k : Nat) (z2 : Option gm_V) (M1 : gm_M), (k : Int) + (u : Int) = N 5 → fr [(203, none)] M M1 → (∀ y, 0 ≤ y → y < 300 → fbk N k y (M1 203 y)) → gm_Wp X LX d bc bs 12 10 [some (gm_vr 200), some (gm_vi (k : Int)), z2] [] n K R M1 Q := by
  have b5 := hN.2.1.2.1
  intro u
  induction u with
  | zero =>
    intro k z2 M1 hu hf hb
    refine gm_sz (gm_p_load (pc := 10) (i := .iload_n 1) (sr := 0) (j := 1) (by decide +kernel) rfl rfl rfl) ?_
    refine gm_sz (gm_p_load (pc := 11) (i := .aload_n 0) (sr := 2) (j := 0) (by decide +kernel) rfl rfl rfl) ?_
    refine gm_sz (fw_gr (pc := 12) (ix := 34) (ci := 4) (j := 0) (r := 3) (by decide +kernel) (e0k hE (k := 200) (c := 4) (by decide +kernel)) (by decide +kernel) (by decide +kernel) (e0r hE (k := 200) (j := 0) (r := 3) (by decide +kernel))) ?_
    refine gm_sz (fw_gr (pc := 15) (ix := 88) (ci := 1) (j := 10) (r := 6) (by decide +kernel) (e0k hE (k := 3) (c := 1) (by decide +kernel)) (by decide +kernel) (by decide +kernel) (e0r hE (k := 3) (j := 10) (r := 6) (by decide +kernel))) ?_
    refine gm_c_virt (k := 6) (ci := 2) (mj := 9) (ix := 67) (pc := 18) (as := []) (st := [gm_vi (k : Int)]) (d' := d - 1) (bc' := 0) (bs' := 0) (by decide +kernel) (by decide +kernel) (by decide +kernel) (by decide +kernel) (e0k hE (k := 6) (c := 2) (by decide +kernel)).1 (e0k hE (k := 6) (c := 2) (by decide +kernel)).2 (by decide) (by decide +kernel) (show 0 = gm_na 9 by decide +kernel) fw_c0 (show 1 ≤ gm_ml 9 by decide +kernel) (Nat.le_of_ble_eq_true rfl) (by omega) (Nat.zero_le _) (Nat.zero_le _) ?_
    refine rw_size (s := N 5) (e0k hE (k := 6) (c := 2) (by decide +kernel)) ((fr_c hf (by decide)).trans (tq_flo hT)) ?_
    show gm_Wp X LX d _ _ 12 21 _ [gm_vi (N 5), gm_vi (k : Int)] n K _ _ Q
    refine fw_ict (cc := .ge) (pc := 21) (off := 45) (by decide +kernel) (by decide) ⟨by omega, by omega⟩ ⟨by omega, by omega⟩ (show (N 5) ≤ (k : Int) by omega) ?_
    exact gm_r_void (pc := 66) (by decide +kernel) (by decide +kernel) (hq M1 hf (fun y y0 y1 => fbk_f (hb y y0 y1) (by omega)))
  | succ u ih =>
    intro k z2 M1 hu hf hb
    obtain ⟨⟨f0, f1⟩, -⟩ := hN.2.2.1 (k : Int) (by omega) (by omega)
    have f0 : 0 ≤ N (71 + ((k : Int) * 3 + 0)) := f0
    have f1 : N (71 + ((k : Int) * 3 + 0)) ≤ 299 := f1
    refine gm_sz (gm_p_load (pc := 10) (i := .iload_n 1) (sr := 0) (j := 1) (by decide +kernel) rfl rfl rfl) ?_
    refine gm_sz (gm_p_load (pc := 11) (i := .aload_n 0) (sr := 2) (j := 0) (by decide +kernel) rfl rfl rfl) ?_
    refine gm_sz (fw_gr (pc := 12) (ix := 34) (ci := 4) (j := 0) (r := 3) (by decide +kernel) (e0k hE (k := 200) (c := 4) (by decide +kernel)) (by decide +kernel) (by decide +kernel) (e0r hE (k := 200) (j := 0) (r := 3) (by decide +kernel))) ?_
    refine gm_sz (fw_gr (pc := 15) (ix := 88) (ci := 1) (j := 10) (r := 6) (by decide +kernel) (e0k hE (k := 3) (c := 1) (by decide +kernel)) (by decide +kernel) (by decide +kernel) (e0r hE (k := 3) (j := 10) (r := 6) (by decide +kernel))) ?_
    refine gm_c_virt (k := 6) (ci := 2) (mj := 9) (ix := 67) (pc := 18) (as := []) (st := [gm_vi (k : Int)]) (d' := d - 1) (bc' := 0) (bs' := 0) (by decide +kernel) (by decide +kernel) (by decide +kernel) (by decide +kernel) (e0k hE (k := 6) (c := 2) (by decide +kernel)).1 (e0k hE (k := 6) (c := 2) (by decide +kernel)).2 (by decide) (by decide +kernel) (show 0 = gm_na 9 by decide +kernel) fw_c0 (show 1 ≤ gm_ml 9 by decide +kernel) (Nat.le_of_ble_eq_true rfl) (by omega) (Nat.zero_le _) (Nat.zero_le _) ?_
    refine rw_size (s := N 5) (e0k hE (k := 6) (c := 2) (by decide +kernel)) ((fr_c hf (by decide)).trans (tq_flo hT)) ?_
    show gm_Wp X LX d _ _ 12 21 _ [gm_vi (N 5), gm_vi (k : Int)] n K _ _ Q
    refine fw_icf (cc := .ge) (pc := 21) (off := 45) (by decide +kernel) (by decide) ⟨by omega, by omega⟩ ⟨by omega, by omega⟩ (show ¬ (N 5) ≤ (k : Int) by omega) ?_
    refine gm_sz (gm_p_load (pc := 24) (i := .aload_n 0) (sr := 2) (j := 0) (by decide +kernel) rfl rfl rfl) ?_
    refine gm_sz (fw_gr (pc := 25) (ix := 34) (ci := 4) (j := 0) (r := 3) (by decide +kernel) (e0k hE (k := 200) (c := 4) (by decide +kernel)) (by decide +kernel) (by decide +kernel) (e0r hE (k := 200) (j := 0) (r := 3) (by decide +kernel))) ?_
    refine gm_sz (fw_gr (pc := 28) (ix := 88) (ci := 1) (j := 10) (r := 6) (by decide +kernel) (e0k hE (k := 3) (c := 1) (by decide +kernel)) (by decide +kernel) (by decide +kernel) (e0r hE (k := 3) (j := 10) (r := 6) (by decide +kernel))) ?_
    refine gm_sz (gm_p_load (pc := 31) (i := .iload_n 1) (sr := 0) (j := 1) (by decide +kernel) rfl rfl rfl) ?_
    refine gm_sz (gm_p_const (pc := 32) (i := .iconst 0) (v := gm_vi 0) (by decide +kernel) (by decide +kernel)) ?_
    refine gm_c_virt (k := 6) (ci := 2) (mj := 10) (ix := 73) (pc := 33) (as := [gm_vi (k : Int), gm_vi 0]) (st := []) (d' := d - 1) (bc' := 0) (bs' := 0) (by decide +kernel) (by decide +kernel) (by decide +kernel) (by decide +kernel) (e0k hE (k := 6) (c := 2) (by decide +kernel)).1 (e0k hE (k := 6) (c := 2) (by decide +kernel)).2 (by decide) (by decide +kernel) (show 2 = gm_na 10 by decide +kernel) (fw_c2 fw_si fw_si) (show 3 ≤ gm_ml 10 by decide +kernel) (Nat.le_of_ble_eq_true rfl) (by omega) (Nat.zero_le _) (Nat.zero_le _) ?_
    refine rw_get (s := N 5) (w := 3) (x := N (71 + ((k : Int) * 3 + 0))) (e0k hE (k := 6) (c := 2) (by decide +kernel)) (e0a hE (k := 7) (q := (0, 24)) (by decide +kernel)) (e0r hE (k := 6) (j := 2) (r := 7) (by decide +kernel)) (by decide) ((fr_c hf (by decide)).trans (tq_flo hT)) ((fr_c hf (by decide)).trans (hT.1 (6, 1, 3) (by decide))) ⟨by omega, by omega⟩ ⟨by omega, by omega⟩ ⟨by omega, by omega⟩ ⟨by omega, by omega⟩ ((fr_c hf (by decide)).trans (tq_aF hT (by omega) (by omega))) ?_
    show gm_Wp X LX d _ _ 12 36 _ [gm_vi (N (71 + ((k : Int) * 3 + 0)))] n K _ _ Q
    refine gm_sz (gm_p_stor (pc := 36) (i := .istore_n 2) (sr := 0) (j := 2) (by decide +kernel) rfl (show 3 ≤ _ from Nat.le_of_ble_eq_true rfl) rfl) ?_
    refine gm_sz (gm_p_load (pc := 37) (i := .iload_n 2) (sr := 0) (j := 2) (by decide +kernel) rfl rfl rfl) ?_
    refine fw_iff (cc := .lt) (pc := 38) (off := 22) (by decide +kernel) (by decide) ⟨by omega, by omega⟩ (show ¬ (N (71 + ((k : Int) * 3 + 0))) < 0 by omega) ?_
    refine gm_sz (gm_p_load (pc := 41) (i := .iload_n 2) (sr := 0) (j := 2) (by decide +kernel) rfl rfl rfl) ?_
    refine gm_sz (gm_p_const (pc := 42) (i := .sipush 300) (v := gm_vi 300) (by decide +kernel) (by decide +kernel)) ?_
    refine fw_icf (cc := .ge) (pc := 45) (off := 15) (by decide +kernel) (by decide) ⟨by omega, by omega⟩ ⟨by decide, by decide⟩ (show ¬ 300 ≤ (N (71 + ((k : Int) * 3 + 0))) by omega) ?_
    refine gm_sz (gm_p_load (pc := 48) (i := .aload_n 0) (sr := 2) (j := 0) (by decide +kernel) rfl rfl rfl) ?_
    refine gm_sz (fw_gr (pc := 49) (ix := 18) (ci := 4) (j := 3) (r := 203) (by decide +kernel) (e0k hE (k := 200) (c := 4) (by decide +kernel)) (by decide +kernel) (by decide +kernel) (e0r hE (k := 200) (j := 3) (r := 203) (by decide +kernel))) ?_
    refine gm_sz (gm_p_load (pc := 52) (i := .iload_n 2) (sr := 0) (j := 2) (by decide +kernel) rfl rfl rfl) ?_
    refine gm_sz (gm_p_dup2 (pc := 53) (by decide +kernel) fw_si fw_sr) ?_
    refine gm_sz (fw_ia (pc := 54) (k := 203) (len := 300) (e0 := N (71 + ((k : Int) * 3 + 0))) (x := M1 203 (N (71 + ((k : Int) * 3 + 0)))) (by decide +kernel) (e0a hE (k := 203) (q := (0, 300)) (by decide +kernel)).1 (e0a hE (k := 203) (q := (0, 300)) (by decide +kernel)).2 (by decide) ⟨by omega, by omega⟩ rfl) ?_
    refine gm_sz (gm_p_const (pc := 55) (i := .iconst 1) (v := gm_vi 1) (by decide +kernel) (by decide +kernel)) ?_
    refine gm_sz (gm_p_load (pc := 56) (i := .iload_n 1) (sr := 0) (j := 1) (by decide +kernel) rfl rfl rfl) ?_
    refine gm_sz (gm_p_bin (pc := 57) (i := .ishl) (f := gm_shl) (by decide +kernel) rfl) ?_
    refine gm_sz (gm_p_bin (pc := 58) (i := .ior) (f := gm_or) (by decide +kernel) rfl) ?_
    refine gm_sz (fw_is (pc := 59) (k := 203) (len := 300) (e0 := N (71 + ((k : Int) * 3 + 0))) (x := gm_or (M1 203 (N (71 + ((k : Int) * 3 + 0)))) (gm_shl 1 (k : Int))) (M' := gm_uM M1 203 (N (71 + ((k : Int) * 3 + 0))) (gm_or (M1 203 (N (71 + ((k : Int) * 3 + 0)))) (gm_shl 1 (k : Int)))) (by decide +kernel) (e0a hE (k := 203) (q := (0, 300)) (by decide +kernel)).1 (e0a hE (k := 203) (q := (0, 300)) (by decide +kernel)).2 (by decide) ⟨by omega, by omega⟩ rfl) ?_
    refine gm_sz (gm_p_iinc (pc := 60) (j := 1) (z := 1) (by decide +kernel) rfl) ?_
    refine gm_sz (gm_p_goto (pc := 63) (off := (-53)) (by decide +kernel) (by decide)) ?_
    refine ih (k + 1) _ _ (by omega) (fr_p (fr_t fr_0 hf (by decide)) (Or.inl (by decide))) (fun y y0 y1 => ?_)
    by_cases e : y = N (71 + ((k : Int) * 3 + 0))
    · rw [e, uM_at]
      exact fbk_y (hb _ (by omega) (by omega)) rfl (by omega)
    · rw [uM_ne (fun hh => e hh.2)]
      exact fbk_n (hb y y0 y1) (fun hh => e hh.symm)
theorem rf_c12 (hd : 1 ≤ d) (hE : E0 n K R) (hT : TQ N M) (hN : NR N) (hq : ∀ M2, fr [(203, none)] M M2 → (∀ y, 0 ≤ y → y < 300 → gm_ir (M2 203 y) ∧ fbit N y (M2 203 y)) → Q (.inl none) n K R M2) : gm_Wp X LX d bc bs 12 0 (gm_ent 12 [gm_vr 200]) [] n K R M Q := by
  have b5 := hN.2.1.2.1
  refine gm_sz (gm_p_load (pc := 0) (i := .aload_n 0) (sr := 2) (j := 0) (by decide +kernel) rfl rfl rfl) ?_
  refine gm_sz (fw_gr (pc := 1) (ix := 18) (ci := 4) (j := 3) (r := 203) (by decide +kernel) (e0k hE (k := 200) (c := 4) (by decide +kernel)) (by decide +kernel) (by decide +kernel) (e0r hE (k := 200) (j := 3) (r := 203) (by decide +kernel))) ?_
  refine gm_sz (gm_p_const (pc := 4) (i := .iconst 0) (v := gm_vi 0) (by decide +kernel) (by decide +kernel)) ?_
  refine gm_c_stat (mj := 8) (ix := 57) (pc := 5) (as := [gm_vr 203, gm_vi 0]) (st := []) (d' := d - 1) (bc' := 0) (bs' := 0) (by decide +kernel) (by decide +kernel) (by decide +kernel) (by decide +kernel) (show 2 = gm_na 8 by decide +kernel) (fw_c2 fw_sr fw_si) (show 2 ≤ gm_ml 8 by decide +kernel) (Nat.le_of_ble_eq_true rfl) (by omega) (Nat.zero_le _) (Nat.zero_le _) ?_
  refine fl_c8 (e0a hE (k := 203) (q := (0, 300)) (by decide +kernel)) (by decide) ?_
  show gm_Wp X LX d _ _ 12 8 _ [] n K _ _ Q
  refine gm_sz (gm_p_const (pc := 8) (i := .iconst 0) (v := gm_vi 0) (by decide +kernel) (by decide +kernel)) ?_
  refine gm_sz (gm_p_stor (pc := 9) (i := .istore_n 1) (sr := 0) (j := 1) (by decide +kernel) rfl (show 2 ≤ _ from Nat.le_of_ble_eq_true rfl) rfl) ?_
  refine rf_l hd hE hT hN hq (N 5).toNat 0 _ _ (by omega) (fr_t fr_0 gm_fil_fr (by decide)) (fun y y0 y1 => ?_)
  rw [show gm_fil M 203 ((300 : Nat) : Int) 0 203 y = 0 from gm_fil_in y0 y1]
  exact fbk_0
theorem rn_c5 (hd : 2 ≤ d) (hE : E0 n K R) (hT : TQ N M) (hN : NR N) (hS : NS N) (hq : ∀ M2, fr [(201, none), (202, none), (203, none), (200, some 6)] M M2 → TI N (hts (N 13)) (spd N) M2 → M2 200 6 = 1 → Q (.inl none) n K R M2) : gm_Wp X LX d bc bs 5 0 (gm_ent 5 [gm_vr 200]) [] n K R M Q := by
  refine gm_sz (gm_p_load (pc := 0) (i := .aload_n 0) (sr := 2) (j := 0) (by decide +kernel) rfl rfl rfl) ?_
  refine gm_c_virt (k := 200) (ci := 4) (mj := 6) (ix := 41) (pc := 1) (as := []) (st := []) (d' := d - 1) (bc' := 0) (bs' := 0) (by decide +kernel) (by decide +kernel) (by decide +kernel) (by decide +kernel) (e0k hE (k := 200) (c := 4) (by decide +kernel)).1 (e0k hE (k := 200) (c := 4) (by decide +kernel)).2 (by decide) (by decide +kernel) (show 0 = gm_na 6 by decide +kernel) fw_c0 (show 1 ≤ gm_ml 6 by decide +kernel) (Nat.le_of_ble_eq_true rfl) (by omega) (Nat.zero_le _) (Nat.zero_le _) ?_
  refine rh_c6 hE hT hN (fun M6 hf6 hh6 => ?_)
  show gm_Wp X LX d _ _ 5 4 _ [] n K _ _ Q
  refine gm_sz (gm_p_load (pc := 4) (i := .aload_n 0) (sr := 2) (j := 0) (by decide +kernel) rfl rfl rfl) ?_
  refine gm_c_virt (k := 200) (ci := 4) (mj := 7) (ix := 44) (pc := 5) (as := []) (st := []) (d' := d - 1) (bc' := 0) (bs' := 0) (by decide +kernel) (by decide +kernel) (by decide +kernel) (by decide +kernel) (e0k hE (k := 200) (c := 4) (by decide +kernel)).1 (e0k hE (k := 200) (c := 4) (by decide +kernel)).2 (by decide) (by decide +kernel) (show 0 = gm_na 7 by decide +kernel) fw_c0 (show 1 ≤ gm_ml 7 by decide +kernel) (Nat.le_of_ble_eq_true rfl) (by omega) (Nat.zero_le _) (Nat.zero_le _) ?_
  refine rs_c7 (by omega) hE (tq_fr (W := [(201, none)]) hT (fr_t fr_0 hf6 (by decide)) (by decide) (by decide +kernel)) hN hS (fun M7 hf7 hh7 => ?_)
  show gm_Wp X LX d _ _ 5 8 _ [] n K _ _ Q
  refine gm_sz (gm_p_load (pc := 8) (i := .aload_n 0) (sr := 2) (j := 0) (by decide +kernel) rfl rfl rfl) ?_
  refine gm_c_virt (k := 200) (ci := 4) (mj := 12) (ix := 47) (pc := 9) (as := []) (st := []) (d' := d - 1) (bc' := 0) (bs' := 0) (by decide +kernel) (by decide +kernel) (by decide +kernel) (by decide +kernel) (e0k hE (k := 200) (c := 4) (by decide +kernel)).1 (e0k hE (k := 200) (c := 4) (by decide +kernel)).2 (by decide) (by decide +kernel) (show 0 = gm_na 12 by decide +kernel) fw_c0 (show 1 ≤ gm_ml 12 by decide +kernel) (Nat.le_of_ble_eq_true rfl) (by omega) (Nat.zero_le _) (Nat.zero_le _) ?_
  refine rf_c12 (by omega) hE (tq_fr (W := [(201, none), (202, none)]) hT (fr_t (fr_t fr_0 hf6 (by decide)) hf7 (by decide)) (by decide) (by decide +kernel)) hN (fun M12 hf12 hh12 => ?_)
  show gm_Wp X LX d _ _ 5 12 _ [] n K _ _ Q
  refine gm_sz (gm_p_load (pc := 12) (i := .aload_n 0) (sr := 2) (j := 0) (by decide +kernel) rfl rfl rfl) ?_
  refine gm_sz (gm_p_const (pc := 13) (i := .iconst 1) (v := gm_vi 1) (by decide +kernel) (by decide +kernel)) ?_
  refine gm_sz (fw_pz (pc := 14) (ix := 30) (ci := 4) (j := 6) (M' := gm_uM M12 200 6 1) (by decide +kernel) (e0k hE (k := 200) (c := 4) (by decide +kernel)) (by decide +kernel) (by decide +kernel) (by decide +kernel) (Or.inr rfl) rfl) ?_
  have t9 : TQ N (gm_uM M12 200 6 1) := (tq_fr (W := [(201, none), (202, none), (203, none), (200, some 6)]) hT (fr_p (fr_t (fr_t (fr_t fr_0 hf6 (by decide)) hf7 (by decide)) hf12 (by decide)) (Or.inr (by decide))) (by decide) (by decide +kernel))
  refine gm_r_void (pc := 17) (by decide +kernel) (by decide +kernel) (hq (gm_uM M12 200 6 1) (fr_p (fr_t (fr_t (fr_t fr_0 hf6 (by decide)) hf7 (by decide)) hf12 (by decide)) (Or.inr (by decide))) ⟨t9.1, t9.2, fun y y0 y1 => ?_, fun l r l0 l1 r0 r1 => ?_⟩ uM_at)
  · rw [show (gm_uM M12 200 6 1) 201 y = M6 201 y from (uM_ne (by omega)).trans ((fr_c hf12 (by decide)).trans (fr_c hf7 (by decide))), show (gm_uM M12 200 6 1) 203 y = M12 203 y from uM_ne (by omega)]
    exact ⟨hh6 y y0 y1, hts_b, (hh12 y y0 y1).1, (hh12 y y0 y1).2⟩
  · rw [show (gm_uM M12 200 6 1) 202 (l * 99 + r) = M7 202 (l * 99 + r) from (uM_ne (by omega)).trans (fr_c hf12 (by decide))]
    exact hh7 l r l0 l1 r0 r1
theorem fg_c62 (hE : E0 n K R) (q0 : Q (.inl (none)) n K R (gm_uM M 42 2 0)) : gm_Wp X LX d bc bs 62 0 (gm_ent 62 [gm_vr 42]) [] n K R M Q := by
  refine gm_sz (gm_p_load (pc := 0) (i := .aload_n 0) (sr := 2) (j := 0) (by decide +kernel) rfl rfl rfl) ?_
  refine gm_sz (gm_p_const (pc := 1) (i := .iconst 0) (v := gm_vi 0) (by decide +kernel) (by decide +kernel)) ?_
  refine gm_sz (fw_pi (pc := 2) (ix := 21) (ci := 3) (j := 2) (M' := gm_uM M 42 2 0) (by decide +kernel) (e0k hE (k := 42) (c := 3) (by decide +kernel)) (by decide +kernel) (by decide +kernel) (by decide +kernel) rfl) ?_
  exact gm_r_void (pc := 5) (by decide +kernel) (by decide +kernel) q0
theorem fw_c61 (hd : 3 ≤ d) (hE : E0 n K R) (hT : TQ N M) (hN : NR N) (hS : NS N) (hq : ∀ M2, fr [(201, none), (202, none), (203, none), (200, some 6), (42, some 2), (1, some 15)] M M2 → TI N (hts (N 13)) (spd N) M2 → M2 200 6 = 1 → M2 42 2 = 0 → M2 1 15 = 0 → Q (.inl none) n K R M2) : gm_Wp X LX d bc bs 61 0 (gm_ent 61 [gm_vr 1]) [] n K R M Q := by
  refine gm_sz (gm_p_load (pc := 0) (i := .aload_n 0) (sr := 2) (j := 0) (by decide +kernel) rfl rfl rfl) ?_
  refine gm_sz (fw_gr (pc := 1) (ix := 49) (ci := 0) (j := 8) (r := 200) (by decide +kernel) (e0k hE (k := 1) (c := 0) (by decide +kernel)) (by decide +kernel) (by decide +kernel) (e0r hE (k := 1) (j := 8) (r := 200) (by decide +kernel))) ?_
  refine gm_c_virt (k := 200) (ci := 4) (mj := 5) (ix := 154) (pc := 4) (as := []) (st := []) (d' := d - 1) (bc' := 0) (bs' := 0) (by decide +kernel) (by decide +kernel) (by decide +kernel) (by decide +kernel) (e0k hE (k := 200) (c := 4) (by decide +kernel)).1 (e0k hE (k := 200) (c := 4) (by decide +kernel)).2 (by decide) (by decide +kernel) (show 0 = gm_na 5 by decide +kernel) fw_c0 (show 1 ≤ gm_ml 5 by decide +kernel) (Nat.le_of_ble_eq_true rfl) (by omega) (Nat.zero_le _) (Nat.zero_le _) ?_
  refine rn_c5 (by omega) hE hT hN hS (fun M5 hf5 ht5 h56 => ?_)
  show gm_Wp X LX d _ _ 61 7 _ [] n K _ _ Q
  refine gm_sz (gm_p_load (pc := 7) (i := .aload_n 0) (sr := 2) (j := 0) (by decide +kernel) rfl rfl rfl) ?_
  refine gm_sz (fw_gr (pc := 8) (ix := 40) (ci := 0) (j := 7) (r := 42) (by decide +kernel) (e0k hE (k := 1) (c := 0) (by decide +kernel)) (by decide +kernel) (by decide +kernel) (e0r hE (k := 1) (j := 7) (r := 42) (by decide +kernel))) ?_
  refine gm_c_virt (k := 42) (ci := 3) (mj := 62) (ix := 157) (pc := 11) (as := []) (st := []) (d' := d - 1) (bc' := 0) (bs' := 0) (by decide +kernel) (by decide +kernel) (by decide +kernel) (by decide +kernel) (e0k hE (k := 42) (c := 3) (by decide +kernel)).1 (e0k hE (k := 42) (c := 3) (by decide +kernel)).2 (by decide) (by decide +kernel) (show 0 = gm_na 62 by decide +kernel) fw_c0 (show 1 ≤ gm_ml 62 by decide +kernel) (Nat.le_of_ble_eq_true rfl) (by omega) (Nat.zero_le _) (Nat.zero_le _) ?_
  refine fg_c62 hE ?_
  show gm_Wp X LX d _ _ 61 14 _ [] n K _ _ Q
  refine gm_sz (gm_p_load (pc := 14) (i := .aload_n 0) (sr := 2) (j := 0) (by decide +kernel) rfl rfl rfl) ?_
  refine gm_sz (gm_p_const (pc := 15) (i := .iconst 0) (v := gm_vi 0) (by decide +kernel) (by decide +kernel)) ?_
  refine gm_sz (fw_pz (pc := 16) (ix := 101) (ci := 0) (j := 15) (M' := gm_uM (gm_uM M5 42 2 0) 1 15 0) (by decide +kernel) (e0k hE (k := 1) (c := 0) (by decide +kernel)) (by decide +kernel) (by decide +kernel) (by decide +kernel) (Or.inl rfl) rfl) ?_
  refine gm_r_void (pc := 19) (by decide +kernel) (by decide +kernel) (hq (gm_uM (gm_uM M5 42 2 0) 1 15 0) (fr_p (fr_p (fr_t fr_0 hf5 (by decide)) (Or.inr (by decide))) (Or.inr (by decide))) (ti_fr (W := [(42, some 2), (1, some 15)]) ht5 (fr_p (fr_p fr_0 (Or.inr (by decide))) (Or.inr (by decide))) (by decide) (by decide +kernel)) ((uM_ne (by omega)).trans ((uM_ne (by omega)).trans h56)) ((uM_ne (by omega)).trans uM_at) uM_at)
end RN14
end
/-! 7a25.c15ys -/
section
/-! THE CLASS: years, undo, back (laid by wip/core/c15.py). -/
section YS15
variable {X : Int → Int} {LX d bc bs n : Nat} {K : gm_K} {R : gm_R} {M : gm_M} {Q : gm_Q} {l p f t v w y : Int} {N NI h : Int → Int} {sp : Int → Int → Int} {FI : gm_M → Prop} {φ : Int → Int → Int → Int} {Ψ : (Int → Int) → Int → Int → Int → Int → Prop} {o dd : Int → Int} {A : List (Int → Int)}
/-- k YEARS more: the world, how many opened -/
noncomputable def yrs (Ψ : (Int → Int) → Int → Int → Int → Int → Prop) (o dd : Int → Int) (s : (Int → Int) × Int) : Nat → (Int → Int) × Int
  | 0 => s
  | k + 1 => ((yrun Ψ o dd (nyr (yrs Ψ o dd s k).1, 0) ((yrs Ψ o dd s k).1 4).toNat).1, (yrs Ψ o dd s k).2 + (yrun Ψ o dd (nyr (yrs Ψ o dd s k).1, 0) ((yrs Ψ o dd s k).1 4).toNat).2)
theorem ym_9 (hN : NR N) (hg : LOGI N) {s0 : Int} (h0 : 0 ≤ s0) : ∀ k : Nat, (k : Int) ≤ N 4 → (yrun Ψ o dd (N, s0) k).1 9 = N 9 := by
  intro k
  induction k with
  | zero => exact fun _ => rfl
  | succ k ih =>
    intro hk
    have i9 := ih (by omega)
    obtain ⟨i1, i2, i3, i4, i5, i6⟩ := ym_i (Ψ := Ψ) (o := o) (dd := dd) hN hg h0 k (by omega)
    show (ystep Ψ o dd (k : Int) (yrun Ψ o dd (N, s0) k)).1 9 = N 9
    generalize yrun Ψ o dd (N, s0) k = s at i1 i2 i3 i4 i5 i6 i9 ⊢
    unfold ystep
    by_cases h : WTS s.1 (k : Int) (o (k : Int)) ∧ ¬ opf s.1 (Ψ s.1) (k : Int) (dd (k : Int)) = -1
    · rw [tif_t h]
      have hl : 0 ≤ (k : Int) ∧ (k : Int) < s.1 4 := ⟨by omega, by omega⟩
      have b4 := i1.2.1.2.2.2.1
      have ho := logi_lt i1 i2 hl h.1.2.1
      exact (nopn_o (i := 9) (by decide) (by decide) ⟨hl.1, by omega⟩ ho).trans i9
    · rw [tif_f h]
      exact i9
/-- what years keep -/
theorem yrs_i (hN : NR N) (hg : LOGI N) : ∀ k : Nat, N 9 + (k : Int) ≤ 299 → NR (yrs Ψ o dd (N, 0) k).1 ∧ LOGI (yrs Ψ o dd (N, 0) k).1 ∧ geo N (yrs Ψ o dd (N, 0) k).1 ∧ (yrs Ψ o dd (N, 0) k).1 4 = N 4 ∧ (yrs Ψ o dd (N, 0) k).1 9 = N 9 + (k : Int) ∧ 0 ≤ (yrs Ψ o dd (N, 0) k).2 ∧ (yrs Ψ o dd (N, 0) k).2 ≤ 24 * (k : Int) := by
  intro k
  induction k with
  | zero => exact fun _ => ⟨hN, hg, geo_r, rfl, by show N 9 = N 9 + ((0 : Nat) : Int); omega, Int.le_refl _, by show (0 : Int) ≤ 24 * ((0 : Nat) : Int); omega⟩
  | succ k ih =>
    intro hk
    obtain ⟨i1, i2, i3, i4, i5, i6, i7⟩ := ih (by omega)
    show NR (yrun Ψ o dd (nyr (yrs Ψ o dd (N, 0) k).1, 0) ((yrs Ψ o dd (N, 0) k).1 4).toNat).1 ∧ LOGI (yrun Ψ o dd (nyr (yrs Ψ o dd (N, 0) k).1, 0) ((yrs Ψ o dd (N, 0) k).1 4).toNat).1 ∧ geo N (yrun Ψ o dd (nyr (yrs Ψ o dd (N, 0) k).1, 0) ((yrs Ψ o dd (N, 0) k).1 4).toNat).1 ∧ (yrun Ψ o dd (nyr (yrs Ψ o dd (N, 0) k).1, 0) ((yrs Ψ o dd (N, 0) k).1 4).toNat).1 4 = N 4 ∧ (yrun Ψ o dd (nyr (yrs Ψ o dd (N, 0) k).1, 0) ((yrs Ψ o dd (N, 0) k).1 4).toNat).1 9 = N 9 + ((k + 1 : Nat) : Int) ∧ 0 ≤ (yrs Ψ o dd (N, 0) k).2 + (yrun Ψ o dd (nyr (yrs Ψ o dd (N, 0) k).1, 0) ((yrs Ψ o dd (N, 0) k).1 4).toNat).2 ∧ (yrs Ψ o dd (N, 0) k).2 + (yrun Ψ o dd (nyr (yrs Ψ o dd (N, 0) k).1, 0) ((yrs Ψ o dd (N, 0) k).1 4).toNat).2 ≤ 24 * ((k + 1 : Nat) : Int)
    generalize yrs Ψ o dd (N, 0) k = s at i1 i2 i3 i4 i5 i6 i7 ⊢
    have b4 := i1.2.1.2.2.2.1
    have e4 : nyr s.1 4 = s.1 4 := nup_ne (by decide)
    obtain ⟨j1, j2, j3, j4, j5, j6⟩ := ym_i (Ψ := Ψ) (o := o) (dd := dd) (nr_nyr i1 (by omega)) (logi_nyr i2) (Int.le_refl 0) (s.1 4).toNat (by rw [e4]; omega)
    have j9 := ym_9 (Ψ := Ψ) (o := o) (dd := dd) (nr_nyr i1 (by omega)) (logi_nyr i2) (s0 := 0) (Int.le_refl 0) (s.1 4).toNat (by rw [e4]; omega)
    have e9 : nyr s.1 9 = s.1 9 + 1 := nup_at
    exact ⟨j1, j2, geo_t i3 (geo_t geo_nyr j3), by rw [j4, e4]; exact i4, by rw [j9, e9, i5]; omega, by omega, by omega⟩

theorem ys_l (hd : 7 ≤ d) (hE : E0 n K R) (hT : TI N h sp M) (hN : NR N) (hg : LOGI N) (hst : FSt FI) (hmo : ∀ N2, geo N N2 → NR N2 → MOW X LX n K R N2 h sp FI (Ψ N2)) (hI : FI M) (hen : ENF N o dd M) (hv : 0 ≤ v ∧ v ≤ 50 ∧ v + N 9 ≤ 299) (hq : ∀ M2, fr [(3, some 6), (11, none), (14, some 3), (15, none), (204, none)] M M2 → cs M2 3 = (yrs Ψ o dd (N, 0) v.toNat).1 → Q (.inl (some (gm_vi (yrs Ψ o dd (N, 0) v.toNat).2))) n K R M2) : ∀ (u k : Nat) (M1 : gm_M), (k : Int) + (u : Int) = v → fr [(3, some 6), (11, none), (14, some 3), (15, none), (204, none)] M M1 → cs M1 3 = (yrs Ψ o dd (N, 0) k).1 → gm_Wp X LX d bc bs 161 56 [some (gm_vr 1), some (gm_vi v), some (gm_vi ((yrs Ψ o dd (N, 0) k).2)), some (gm_vi (k : Int))] [] n K R M1 Q := by
  intro u
  induction u with
  | zero =>
    intro k M1 hk hf hc
    have ek : v.toNat = k := by omega
    rw [ek] at hq
    refine gm_sz (gm_p_load (pc := 56) (i := .iload_n 3) (sr := 0) (j := 3) (by decide +kernel) rfl rfl rfl) ?_
    refine gm_sz (gm_p_load (pc := 57) (i := .iload_n 1) (sr := 0) (j := 1) (by decide +kernel) rfl rfl rfl) ?_
    refine fw_ict (cc := .ge) (pc := 58) (off := 16) (by decide +kernel) (by decide) ⟨by omega, by omega⟩ ⟨by omega, by omega⟩ (show v ≤ (k : Int) by omega) ?_
    refine gm_sz (gm_p_load (pc := 74) (i := .iload_n 2) (sr := 0) (j := 2) (by decide +kernel) rfl rfl rfl) ?_
    exact gm_r_int (pc := 75) (by decide +kernel) (Or.inl (by decide +kernel)) (hq M1 hf hc)
  | succ u ih =>
    intro k M1 hk hf hc
    obtain ⟨i1, i2, i3, i4, i5, i6, i7⟩ := yrs_i (Ψ := Ψ) (o := o) (dd := dd) hN hg k (by omega)
    have t1 : TI (yrs Ψ o dd (N, 0) k).1 h sp M1 := ti_geo i3 hT (cst_fr hT.1 hf (by decide +kernel)) hc (fun a j a1 a2 => hf a j (fun hm => by simp at hm; omega) (fun hm => by simp at hm; omega))
    have en : ENF (yrs Ψ o dd (N, 0) k).1 o dd M1 := ⟨by rw [i4]; exact (fr_c hf (by decide)).trans hen.1, fun l l0 l1 => by
      rw [i4] at l1
      obtain ⟨a, b, c⟩ := hen.2 l l0 l1
      exact ⟨(fr_c hf (by decide)).trans a, (fr_c hf (by decide)).trans b, c⟩⟩
    refine gm_sz (gm_p_load (pc := 56) (i := .iload_n 3) (sr := 0) (j := 3) (by decide +kernel) rfl rfl rfl) ?_
    refine gm_sz (gm_p_load (pc := 57) (i := .iload_n 1) (sr := 0) (j := 1) (by decide +kernel) rfl rfl rfl) ?_
    refine fw_icf (cc := .ge) (pc := 58) (off := 16) (by decide +kernel) (by decide) ⟨by omega, by omega⟩ ⟨by omega, by omega⟩ (show ¬ v ≤ (k : Int) by omega) ?_
    refine gm_sz (gm_p_load (pc := 61) (i := .iload_n 2) (sr := 0) (j := 2) (by decide +kernel) rfl rfl rfl) ?_
    refine gm_sz (gm_p_load (pc := 62) (i := .aload_n 0) (sr := 2) (j := 0) (by decide +kernel) rfl rfl rfl) ?_
    refine gm_c_virt (k := 1) (ci := 0) (mj := 162) (ix := 274) (pc := 63) (as := []) (st := [gm_vi ((yrs Ψ o dd (N, 0) k).2)]) (d' := d - 1) (bc' := 0) (bs' := 0) (by decide +kernel) (by decide +kernel) (by decide +kernel) (by decide +kernel) (e0k hE (k := 1) (c := 0) (by decide +kernel)).1 (e0k hE (k := 1) (c := 0) (by decide +kernel)).2 (by decide) (by decide +kernel) (show 0 = gm_na 162 by decide +kernel) fw_c0 (show 1 ≤ gm_ml 162 by decide +kernel) (Nat.le_of_ble_eq_true rfl) (by omega) (Nat.zero_le _) (Nat.zero_le _) ?_
    refine ym_c162 (by omega) hE t1 i1 i2 (by omega) hst (fun N2 g2 n2 => hmo N2 (geo_t i3 g2) n2) (hst [(3, some 6), (11, none), (14, some 3), (15, none), (204, none)] _ _ (by decide) hf hI) en (fun M9 hf9 hc9 => ?_)
    show gm_Wp X LX d _ _ 161 66 _ [gm_vi ((yrun Ψ o dd (nyr (yrs Ψ o dd (N, 0) k).1, 0) ((yrs Ψ o dd (N, 0) k).1 4).toNat).2), gm_vi ((yrs Ψ o dd (N, 0) k).2)] n K _ _ Q
    refine gm_sz (gm_p_bin (pc := 66) (i := .iadd) (f := fun x y => x + y) (by decide +kernel) rfl) ?_
    refine gm_sz (gm_p_stor (pc := 67) (i := .istore_n 2) (sr := 0) (j := 2) (by decide +kernel) rfl (show 3 ≤ _ from Nat.le_of_ble_eq_true rfl) rfl) ?_
    refine gm_sz (gm_p_iinc (pc := 68) (j := 3) (z := 1) (by decide +kernel) rfl) ?_
    refine gm_sz (gm_p_goto (pc := 71) (off := (-15)) (by decide +kernel) (by decide)) ?_
    have q := ih (k + 1) M9 (by omega) (fr_t (fr_t fr_0 hf (by decide)) hf9 (by decide)) hc9
    rwa [show ((k + 1 : Nat) : Int) = (k : Int) + 1 by omega] at q
theorem ends_e {M2 : gm_M} (he : ENDS N h φ M) (e : ∀ (x : Nat) (j : Int), 220 ≤ x → M2 x j = M x j) : ENDS N h φ M2 := ⟨by rw [e 220 3 (by decide)]; exact he.1, fun l l0 l1 => by rw [e 221 _ (by decide), e 221 _ (by decide)]; exact he.2 l l0 l1⟩
theorem opf_e {ψ : Int → Int → Int → Int → Prop} {l dp dp2 : Int} (h : dp = dp2) : opf N ψ l dp = opf N ψ l dp2 := by rw [h]
/-- years hang on the ends as far as these are told -/
theorem yrun_e {o2 dd2 : Int → Int} (hN : NR N) (hg : LOGI N) {s0 : Int} (h0 : 0 ≤ s0) (he : ∀ l, 0 ≤ l → l < N 4 → (o l = o2 l ∧ -1 ≤ o l) ∧ (0 ≤ o l → dd l = dd2 l)) : ∀ k : Nat, (k : Int) ≤ N 4 → yrun Ψ o dd (N, s0) k = yrun Ψ o2 dd2 (N, s0) k := by
  intro k
  induction k with
  | zero => exact fun _ => rfl
  | succ k ih =>
    intro hk
    obtain ⟨-, -, -, i4, -, -⟩ := ym_i (Ψ := Ψ) (o := o) (dd := dd) hN hg h0 k (by omega)
    show ystep Ψ o dd (k : Int) (yrun Ψ o dd (N, s0) k) = ystep Ψ o2 dd2 (k : Int) (yrun Ψ o2 dd2 (N, s0) k)
    rw [← ih (by omega)]
    generalize yrun Ψ o dd (N, s0) k = s at i4 ⊢
    obtain ⟨⟨a1, a0⟩, a2⟩ := he (k : Int) (by omega) (by omega)
    unfold ystep
    rw [← a1]
    by_cases h : WTS s.1 (k : Int) (o (k : Int))
    · rw [a2 (by have := h.2.2.1; have := h.2.2.2; omega)]
    · rw [tif_f (fun hh => h hh.1), tif_f (fun hh => h hh.1)]
theorem yrs_e {o2 dd2 : Int → Int} (hN : NR N) (hg : LOGI N) (he : ∀ l, 0 ≤ l → l < N 4 → (o l = o2 l ∧ -1 ≤ o l) ∧ (0 ≤ o l → dd l = dd2 l)) : ∀ k : Nat, N 9 + (k : Int) ≤ 299 → yrs Ψ o dd (N, 0) k = yrs Ψ o2 dd2 (N, 0) k := by
  intro k
  induction k with
  | zero => exact fun _ => rfl
  | succ k ih =>
    intro hk
    obtain ⟨i1, i2, i3, i4, i5, i6, i7⟩ := yrs_i (Ψ := Ψ) (o := o) (dd := dd) hN hg k (by omega)
    show ((yrun Ψ o dd (nyr (yrs Ψ o dd (N, 0) k).1, 0) ((yrs Ψ o dd (N, 0) k).1 4).toNat).1, (yrs Ψ o dd (N, 0) k).2 + (yrun Ψ o dd (nyr (yrs Ψ o dd (N, 0) k).1, 0) ((yrs Ψ o dd (N, 0) k).1 4).toNat).2) = ((yrun Ψ o2 dd2 (nyr (yrs Ψ o2 dd2 (N, 0) k).1, 0) ((yrs Ψ o2 dd2 (N, 0) k).1 4).toNat).1, (yrs Ψ o2 dd2 (N, 0) k).2 + (yrun Ψ o2 dd2 (nyr (yrs Ψ o2 dd2 (N, 0) k).1, 0) ((yrs Ψ o2 dd2 (N, 0) k).1 4).toNat).2)
    rw [← ih (by omega)]
    have b4 := i1.2.1.2.2.2.1
    have e4 : nyr (yrs Ψ o dd (N, 0) k).1 4 = (yrs Ψ o dd (N, 0) k).1 4 := nup_ne (by decide)
    rw [yrun_e (o2 := o2) (dd2 := dd2) (nr_nyr i1 (by omega)) (logi_nyr i2) (Int.le_refl 0) (fun l l0 l1 => he l l0 (by rw [e4, i4] at l1; exact l1)) _ (by rw [e4]; omega)]
theorem ac_161 (hd : 24 ≤ d) (hbc : 4 ≤ bc) (hbs : 24 ≤ bs) (hE : E0 n K R) (hT : TI N h sp M) (hN : NR N) (hg : LOGI N) (hH : HIS A M) (hfw : FLW X LX n K R N h sp FI φ) (hI : FI M) (hk : M 1 15 = 0 ∨ (M 1 15 = 1 ∧ ENDS N h φ M)) (hrr : ∀ M M2 : gm_M, (∀ (x : Nat) (j : Int), x < 42 ∨ 199 < x → M2 x j = M x j) → FI M → FI M2) (hfw2 : ∀ p : Nat, p < 12 → FLW X LX n K (gm_uR R (44 + 13 * p) 8 (R 3 8)) N h sp FI φ) (hmo : ∀ p : Nat, p < 12 → ∀ N2, geo N N2 → NR N2 → MOW X LX n K (gm_uR R (44 + 13 * p) 8 (R 3 8)) N2 h sp FI (Ψ N2)) (hy : gm_ir y) (ho : ∀ l, 0 ≤ l → l < N 4 → OUTR N h φ l (o l) (dd l)) (q0 : ¬ (1 ≤ y ∧ y ≤ 50 ∧ y ≤ 299 - N 9) → Q (.inr 0) n K R M) (hq : 1 ≤ y ∧ y ≤ 50 ∧ y ≤ 299 - N 9 → ∀ (p : Nat) (M1 M2 : gm_M), p < 12 → (M 42 1 = (p : Int) ∧ M2 42 1 = ((p : Int) + 1) % 12) → HIS ((N :: A).take 12) M2 → FI M2 → M2 1 15 = 1 → M2 220 3 = N 4 → (∀ l, 0 ≤ l → l < N 4 → OUTR N h φ l (M2 221 (l * 2 + 0)) (M2 221 (l * 2 + 1))) → CST M2 → cs M2 3 = (yrs Ψ o dd (N, 0) y.toNat).1 → (∀ (x : Nat) (j : Int), x < 42 ∨ 199 < x → M1 x j = M x j) → fr [(206, some 2), (206, some 3), (206, some 4), (206, some 5), (206, some 6), (206, some 7), (206, some 8), (200, some 6), (204, none), (205, none), (220, some 3), (221, none), (1, some 15), (3, some 6), (11, none), (14, some 3), (15, none), (204, none)] M1 M2 → Q (.inl (some (gm_vi (yrs Ψ o dd (N, 0) y.toNat).2))) n K (gm_uR R (44 + 13 * p) 8 (R 3 8)) M2) : gm_Wp X LX d bc bs 161 0 (gm_ent 161 [gm_vr 1, gm_vi y]) [] n K R M Q := by
  obtain ⟨⟨⟨a0, b0⟩, ⟨a1, b1⟩, ⟨a10, b10⟩, ⟨a11, b11⟩, ⟨a12, b12⟩, a9, b9⟩, ⟨⟨a2, b2⟩, ⟨a5, b5⟩, ⟨a3, b3⟩, ⟨a4, b4⟩, ⟨a6, b6⟩, ⟨a14, b14⟩, ⟨a7, b7⟩, a13, b13⟩, rF, rP, rL⟩ := id hN
  refine gm_sz (gm_p_load (pc := 0) (i := .iload_n 1) (sr := 0) (j := 1) (by decide +kernel) rfl rfl rfl) ?_
  refine gm_sz (gm_p_const (pc := 1) (i := .iconst 1) (v := gm_vi 1) (by decide +kernel) (by decide +kernel)) ?_
  refine fw_ic (cc := .lt) (pc := 2) (off := 24) (by decide +kernel) (by decide) hy ⟨by decide, by decide⟩ (fun h2 => ?_) (fun h2 => ?_)
  · have h2 : y < 1 := h2
    exact gm_throw (ik := 121) (is := 272) (ic := 125) (x := 0) (id := 39) (lw := true) (by decide +kernel) (by decide +kernel) (by decide +kernel) (by decide +kernel) (by decide +kernel) (by decide +kernel) (by decide +kernel) (by decide +kernel) (Nat.le_of_ble_eq_true rfl) (by omega) (by omega) (by omega) (q0 (by omega))
  · have h2 : ¬ y < 1 := h2
    refine gm_sz (gm_p_load (pc := 5) (i := .iload_n 1) (sr := 0) (j := 1) (by decide +kernel) rfl rfl rfl) ?_
    refine gm_sz (gm_p_const (pc := 6) (i := .bipush 50) (v := gm_vi 50) (by decide +kernel) (by decide +kernel)) ?_
    refine fw_ic (cc := .gt) (pc := 8) (off := 18) (by decide +kernel) (by decide) hy ⟨by decide, by decide⟩ (fun h8 => ?_) (fun h8 => ?_)
    · have h8 : 50 < y := h8
      exact gm_throw (ik := 121) (is := 272) (ic := 125) (x := 0) (id := 39) (lw := true) (by decide +kernel) (by decide +kernel) (by decide +kernel) (by decide +kernel) (by decide +kernel) (by decide +kernel) (by decide +kernel) (by decide +kernel) (Nat.le_of_ble_eq_true rfl) (by omega) (by omega) (by omega) (q0 (by omega))
    · have h8 : ¬ 50 < y := h8
      refine gm_sz (gm_p_load (pc := 11) (i := .iload_n 1) (sr := 0) (j := 1) (by decide +kernel) rfl rfl rfl) ?_
      refine gm_sz (gm_p_const (pc := 12) (i := .sipush 299) (v := gm_vi 299) (by decide +kernel) (by decide +kernel)) ?_
      refine gm_sz (gm_p_load (pc := 15) (i := .aload_n 0) (sr := 2) (j := 0) (by decide +kernel) rfl rfl rfl) ?_
      refine gm_sz (fw_gr (pc := 16) (ix := 23) (ci := 0) (j := 3) (r := 3) (by decide +kernel) (e0k hE (k := 1) (c := 0) (by decide +kernel)) (by decide +kernel) (by decide +kernel) (e0r hE (k := 1) (j := 3) (r := 3) (by decide +kernel))) ?_
      refine gm_sz (fw_gi (pc := 19) (ix := 269) (ci := 1) (j := 6) (x := N 9) (by decide +kernel) (e0k hE (k := 3) (c := 1) (by decide +kernel)) (by decide +kernel) (by decide +kernel) (ti_now hT)) ?_
      refine gm_sz (gm_p_bin (pc := 22) (i := .isub) (f := fun x y => x - y) (by decide +kernel) rfl) ?_
      refine fw_ic (cc := .le) (pc := 23) (off := 14) (by decide +kernel) (by decide) hy ⟨by omega, by omega⟩ (fun h23 => ?_) (fun h23 => ?_)
      · have h23 : y ≤ (299 - (N 9)) := h23
        refine gm_sz (gm_p_load (pc := 37) (i := .aload_n 0) (sr := 2) (j := 0) (by decide +kernel) rfl rfl rfl) ?_
        refine gm_sz (fw_gr (pc := 38) (ix := 40) (ci := 0) (j := 7) (r := 42) (by decide +kernel) (e0k hE (k := 1) (c := 0) (by decide +kernel)) (by decide +kernel) (by decide +kernel) (e0r hE (k := 1) (j := 7) (r := 42) (by decide +kernel))) ?_
        refine gm_sz (gm_p_load (pc := 41) (i := .aload_n 0) (sr := 2) (j := 0) (by decide +kernel) rfl rfl rfl) ?_
        refine gm_sz (fw_gr (pc := 42) (ix := 23) (ci := 0) (j := 3) (r := 3) (by decide +kernel) (e0k hE (k := 1) (c := 0) (by decide +kernel)) (by decide +kernel) (by decide +kernel) (e0r hE (k := 1) (j := 3) (r := 3) (by decide +kernel))) ?_
        refine gm_c_virt (k := 42) (ci := 3) (mj := 154) (ix := 243) (pc := 45) (as := [gm_vr 3]) (st := []) (d' := d - 1) (bc' := 0) (bs' := 0) (by decide +kernel) (by decide +kernel) (by decide +kernel) (by decide +kernel) (e0k hE (k := 42) (c := 3) (by decide +kernel)).1 (e0k hE (k := 42) (c := 3) (by decide +kernel)).2 (by decide) (by decide +kernel) (show 1 = gm_na 154 by decide +kernel) (fw_c1 fw_sr) (show 2 ≤ gm_ml 154 by decide +kernel) (Nat.le_of_ble_eq_true rfl) (by omega) (Nat.zero_le _) (Nat.zero_le _) ?_
        refine rem_c154 (by omega) hE hT hN hH (fun p45 M45 hp45 hk45 hs45 ht45 hx45 => ?_)
        show gm_Wp X LX d _ _ 161 48 _ [] n K _ _ Q
        refine gm_sz (gm_p_load (pc := 48) (i := .aload_n 0) (sr := 2) (j := 0) (by decide +kernel) rfl rfl rfl) ?_
        refine gm_c_virt (k := 1) (ci := 0) (mj := 24) (ix := 254) (pc := 49) (as := []) (st := []) (d' := d - 1) (bc' := 0) (bs' := 0) (by decide +kernel) (by decide +kernel) (by decide +kernel) (by decide +kernel) (e0k hE (k := 1) (c := 0) (by decide +kernel)).1 (e0k hE (k := 1) (c := 0) (by decide +kernel)).2 (by decide) (by decide +kernel) (show 0 = gm_na 24 by decide +kernel) fw_c0 (show 1 ≤ gm_ml 24 by decide +kernel) (Nat.le_of_ble_eq_true rfl) (by omega) (Nat.zero_le _) (Nat.zero_le _) ?_
        refine en_c24 (by omega) (e0h hE (v := R 3 8) hp45) ht45 hN (hfw2 p45 hp45) (hrr M M45 hx45 hI) (by rw [hx45 1 15 (by decide)]; exact hk.elim (fun hk => by rw [hk]; exact ⟨by decide, by decide⟩) (fun hk => by rw [hk.1]; exact ⟨by decide, by decide⟩)) (fun hz => by rw [hx45 1 15 (by decide)] at hz ⊢; have hk2 := hk.resolve_left hz; exact ⟨hk2.1, ends_e hk2.2 (fun x j hx => hx45 x j (by omega))⟩) (fun M24 hf24 hI24 h24 he24 => ?_)
        show gm_Wp X LX d _ _ 161 52 _ [] n K _ _ Q
        refine gm_sz (gm_p_const (pc := 52) (i := .iconst 0) (v := gm_vi 0) (by decide +kernel) (by decide +kernel)) ?_
        refine gm_sz (gm_p_stor (pc := 53) (i := .istore_n 2) (sr := 0) (j := 2) (by decide +kernel) rfl (show 3 ≤ _ from Nat.le_of_ble_eq_true rfl) rfl) ?_
        refine gm_sz (gm_p_const (pc := 54) (i := .iconst 0) (v := gm_vi 0) (by decide +kernel) (by decide +kernel)) ?_
        refine gm_sz (gm_p_stor (pc := 55) (i := .istore_n 3) (sr := 0) (j := 3) (by decide +kernel) rfl (show 4 ≤ _ from Nat.le_of_ble_eq_true rfl) rfl) ?_
        have en : ENF N (fun l => M24 221 (l * 2 + 0)) (fun l => M24 221 (l * 2 + 1)) M24 := ⟨he24.1, fun l l0 l1 => ⟨rfl, rfl, OUTR_b (he24.2 l l0 l1) (rL l l0 l1).2.2.2.1.1⟩⟩
        have ey := yrs_e (Ψ := Ψ) (o := o) (dd := dd) (o2 := fun l => M24 221 (l * 2 + 0)) (dd2 := fun l => M24 221 (l * 2 + 1)) hN hg (fun l l0 l1 => by obtain ⟨a1, a2⟩ := OUTR_u (ho l l0 l1) (he24.2 l l0 l1); exact ⟨⟨a1, (OUTR_b (ho l l0 l1) (rL l l0 l1).2.2.2.1.1).1⟩, a2 (rL l l0 l1).2.2.2.1.1⟩) y.toNat (by omega)
        refine ys_l (Ψ := Ψ) (by omega) (e0h hE (v := R 3 8) hp45) (ti_fr (W := [(206, some 2), (206, some 3), (206, some 4), (206, some 5), (206, some 6), (206, some 7), (206, some 8), (200, some 6), (204, none), (205, none), (220, some 3), (221, none), (1, some 15)]) ht45 (fr_t fr_0 hf24 (by decide)) (by decide) (by decide +kernel)) hN hg (hfw2 p45 hp45).2.1 (hmo p45 hp45) hI24 en ⟨by omega, by omega, by omega⟩ (fun M2 hf2 hc2 => ?_) y.toNat 0 M24 (by omega) fr_0 (ti_fr (W := [(206, some 2), (206, some 3), (206, some 4), (206, some 5), (206, some 6), (206, some 7), (206, some 8), (200, some 6), (204, none), (205, none), (220, some 3), (221, none), (1, some 15)]) ht45 (fr_t fr_0 hf24 (by decide)) (by decide) (by decide +kernel)).2.1
        rw [← ey] at hc2 ⊢
        have hw2 : fr [(206, some 2), (206, some 3), (206, some 4), (206, some 5), (206, some 6), (206, some 7), (206, some 8), (200, some 6), (204, none), (205, none), (220, some 3), (221, none), (1, some 15), (3, some 6), (11, none), (14, some 3), (15, none), (204, none)] M45 M2 := fr_t (fr_t fr_0 hf24 (by decide)) hf2 (by decide)
        exact hq ⟨by omega, by omega, by omega⟩ p45 M45 M2 hp45 ⟨hk45.1, (fr_c hw2 (by decide)).trans hk45.2⟩ (his_w hs45 hw2 (by decide)) ((hfw2 p45 hp45).2.1 _ _ _ (by decide) hf2 hI24) ((fr_j hf2 (by decide)).trans h24) ((fr_c hf2 (by decide)).trans he24.1) (fun l l0 l1 => by rw [fr_c hf2 (show ([(3, some 6), (11, none), (14, some 3), (15, none), (204, none)]).all (fun w => !(w.1 == 221)) = true by decide), fr_c hf2 (show ([(3, some 6), (11, none), (14, some 3), (15, none), (204, none)]).all (fun w => !(w.1 == 221)) = true by decide)]; exact he24.2 l l0 l1) (cst_fr (ti_fr (W := [(206, some 2), (206, some 3), (206, some 4), (206, some 5), (206, some 6), (206, some 7), (206, some 8), (200, some 6), (204, none), (205, none), (220, some 3), (221, none), (1, some 15)]) ht45 (fr_t fr_0 hf24 (by decide)) (by decide) (by decide +kernel)).1 hf2 (by decide +kernel)) hc2 hx45 hw2
      · have h23 : ¬ y ≤ (299 - (N 9)) := h23
        exact gm_throw (ik := 121) (is := 272) (ic := 125) (x := 0) (id := 39) (lw := true) (by decide +kernel) (by decide +kernel) (by decide +kernel) (by decide +kernel) (by decide +kernel) (by decide +kernel) (by decide +kernel) (by decide +kernel) (Nat.le_of_ble_eq_true rfl) (by omega) (by omega) (by omega) (q0 (by omega))
theorem ac_54 (hd : 8 ≤ d) (hE : E0 n K R) (hT : TI N h sp M) (hN : NR N) (hH : HIS A M) (hA : ∀ N1 ∈ A, NR N1) (hq0 : A = [] → ∀ M2 : gm_M, fr [(1, some 15)] M M2 → M2 1 15 = 0 → Q (.inl (some (gm_vi 0))) n K R M2) (hq1 : ∀ (N0 : Int → Int) (A1 : List (Int → Int)) (p : Nat) (M2 : gm_M), A = N0 :: A1 → p < 12 → (M2 42 1 = (p : Int) ∧ M 42 1 = ((p : Int) + 1) % 12) → HIS A1 M2 → CST M2 → cs M2 3 = N0 → M2 1 15 = 0 → (∀ (x : Nat) (j : Int), x < 3 ∨ (15 < x ∧ ¬ x = 42) → ¬ (x = 1 ∧ j = 15) → M2 x j = M x j) → Q (.inl (some (gm_vi 1))) n K (gm_uR R 3 8 (R (44 + 13 * p) 8)) M2) : gm_Wp X LX d bc bs 54 0 (gm_ent 54 [gm_vr 1]) [] n K R M Q := by
  refine gm_sz (gm_p_load (pc := 0) (i := .aload_n 0) (sr := 2) (j := 0) (by decide +kernel) rfl rfl rfl) ?_
  refine gm_sz (gm_p_const (pc := 1) (i := .iconst 0) (v := gm_vi 0) (by decide +kernel) (by decide +kernel)) ?_
  refine gm_sz (fw_pz (pc := 2) (ix := 101) (ci := 0) (j := 15) (M' := gm_uM M 1 15 0) (by decide +kernel) (e0k hE (k := 1) (c := 0) (by decide +kernel)) (by decide +kernel) (by decide +kernel) (by decide +kernel) (Or.inl rfl) rfl) ?_
  refine gm_sz (gm_p_load (pc := 5) (i := .aload_n 0) (sr := 2) (j := 0) (by decide +kernel) rfl rfl rfl) ?_
  refine gm_sz (fw_gr (pc := 6) (ix := 40) (ci := 0) (j := 7) (r := 42) (by decide +kernel) (e0k hE (k := 1) (c := 0) (by decide +kernel)) (by decide +kernel) (by decide +kernel) (e0r hE (k := 1) (j := 7) (r := 42) (by decide +kernel))) ?_
  refine gm_sz (gm_p_load (pc := 9) (i := .aload_n 0) (sr := 2) (j := 0) (by decide +kernel) rfl rfl rfl) ?_
  refine gm_sz (fw_gr (pc := 10) (ix := 23) (ci := 0) (j := 3) (r := 3) (by decide +kernel) (e0k hE (k := 1) (c := 0) (by decide +kernel)) (by decide +kernel) (by decide +kernel) (e0r hE (k := 1) (j := 3) (r := 3) (by decide +kernel))) ?_
  refine gm_c_virt (k := 42) (ci := 3) (mj := 55) (ix := 419) (pc := 13) (as := [gm_vr 3]) (st := []) (d' := d - 1) (bc' := 0) (bs' := 0) (by decide +kernel) (by decide +kernel) (by decide +kernel) (by decide +kernel) (e0k hE (k := 42) (c := 3) (by decide +kernel)).1 (e0k hE (k := 42) (c := 3) (by decide +kernel)).2 (by decide) (by decide +kernel) (show 1 = gm_na 55 by decide +kernel) (fw_c1 fw_sr) (show 2 ≤ gm_ml 55 by decide +kernel) (Nat.le_of_ble_eq_true rfl) (by omega) (Nat.zero_le _) (Nat.zero_le _) ?_
  refine tb_c55 (by omega) hE (ti_fr (W := [(1, some 15)]) hT (fr_p fr_0 (Or.inr (by decide))) (by decide) (by decide +kernel)) (his_w (W := [(1, some 15)]) hH (fr_p fr_0 (Or.inr (by decide))) (by decide)) hA (fun ha9 => ?_) (fun N0 A1 p9 M9 ha9 hp9 hk9 hh9 hc9 hn9 hx9 => ?_)
  · show gm_Wp X LX d _ _ 54 16 _ [gm_vi 0] n K _ _ Q
    exact gm_r_int (pc := 16) (by decide +kernel) (Or.inr ⟨(by decide +kernel), Or.inl rfl⟩) (hq0 ha9 _ (fr_p fr_0 (Or.inr (by decide))) uM_at)
  · show gm_Wp X LX d _ _ 54 16 _ [gm_vi 1] n K _ _ Q
    exact gm_r_int (pc := 16) (by decide +kernel) (Or.inr ⟨(by decide +kernel), Or.inr rfl⟩) (hq1 N0 A1 p9 M9 ha9 hp9 ⟨hk9.1, (uM_ne (by decide)).symm.trans hk9.2⟩ hh9 hc9 hn9 ((hx9 1 15 (by decide)).trans uM_at) (fun x j hx h15 => (hx9 x j hx).trans (uM_ne (fun hh => h15 ⟨hh.1, hh.2⟩))))
theorem ac_60 (hd : 8 ≤ d) (hE : E0 n K R) (hT : TI N h sp M) (hN : NR N) (hb : M 1 6 = 0 ∨ M 1 6 = 1) (q0 : M 1 6 = 0 → Q (.inl (some (gm_vi 0))) n K R M) (hi : M 1 6 = 1 → cs M 29 = NI ∧ NR NI ∧ NS NI) (hq : M 1 6 = 1 → ∀ M2 : gm_M, TI NI (hts (NI 13)) (spd NI) M2 → M2 200 6 = 1 → M2 42 2 = 0 → M2 1 15 = 0 → (∀ (x : Nat) (j : Int), x < 3 ∨ 15 < x → ¬ x = 201 → ¬ x = 202 → ¬ x = 203 → ¬ (x = 200 ∧ j = 6) → ¬ (x = 42 ∧ j = 2) → ¬ (x = 1 ∧ j = 15) → M2 x j = M x j) → Q (.inl (some (gm_vi 1))) n K (gm_uR R 3 8 (R 29 8)) M2) : gm_Wp X LX d bc bs 60 0 (gm_ent 60 [gm_vr 1]) [] n K R M Q := by
  refine gm_sz (gm_p_load (pc := 0) (i := .aload_n 0) (sr := 2) (j := 0) (by decide +kernel) rfl rfl rfl) ?_
  refine gm_sz (fw_gi (pc := 1) (ix := 33) (ci := 0) (j := 6) (x := M 1 6) (by decide +kernel) (e0k hE (k := 1) (c := 0) (by decide +kernel)) (by decide +kernel) (by decide +kernel) rfl) ?_
  refine fw_if (cc := .ne) (pc := 4) (off := 5) (by decide +kernel) (by decide) (by rcases hb with h | h <;> rw [h] <;> exact ⟨by decide, by decide⟩) (fun h4 => ?_) (fun h4 => ?_)
  · have h4 : ¬ (M 1 6) = 0 := h4
    obtain ⟨i1, i2, i3⟩ := hi (by omega)
    refine gm_sz (gm_p_load (pc := 9) (i := .aload_n 0) (sr := 2) (j := 0) (by decide +kernel) rfl rfl rfl) ?_
    refine gm_sz (fw_gr (pc := 10) (ix := 23) (ci := 0) (j := 3) (r := 3) (by decide +kernel) (e0k hE (k := 1) (c := 0) (by decide +kernel)) (by decide +kernel) (by decide +kernel) (e0r hE (k := 1) (j := 3) (r := 3) (by decide +kernel))) ?_
    refine gm_sz (gm_p_load (pc := 13) (i := .aload_n 0) (sr := 2) (j := 0) (by decide +kernel) rfl rfl rfl) ?_
    refine gm_sz (fw_gr (pc := 14) (ix := 30) (ci := 0) (j := 5) (r := 29) (by decide +kernel) (e0k hE (k := 1) (c := 0) (by decide +kernel)) (by decide +kernel) (by decide +kernel) (e0r hE (k := 1) (j := 5) (r := 29) (by decide +kernel))) ?_
    refine gm_c_virt (k := 3) (ci := 1) (mj := 57) (ix := 114) (pc := 17) (as := [gm_vr 29]) (st := []) (d' := d - 1) (bc' := 0) (bs' := 0) (by decide +kernel) (by decide +kernel) (by decide +kernel) (by decide +kernel) (e0k hE (k := 3) (c := 1) (by decide +kernel)).1 (e0k hE (k := 3) (c := 1) (by decide +kernel)).2 (by decide) (by decide +kernel) (show 1 = gm_na 57 by decide +kernel) (fw_c1 fw_sr) (show 2 ≤ gm_ml 57 by decide +kernel) (Nat.le_of_ble_eq_true rfl) (by omega) (Nat.zero_le _) (Nat.zero_le _) ?_
    refine st_copy (b := 3) (s := 29) (by omega) (ks_3 hE) (ks_29 hE) (by omega) (mx_3 hT.1) (sz_cs i2 i1) (fun M9 hx9 hy9 hc9 => ?_)
    show gm_Wp X LX d _ _ 60 20 _ [] n K _ _ Q
    have t9 : TQ NI M9 := ⟨cst_cpy0 (List.all_eq_true.mp cst_cpf 3 (by decide)) hT.1 ⟨hx9, hy9, hc9⟩, hc9.trans i1⟩
    refine gm_sz (gm_p_load (pc := 20) (i := .aload_n 0) (sr := 2) (j := 0) (by decide +kernel) rfl rfl rfl) ?_
    refine gm_c_virt (k := 1) (ci := 0) (mj := 61) (ix := 136) (pc := 21) (as := []) (st := []) (d' := d - 1) (bc' := 0) (bs' := 0) (by decide +kernel) (by decide +kernel) (by decide +kernel) (by decide +kernel) (e0k hE (k := 1) (c := 0) (by decide +kernel)).1 (e0k hE (k := 1) (c := 0) (by decide +kernel)).2 (by decide) (by decide +kernel) (show 0 = gm_na 61 by decide +kernel) fw_c0 (show 1 ≤ gm_ml 61 by decide +kernel) (Nat.le_of_ble_eq_true rfl) (by omega) (Nat.zero_le _) (Nat.zero_le _) ?_
    refine fw_c61 (by omega) (e0h3 hE) t9 i2 i3 (fun M61 hf61 ht61 h6 h42 h15 => ?_)
    show gm_Wp X LX d _ _ 60 24 _ [] n K _ _ Q
    refine gm_sz (gm_p_const (pc := 24) (i := .iconst 1) (v := gm_vi 1) (by decide +kernel) (by decide +kernel)) ?_
    exact gm_r_int (pc := 25) (by decide +kernel) (Or.inr ⟨(by decide +kernel), Or.inr rfl⟩) (hq (by omega) M61 ht61 h6 h42 h15 (fun x j hx h1 h2 h3 h4 h5 h7 => (hf61 x j (by intro hm; simp at hm; omega) (by intro hm; simp at hm; omega)).trans (hx9 x j (by omega))))
  · have h4 : (M 1 6) = 0 := Classical.not_not.mp h4
    refine gm_sz (gm_p_const (pc := 7) (i := .iconst 0) (v := gm_vi 0) (by decide +kernel) (by decide +kernel)) ?_
    exact gm_r_int (pc := 8) (by decide +kernel) (Or.inr ⟨(by decide +kernel), Or.inl rfl⟩) (q0 (by omega))
end YS15
end
