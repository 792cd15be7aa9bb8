/-! FLOWS THAT ARE KEPT, five bits each in a long. -/
def ll_shl (x y : Int) : Int := (Int64.ofInt x <<< ((Int32.ofInt y).toInt64 &&& 63)).toInt
def ll_ushr (x y : Int) : Int := ((Int64.ofInt x).toUInt64 >>> ((Int32.ofInt y).toInt64.toUInt64 &&& Int64.toUInt64 63)).toInt64.toInt
/-- the five bits from s on -/
def fld (x s : Int) : Int := gm_and (ll_ushr x s) 31
/-- f told there -/
def fkeep (x s f : Int) : Int := gm_lor (gm_land x (gm_lxor (ll_shl 31 s) (-1))) (ll_shl f s)
def bN (x : Int) : BitVec 64 := (Int64.ofInt x).toBitVec
theorem bN_toInt (z : Int64) : bN z.toInt = z.toBitVec := by unfold bN; rw [Int64.ofInt_toInt]
/-- the numbers that are shifted by -/
def sh12 (s : Int) (k : Nat) : Prop := (((Int32.ofInt s).toInt64.toUInt64 &&& Int64.toUInt64 63).toBitVec % 64#64).toNat = k ∧ (((Int32.ofInt s).toInt64 &&& 63).toBitVec.smod 64#64).toNat = k ∧ k + 5 ≤ 60
theorem sh12_s {c : Int} (h : 0 ≤ c ∧ c < 12) : ∃ k : Nat, sh12 (c * 5) k ∧ (k : Int) = c * 5 := by
  have h12 : c = 0 ∨ c = 1 ∨ c = 2 ∨ c = 3 ∨ c = 4 ∨ c = 5 ∨ c = 6 ∨ c = 7 ∨ c = 8 ∨ c = 9 ∨ c = 10 ∨ c = 11 := by omega
  rcases h12 with rfl | rfl | rfl | rfl | rfl | rfl | rfl | rfl | rfl | rfl | rfl | rfl
  · exact ⟨0, ⟨by decide, by decide, by decide⟩, by decide⟩
  · exact ⟨5, ⟨by decide, by decide, by decide⟩, by decide⟩
  · exact ⟨10, ⟨by decide, by decide, by decide⟩, by decide⟩
  · exact ⟨15, ⟨by decide, by decide, by decide⟩, by decide⟩
  · exact ⟨20, ⟨by decide, by decide, by decide⟩, by decide⟩
  · exact ⟨25, ⟨by decide, by decide, by decide⟩, by decide⟩
  · exact ⟨30, ⟨by decide, by decide, by decide⟩, by decide⟩
  · exact ⟨35, ⟨by decide, by decide, by decide⟩, by decide⟩
  · exact ⟨40, ⟨by decide, by decide, by decide⟩, by decide⟩
  · exact ⟨45, ⟨by decide, by decide, by decide⟩, by decide⟩
  · exact ⟨50, ⟨by decide, by decide, by decide⟩, by decide⟩
  · exact ⟨55, ⟨by decide, by decide, by decide⟩, by decide⟩
theorem fld_31 (x : Int) : gm_and x 31 = (((bN x).toNat % 32 : Nat) : Int) := by
  unfold gm_and
  have e : (Int32.ofInt x &&& Int32.ofInt 31).toBitVec = BitVec.ofInt 32 x &&& 31#32 := rfl
  show (Int32.ofInt x &&& Int32.ofInt 31).toBitVec.toInt = _
  rw [e, BitVec.toInt_eq_toNat_cond, BitVec.toNat_and]
  have h1 : (BitVec.ofInt 32 x).toNat &&& (31#32).toNat = (BitVec.ofInt 32 x).toNat % 32 := Nat.and_two_pow_sub_one_eq_mod _ 5
  have h2 : ((bN x).toNat : Int) = x % 18446744073709551616 := by
    unfold bN
    show ((BitVec.ofInt 64 x).toNat : Int) = _
    rw [BitVec.toNat_ofInt]
    omega
  have h3 : ((BitVec.ofInt 32 x).toNat : Int) = x % 4294967296 := by
    rw [BitVec.toNat_ofInt]
    omega
  rw [h1]
  split <;> omega
theorem fld_n {x s : Int} {k : Nat} (hs : sh12 s k) : fld x s = (((bN x).toNat / 2 ^ k % 32 : Nat) : Int) := by
  have e1 : ((Int64.ofInt x).toUInt64 >>> ((Int32.ofInt s).toInt64.toUInt64 &&& Int64.toUInt64 63)).toInt64.toBitVec = (bN x) >>> k := by
    show ((Int64.ofInt x).toBitVec >>> (((Int32.ofInt s).toInt64.toUInt64 &&& Int64.toUInt64 63).toBitVec % 64#64)) = _
    rw [BitVec.ushiftRight_eq', hs.1]
    rfl
  unfold fld ll_ushr
  generalize ((Int64.ofInt x).toUInt64 >>> ((Int32.ofInt s).toInt64.toUInt64 &&& Int64.toUInt64 63)).toInt64 = z at e1 ⊢
  rw [fld_31, bN_toInt, e1, BitVec.toNat_ushiftRight, Nat.shiftRight_eq_div_pow]
theorem fld_eq {x y s s' : Int} {k k' : Nat} (hs : sh12 s k) (hs' : sh12 s' k') (h : ∀ i, i < 5 → (bN x).getLsbD (k + i) = (bN y).getLsbD (k' + i)) : fld x s = fld y s' := by
  rw [fld_n hs, fld_n hs']
  congr 1
  apply Nat.eq_of_testBit_eq
  intro i
  rw [show (32 : Nat) = 2 ^ 5 from rfl, Nat.testBit_mod_two_pow, Nat.testBit_mod_two_pow, Nat.testBit_div_two_pow, Nat.testBit_div_two_pow]
  by_cases hi : i < 5
  · have h9 : (bN x).toNat.testBit (k + i) = (bN y).toNat.testBit (k' + i) := h i hi
    rw [Nat.add_comm i k, Nat.add_comm i k', h9]
  · simp [hi]
theorem bN_or {a b : Int} : bN (gm_lor a b) = bN a ||| bN b := by unfold gm_lor; rw [bN_toInt]; rfl
theorem bN_and {a b : Int} : bN (gm_land a b) = bN a &&& bN b := by unfold gm_land; rw [bN_toInt]; rfl
theorem bN_xor {a b : Int} : bN (gm_lxor a b) = bN a ^^^ bN b := by unfold gm_lxor; rw [bN_toInt]; rfl
theorem bN_shl {a s : Int} {k : Nat} (hs : sh12 s k) : bN (ll_shl a s) = bN a <<< k := by
  unfold ll_shl
  rw [bN_toInt]
  show (Int64.ofInt a).toBitVec <<< (((Int32.ofInt s).toInt64 &&& 63).toBitVec.smod 64#64) = _
  rw [BitVec.shiftLeft_eq', hs.2.1]
  rfl
theorem b31 (i : Nat) : (bN 31).getLsbD i = decide (i < 5) := by
  have e : bN 31 = 31#64 := by decide
  rw [e]
  show (31#64).toNat.testBit i = _
  rw [show (31#64).toNat = 2 ^ 5 - 1 from rfl, Nat.testBit_two_pow_sub_one]
theorem bm1 (i : Nat) (h : i < 64) : (bN (-1)).getLsbD i = true := by
  have e : bN (-1) = BitVec.allOnes 64 := by decide
  rw [e, BitVec.getLsbD_allOnes]
  exact decide_eq_true h
theorem bf5 {f : Int} (hf : 0 ≤ f ∧ f < 32) (i : Nat) (h : 5 ≤ i) : (bN f).getLsbD i = false := by
  have e : (bN f).toNat < 32 := by
    unfold bN
    show (BitVec.ofInt 64 f).toNat < 32
    rw [BitVec.toNat_ofInt]
    omega
  show (bN f).toNat.testBit i = false
  exact Nat.testBit_lt_two_pow (Nat.lt_of_lt_of_le e (by
    have := Nat.pow_le_pow_right (n := 2) (by decide) h
    exact this))
theorem bN_keep {x s f : Int} {k : Nat} (hs : sh12 s k) (i : Nat) (hi : i < 64) : (bN (fkeep x s f)).getLsbD i = (((bN x).getLsbD i && !(decide (k ≤ i ∧ i < k + 5))) || (decide (k ≤ i) && (bN f).getLsbD (i - k))) := by
  unfold fkeep
  rw [bN_or, bN_and, bN_xor, bN_shl hs, bN_shl hs, BitVec.getLsbD_or, BitVec.getLsbD_and, BitVec.getLsbD_xor, BitVec.getLsbD_shiftLeft, BitVec.getLsbD_shiftLeft, b31, bm1 i hi]
  by_cases h1 : k ≤ i
  · by_cases h2 : i < k + 5
    · have h3 : i - k < 5 := by omega
      simp [h1, h2, h3, hi, Nat.not_lt.mpr h1]
    · have h3 : ¬ i - k < 5 := by omega
      simp [h1, h2, h3, hi, Nat.not_lt.mpr h1]
  · have h2 : i < k := by omega
    simp [h1, h2, hi]
theorem fld_new {x s f : Int} {k : Nat} (hs : sh12 s k) (hf : 0 ≤ f ∧ f < 32) : fld (fkeep x s f) s = f := by
  have h0 : sh12 0 0 := ⟨by decide, by decide, by decide⟩
  have e : fld (fkeep x s f) s = fld f 0 := fld_eq hs h0 (fun i hi => by
    rw [bN_keep hs (k + i) (by have := hs.2.2; omega)]
    have h1 : k ≤ k + i ∧ k + i < k + 5 := ⟨by omega, by omega⟩
    rw [decide_eq_true h1, decide_eq_true h1.1, show k + i - k = 0 + i by omega]
    simp)
  rw [e, fld_n h0]
  have : ((bN f).toNat : Int) = f := by
    unfold bN
    show ((BitVec.ofInt 64 f).toNat : Int) = f
    rw [BitVec.toNat_ofInt]
    omega
  omega
theorem fld_old {x s s' f : Int} {k k' : Nat} (hs : sh12 s k) (hs' : sh12 s' k') (hf : 0 ≤ f ∧ f < 32) (h : k + 5 ≤ k' ∨ k' + 5 ≤ k) : fld (fkeep x s f) s' = fld x s' := fld_eq hs' hs' (fun i hi => by
    rw [bN_keep hs (k' + i) (by have := hs'.2.2; omega)]
    have h1 : ¬ (k ≤ k' + i ∧ k' + i < k + 5) := by omega
    rw [decide_eq_false h1]
    by_cases h2 : k ≤ k' + i
    · rw [bf5 hf (k' + i - k) (by omega)]
      simp
    · rw [decide_eq_false h2]
      simp)
theorem fld_m1 {s : Int} {k : Nat} (hs : sh12 s k) : fld (-1) s = 31 := by
  have h0 : sh12 0 0 := ⟨by decide, by decide, by decide⟩
  have e : fld (-1) s = fld 31 0 := fld_eq hs h0 (fun i hi => by
    rw [bm1 _ (by have := hs.2.2; omega), b31]
    exact (decide_eq_true (by omega)).symm)
  rw [e]
  decide
