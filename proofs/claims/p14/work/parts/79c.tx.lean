/-! TEXTS ON THE TAPE: blanks, words, numbers and signs; f the bytes, e where the text ends. -/
def tx_b (f : Int → Int) (p : Int) : Bool := decide (f p = 32)
def tx_l (f : Int → Int) (p : Int) : Bool := decide (97 ≤ f p ∧ f p ≤ 122)
def tx_d (f : Int → Int) (p : Int) : Bool := decide (48 ≤ f p ∧ f p ≤ 57)
def tx_w (q : Int → Bool) (e : Int) : Nat → Int → Int
  | 0, p => p
  | t + 1, p => if p < e ∧ q p = true then tx_w q e t (p + 1) else p
/-- the first place from p on where q doesn't hold, or the end -/
def tx_r (q : Int → Bool) (e p : Int) : Int := tx_w q e (e - p).toNat p
theorem tx_rt {q : Int → Bool} {e p : Int} (h : p < e) (hq : q p = true) : tx_r q e p = tx_r q e (p + 1) := by
  unfold tx_r
  rw [show (e - p).toNat = (e - (p + 1)).toNat + 1 by omega]
  show (if p < e ∧ q p = true then tx_w q e (e - (p + 1)).toNat (p + 1) else p) = _
  rw [if_pos ⟨h, hq⟩]
theorem tx_rf {q : Int → Bool} {e p : Int} (h : p < e → ¬ q p = true) : tx_r q e p = p := by
  unfold tx_r
  by_cases h1 : p < e
  · rw [show (e - p).toNat = (e - (p + 1)).toNat + 1 by omega]
    show (if p < e ∧ q p = true then tx_w q e (e - (p + 1)).toNat (p + 1) else p) = _
    rw [if_neg fun h2 => h h1 h2.2]
  · rw [show (e - p).toNat = 0 by omega]
    rfl
theorem tx_rb {q : Int → Bool} {e : Int} : ∀ (t : Nat) (p : Int), (e - p).toNat = t → p ≤ e → p ≤ tx_r q e p ∧ tx_r q e p ≤ e ∧ (tx_r q e p < e → ¬ q (tx_r q e p) = true) := by
  intro t
  induction t with
  | zero =>
    intro p ht hp
    have h : p < e → ¬ q p = true := fun h => by omega
    rw [tx_rf h]
    exact ⟨Int.le_refl _, hp, h⟩
  | succ t ih =>
    intro p ht hp
    by_cases h : p < e ∧ q p = true
    · rw [tx_rt h.1 h.2]
      obtain ⟨a, b, c⟩ := ih (p + 1) (by omega) (by omega)
      exact ⟨by omega, b, c⟩
    · have h : p < e → ¬ q p = true := fun h1 h2 => h ⟨h1, h2⟩
      rw [tx_rf h]
      exact ⟨Int.le_refl _, hp, h⟩
theorem tx_rs {q : Int → Bool} {e p : Int} (h : p < e) (hq : q p = true) : p + 1 ≤ tx_r q e p := by
  rw [tx_rt h hq]
  exact (tx_rb _ (p + 1) rfl (by omega)).1
/-- the token at b: its kind, where it ends, what number it is (of at most m figures) -/
def tx_k (f : Int → Int) (e b : Int) : Int := if e ≤ b then 256 else if tx_l f b = true then 257 else if tx_d f b = true then 258 else f b % 256
def tx_s (f : Int → Int) (e b : Int) : Int := if e ≤ b then b else if tx_l f b = true then tx_r (tx_l f) e b else if tx_d f b = true then tx_r (tx_d f) e b else b + 1
def tx_u (f : Int → Int) (e m b : Int) : Nat → Int → Int → Int
  | 0, _, v => v
  | t + 1, p, v => if p < e ∧ tx_d f p = true then tx_u f e m b t (p + 1) (if p - b < m ∧ ¬ v = -1 then v * 10 + f p - 48 else -1) else v
def tx_v (f : Int → Int) (e m b : Int) : Int := if e ≤ b then -1 else if tx_l f b = true then -1 else if tx_d f b = true then tx_u f e m b (e - b).toNat b 0 else -1
theorem tx_ut {f : Int → Int} {e m b p v : Int} (h : p < e) (hq : tx_d f p = true) : tx_u f e m b (e - p).toNat p v = tx_u f e m b (e - (p + 1)).toNat (p + 1) (if p - b < m ∧ ¬ v = -1 then v * 10 + f p - 48 else -1) := by
  rw [show (e - p).toNat = (e - (p + 1)).toNat + 1 by omega]
  show (if p < e ∧ tx_d f p = true then tx_u f e m b (e - (p + 1)).toNat (p + 1) (if p - b < m ∧ ¬ v = -1 then v * 10 + f p - 48 else -1) else v) = _
  rw [if_pos ⟨h, hq⟩]
theorem tx_uf {f : Int → Int} {e m b p v : Int} (h : p < e → ¬ tx_d f p = true) : tx_u f e m b (e - p).toNat p v = v := by
  by_cases h1 : p < e
  · rw [show (e - p).toNat = (e - (p + 1)).toNat + 1 by omega]
    show (if p < e ∧ tx_d f p = true then _ else v) = _
    rw [if_neg fun h2 => h h1 h2.2]
  · rw [show (e - p).toNat = 0 by omega]
    rfl
/-- where the next token begins -/
def tx_g (f : Int → Int) (e p : Int) : Int := tx_r (tx_b f) e p
def tx_n (f : Int → Int) (e b : Int) : Int := tx_g f e (tx_s f e b)
theorem tx_gb {f : Int → Int} {e p : Int} (h : p ≤ e) : p ≤ tx_g f e p ∧ tx_g f e p ≤ e ∧ (tx_g f e p < e → ¬ f (tx_g f e p) = 32) := by
  obtain ⟨a, b, c⟩ := tx_rb (q := tx_b f) _ p rfl h
  exact ⟨a, b, fun h1 h2 => c h1 (decide_eq_true h2)⟩
theorem tx_gg {f : Int → Int} {e p : Int} (h : p < e → ¬ f p = 32) : tx_g f e p = p := tx_rf fun h1 h2 => h h1 (of_decide_eq_true h2)
section TX
variable {f : Int → Int} {e b m : Int}
theorem tx_k0 (h : e ≤ b) : tx_k f e b = 256 ∧ tx_s f e b = b ∧ tx_v f e m b = -1 := by
  unfold tx_k tx_s tx_v
  rw [if_pos h, if_pos h, if_pos h]
  exact ⟨rfl, rfl, rfl⟩
theorem tx_k1 (h : b < e) (h1 : 97 ≤ f b ∧ f b ≤ 122) : tx_k f e b = 257 ∧ tx_s f e b = tx_r (tx_l f) e b ∧ tx_v f e m b = -1 := by
  have h0 : ¬ e ≤ b := by omega
  have h2 : tx_l f b = true := decide_eq_true h1
  unfold tx_k tx_s tx_v
  rw [if_neg h0, if_neg h0, if_neg h0, if_pos h2, if_pos h2, if_pos h2]
  exact ⟨rfl, rfl, rfl⟩
theorem tx_k2 (h : b < e) (h1 : 48 ≤ f b ∧ f b ≤ 57) : tx_k f e b = 258 ∧ tx_s f e b = tx_r (tx_d f) e b ∧ tx_v f e m b = tx_u f e m b (e - b).toNat b 0 := by
  have h0 : ¬ e ≤ b := by omega
  have h2 : ¬ tx_l f b = true := fun h2 => by have := of_decide_eq_true h2; omega
  have h3 : tx_d f b = true := decide_eq_true h1
  unfold tx_k tx_s tx_v
  rw [if_neg h0, if_neg h0, if_neg h0, if_neg h2, if_neg h2, if_neg h2, if_pos h3, if_pos h3, if_pos h3]
  exact ⟨rfl, rfl, rfl⟩
theorem tx_k3 (h : b < e) (h1 : ¬ (97 ≤ f b ∧ f b ≤ 122)) (h2 : ¬ (48 ≤ f b ∧ f b ≤ 57)) : tx_k f e b = f b % 256 ∧ tx_s f e b = b + 1 ∧ tx_v f e m b = -1 := by
  have h0 : ¬ e ≤ b := by omega
  have h3 : ¬ tx_l f b = true := fun h => h1 (of_decide_eq_true h)
  have h4 : ¬ tx_d f b = true := fun h => h2 (of_decide_eq_true h)
  unfold tx_k tx_s tx_v
  rw [if_neg h0, if_neg h0, if_neg h0, if_neg h3, if_neg h3, if_neg h3, if_neg h4, if_neg h4, if_neg h4]
  exact ⟨rfl, rfl, rfl⟩
theorem tx_kc (h : b < e → -128 ≤ f b ∧ f b ≤ 127) : 0 ≤ tx_k f e b ∧ tx_k f e b ≤ 258 := by
  by_cases h0 : e ≤ b
  · rw [(tx_k0 (m := 0) h0).1]; omega
  by_cases h1 : 97 ≤ f b ∧ f b ≤ 122
  · rw [(tx_k1 (m := 0) (by omega) h1).1]; omega
  by_cases h2 : 48 ≤ f b ∧ f b ≤ 57
  · rw [(tx_k2 (m := 0) (by omega) h2).1]; omega
  · rw [(tx_k3 (m := 0) (by omega) h1 h2).1]; omega
/-- a sign -/
theorem tx_ksg {c : Int} (hb : b < e → -128 ≤ f b ∧ f b ≤ 127) (hc : 0 ≤ c ∧ c < 97 ∧ ¬ (48 ≤ c ∧ c ≤ 57)) : tx_k f e b = c ↔ b < e ∧ f b = c := by
  by_cases h0 : e ≤ b
  · rw [(tx_k0 (m := 0) h0).1]; omega
  have hb := hb (by omega)
  by_cases h1 : 97 ≤ f b ∧ f b ≤ 122
  · rw [(tx_k1 (m := 0) (by omega) h1).1]; omega
  by_cases h2 : 48 ≤ f b ∧ f b ≤ 57
  · rw [(tx_k2 (m := 0) (by omega) h2).1]; omega
  · rw [(tx_k3 (m := 0) (by omega) h1 h2).1]; omega
theorem tx_sb (h : b ≤ e) : b ≤ tx_s f e b ∧ tx_s f e b ≤ e ∧ (b < e → b + 1 ≤ tx_s f e b) := by
  by_cases h0 : e ≤ b
  · rw [(tx_k0 (m := 0) h0).2.1]; omega
  by_cases h1 : 97 ≤ f b ∧ f b ≤ 122
  · rw [(tx_k1 (m := 0) (by omega) h1).2.1]
    have a := tx_rs (q := tx_l f) (e := e) (p := b) (by omega) (decide_eq_true h1)
    have c := tx_rb (q := tx_l f) (e := e) _ b rfl h
    omega
  by_cases h2 : 48 ≤ f b ∧ f b ≤ 57
  · rw [(tx_k2 (m := 0) (by omega) h2).2.1]
    have a := tx_rs (q := tx_d f) (e := e) (p := b) (by omega) (decide_eq_true h2)
    have c := tx_rb (q := tx_d f) (e := e) _ b rfl h
    omega
  · rw [(tx_k3 (m := 0) (by omega) h1 h2).2.1]; omega
theorem tx_nb (h : b ≤ e) : b ≤ tx_n f e b ∧ tx_n f e b ≤ e ∧ (b < e → b + 1 ≤ tx_n f e b) := by
  obtain ⟨a1, a2, a3⟩ := tx_sb (f := f) h
  obtain ⟨c1, c2, -⟩ := tx_gb (f := f) (e := e) (p := tx_s f e b) a2
  unfold tx_n
  refine ⟨by omega, c2, fun h => ?_⟩
  have := a3 h
  omega
theorem tx_kne (h : ¬ tx_k f e b = 256) : b < e := by
  rcases Int.lt_or_le b e with h1 | h1
  · exact h1
  · exact absurd (tx_k0 (m := 0) (f := f) h1).1 h
theorem tx_kne2 (h : tx_k f e b = 256) : e ≤ b := by
  rcases Int.lt_or_le b e with h1 | h1
  · exfalso
    by_cases h2 : 97 ≤ f b ∧ f b ≤ 122
    · have := (tx_k1 (m := 0) h1 h2).1
      omega
    by_cases h3 : 48 ≤ f b ∧ f b ≤ 57
    · have := (tx_k2 (m := 0) h1 h3).1
      omega
    · have := (tx_k3 (m := 0) h1 h2 h3).1
      omega
  · exact h1
end TX
/-- tens -/
def tx_t (k : Int) : Int := if k ≤ 0 then 1 else if k = 1 then 10 else if k = 2 then 100 else if k = 3 then 1000 else 10000
/-- a word's bytes -/
def tx_o (c : Nat) : List Int := (List.range (gm_slen c)).map (gm_chv c)
/-- the word l stands at b -/
def tx_is (f : Int → Int) (e b : Int) (l : List Int) : Prop := tx_k f e b = 257 ∧ tx_s f e b - b = (l.length : Int) ∧ ∀ i : Nat, i < l.length → f (b + i) = l.getD i 0
theorem tx_ol {c : Nat} {l : List Int} (h : tx_o c = l) : gm_slen c = l.length ∧ ∀ i : Nat, i < l.length → gm_chv c i = l.getD i 0 := by
  subst h
  have hl : (tx_o c).length = gm_slen c := by simp [tx_o]
  refine ⟨hl.symm, fun i hi => ?_⟩
  rw [hl] at hi
  unfold tx_o
  rw [List.getD_eq_getElem?_getD, List.getElem?_map, List.getElem?_range hi]
  rfl
theorem tx_wb : ∀ x ∈ (List.range 256), (Int32.ofInt ((x : Int) - 128) &&& Int32.ofInt 255).toInt = ((x : Int) - 128) % 256 := by decide +kernel
/-- a byte's sign -/
theorem tx_by {y : Int} (h : -128 ≤ y ∧ y ≤ 127) : (Int32.ofInt y &&& Int32.ofInt 255).toInt = y % 256 := by
  have := tx_wb (y + 128).toNat (List.mem_range.mpr (by omega))
  rwa [show (((y + 128).toNat : Nat) : Int) - 128 = y by omega] at this
