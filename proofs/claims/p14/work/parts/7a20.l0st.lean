/-! A LAW'S CONDITIONS, as steps behind one another; what the class and the reference make of them. -/
/-- a step: kind (0 a comparison, 8 and 9 side and first, 14 not, 15 and, 16 or), greater?, two sums -/
abbrev lst := Int × Bool × List (Int × Int) × List (Int × Int)
def pval (F : Int → Int) (p : Int × Int) : Int := if p.1 = 10 then p.2 else F p.1
def psum (F : Int → Int) (ps : List (Int × Int)) : Int := ps.foldl (fun s p => s + pval F p) 0
def cval (F : Int → Int) (g : Bool) (a b : List (Int × Int)) : Bool := if g = true then decide (gm_w (psum F b) < gm_w (psum F a)) else decide (gm_w (psum F a) < gm_w (psum F b))
/-- one step: truths upon one another, the latest first -/
def sval (F : Int → Int) (s : lst) (l : List Bool) : List Bool :=
  if s.1 = 0 then cval F s.2.1 s.2.2.1 s.2.2.2 :: l
  else if s.1 = 14 then (!l.headD false) :: l.tail
  else if s.1 = 15 then (l.tail.headD false && l.headD false) :: l.tail.tail
  else if s.1 = 16 then (l.tail.headD false || l.headD false) :: l.tail.tail
  else decide (F s.1 = 1) :: l
def srun (F : Int → Int) (ls : List lst) (l : List Bool) : List Bool := ls.foldl (fun l s => sval F s l) l
def lvl (F : Int → Int) (ls : List lst) : Bool := (srun F ls []).headD false
def pwf (p : Int × Int) : Prop := ((0 ≤ p.1 ∧ p.1 ≤ 7) ∧ p.2 = 0) ∨ (p.1 = 10 ∧ 0 ≤ p.2 ∧ p.2 ≤ 999)
def cwf (a b : List (Int × Int)) : Prop := (∀ p ∈ a, pwf p) ∧ (∀ p ∈ b, pwf p) ∧ ¬ a = [] ∧ ¬ b = []
/-- from h truths upon one another to k, never more than B -/
def shg (B : Nat) : List lst → Nat → Nat → Prop
  | [], h, k => h = k
  | s :: r, h, k => ((s.1 = 0 ∧ cwf s.2.2.1 s.2.2.2 ∨ s.1 = 8 ∨ s.1 = 9) ∧ h + 1 ≤ B ∧ shg B r (h + 1) k) ∨ (s.1 = 14 ∧ 1 ≤ h ∧ shg B r h k) ∨ ((s.1 = 15 ∨ s.1 = 16) ∧ 2 ≤ h ∧ shg B r (h - 1) k)
theorem shg_app {B : Nat} {b : List lst} {m k : Nat} : ∀ (a : List lst) (h : Nat), shg B a h m → shg B b m k → shg B (a ++ b) h k := by
  intro a
  induction a with
  | nil =>
    intro h h1 h2
    have h1 : h = m := h1
    subst h1
    exact h2
  | cons s r ih =>
    intro h h1 h2
    rcases h1 with ⟨a1, a2, a3⟩ | ⟨a1, a2, a3⟩ | ⟨a1, a2, a3⟩
    · exact Or.inl ⟨a1, a2, ih _ a3 h2⟩
    · exact Or.inr (Or.inl ⟨a1, a2, ih _ a3 h2⟩)
    · exact Or.inr (Or.inr ⟨a1, a2, ih _ a3 h2⟩)
theorem shg_mono {B B2 : Nat} (hB : B ≤ B2) {k : Nat} : ∀ (a : List lst) (h : Nat), shg B a h k → shg B2 a h k := by
  intro a
  induction a with
  | nil => exact fun h h1 => h1
  | cons s r ih =>
    intro h h1
    rcases h1 with ⟨a1, a2, a3⟩ | ⟨a1, a2, a3⟩ | ⟨a1, a2, a3⟩
    · exact Or.inl ⟨a1, Nat.le_trans a2 hB, ih _ a3⟩
    · exact Or.inr (Or.inl ⟨a1, a2, ih _ a3⟩)
    · exact Or.inr (Or.inr ⟨a1, a2, ih _ a3⟩)
def b01 (v : Bool) : Int := if v = true then 1 else 0
/-- the class's codes -/
def pcd (p : Int × Int) : Int := if p.1 = 10 then p.2 else -2 - p.1
def scd (s : lst) : List Int :=
  if s.1 = 0 then s.2.2.1.map pcd ++ (-12 :: (s.2.2.2.map pcd ++ [if s.2.1 = true then -14 else -13]))
  else if s.1 = 14 then [-15] else if s.1 = 15 then [-16] else if s.1 = 16 then [-17] else [-2 - s.1]
def scds : List lst → List Int
  | [] => []
  | s :: r => scd s ++ scds r
/-- the reference's steps -/
def rps : List (Int × Int) → List (Int × Int)
  | [] => []
  | q :: qs => q :: (11, 0) :: rps qs
def rpt : List (Int × Int) → List (Int × Int)
  | [] => []
  | p :: ps => p :: rps ps
def srd (s : lst) : List (Int × Int) := if s.1 = 0 then rpt s.2.2.1 ++ (rpt s.2.2.2 ++ [(if s.2.1 = true then 13 else 12, 0)]) else [(s.1, 0)]
def srds : List lst → List (Int × Int)
  | [] => []
  | s :: r => srd s ++ srds r
theorem scds_app {b : List lst} : ∀ a : List lst, scds (a ++ b) = scds a ++ scds b := by
  intro a
  induction a with
  | nil => rfl
  | cons s r ih =>
    show scd s ++ scds (r ++ b) = (scd s ++ scds r) ++ scds b
    rw [ih, List.append_assoc]
theorem srds_app {b : List lst} : ∀ a : List lst, srds (a ++ b) = srds a ++ srds b := by
  intro a
  induction a with
  | nil => rfl
  | cons s r ih =>
    show srd s ++ srds (r ++ b) = (srd s ++ srds r) ++ srds b
    rw [ih, List.append_assoc]
section LT1
variable {F : Int → Int}
def evl (F : Int → Int) (l : List Int) (s : Int × Int × Int) : Int × Int × Int := l.foldl (fun s c => ev1 F c s) s
theorem evl_app {a b : List Int} {s : Int × Int × Int} : evl F (a ++ b) s = evl F b (evl F a s) := List.foldl_append ..
theorem evl_cons {c : Int} {b : List Int} {s : Int × Int × Int} : evl F (c :: b) s = evl F b (ev1 F c s) := rfl
theorem ev1_p {p : Int × Int} (hp : pwf p) {t l s : Int} : ev1 F (pcd p) (t, l, s) = (t, l, s + pval F p) := by
  unfold ev1 pcd pval evk
  rcases hp with ⟨⟨h1, h2⟩, -⟩ | ⟨h1, h2, h3⟩
  · have e : -2 - (-2 - p.1) = p.1 := by omega
    rw [if_neg (show ¬ p.1 = 10 by omega), if_neg (show ¬ p.1 = 10 by omega), if_neg (show ¬ 0 ≤ -2 - p.1 by omega), if_pos (show -10 < -2 - p.1 by omega), e, if_pos (show 0 ≤ p.1 ∧ p.1 < 10 by omega)]
  · rw [if_pos h1, if_pos h1, if_pos h2]
theorem evl_ps : ∀ (ps : List (Int × Int)), (∀ p ∈ ps, pwf p) → ∀ t l s : Int, evl F (ps.map pcd) (t, l, s) = (t, l, ps.foldl (fun s p => s + pval F p) s) := by
  intro ps
  induction ps with
  | nil => intro _ t l s; rfl
  | cons p ps ih =>
    intro h t l s
    rw [List.map_cons, evl_cons, ev1_p (h p List.mem_cons_self)]
    exact ih (fun q hq => h q (List.mem_cons_of_mem _ hq)) t l _
/-- the bits of an int -/
def bI (x : Int) : BitVec 32 := (Int32.ofInt x).toBitVec
theorem bI_toInt (z : Int32) : bI z.toInt = z.toBitVec := by unfold bI; rw [Int32.ofInt_toInt]
theorem bI_or {a b : Int} : bI (gm_or a b) = bI a ||| bI b := by unfold gm_or; rw [bI_toInt]; rfl
theorem bI_and {a b : Int} : bI (gm_and a b) = bI a &&& bI b := by unfold gm_and; rw [bI_toInt]; rfl
theorem bI_xor {a b : Int} : bI (gm_xor a b) = bI a ^^^ bI b := by unfold gm_xor; rw [bI_toInt]; rfl
theorem bI_shl {a : Int} : bI (gm_shl a 1) = bI a <<< 1 := by
  unfold gm_shl
  rw [bI_toInt]
  show (Int32.ofInt a).toBitVec <<< ((Int32.ofInt 1 &&& 31).toBitVec.smod 32#32) = _
  rw [show (Int32.ofInt 1 &&& 31).toBitVec.smod 32#32 = 1#32 by decide, BitVec.shiftLeft_eq']
  rfl
theorem bI_shr {a : Int} : bI (gm_shr a 1) = (bI a).sshiftRight 1 := by
  unfold gm_shr
  rw [bI_toInt]
  show (Int32.ofInt a).toBitVec.sshiftRight' ((Int32.ofInt 1 &&& 31).toBitVec.smod 32#32) = _
  rw [show (Int32.ofInt 1 &&& 31).toBitVec.smod 32#32 = 1#32 by decide, BitVec.sshiftRight_eq']
  rfl
/-- what lies upon one another in bits, the latest first -/
def SB (b : Int) (l : List Bool) : Prop := l.length ≤ 32 ∧ ∀ (i : Nat) (v : Bool), l[i]? = some v → (bI b).getLsbD i = v
theorem SB_i {b : Int} {l : List Bool} (h : SB b l) {i : Nat} {v : Bool} (hi : l[i]? = some v) : i < 32 ∧ (bI b).getLsbD i = v := by
  refine ⟨?_, h.2 i v hi⟩
  obtain ⟨hh, -⟩ := List.getElem?_eq_some_iff.mp hi
  have := h.1
  omega
theorem bI01 (v : Bool) (i : Nat) : (bI (b01 v)).getLsbD i = (decide (i = 0) && v) := by
  cases v with
  | false =>
    have e : bI (b01 false) = 0#32 := by decide
    rw [e, BitVec.getLsbD_zero, Bool.and_false]
  | true =>
    have e : bI (b01 true) = 1#32 := by decide
    rw [e, BitVec.getLsbD_one, Bool.and_true]
    simp
theorem SB_push {b : Int} {l : List Bool} (h : SB b l) (hl : l.length + 1 ≤ 32) (v : Bool) : SB (gm_or (gm_shl b 1) (b01 v)) (v :: l) := by
  refine ⟨by rw [List.length_cons]; exact hl, fun i w hw => ?_⟩
  rw [bI_or, bI_shl, BitVec.getLsbD_or, BitVec.getLsbD_shiftLeft, bI01]
  cases i with
  | zero =>
    have e : v = w := by simpa using hw
    subst e
    simp
  | succ i =>
    have hw : l[i]? = some w := by simpa using hw
    obtain ⟨h1, h2⟩ := SB_i h hw
    obtain ⟨hh, -⟩ := List.getElem?_eq_some_iff.mp hw
    have h3 : i + 1 < 32 := by omega
    simp [h2, h3]
theorem SB_not {b : Int} {l : List Bool} {v : Bool} (h : SB b (v :: l)) : SB (gm_xor b 1) ((!v) :: l) := by
  have e1 : bI 1 = bI (b01 true) := rfl
  refine ⟨h.1, fun i w hw => ?_⟩
  rw [bI_xor, BitVec.getLsbD_xor, e1, bI01]
  cases i with
  | zero =>
    have e : (!v) = w := by simpa using hw
    have h0 := h.2 0 v rfl
    subst e
    rw [h0]
    cases v <;> rfl
  | succ i =>
    have hw : l[i]? = some w := by simpa using hw
    have h0 := h.2 (i + 1) w (by simpa using hw)
    simp [h0]
theorem bm2 (i : Nat) (h : i < 32) : (bI (-2)).getLsbD i = !decide (i = 0) := by
  have e : bI (-2) = ~~~ (1#32) := by decide
  rw [e, BitVec.getLsbD_not, BitVec.getLsbD_one]
  simp [h]
theorem SB_and {b : Int} {l : List Bool} {v w : Bool} (h : SB b (w :: v :: l)) : SB (gm_and (gm_shr b 1) (gm_or b (-2))) ((v && w) :: l) := by
  have h9 := h.1
  simp only [List.length_cons] at h9
  refine ⟨by rw [List.length_cons]; omega, fun i x hx => ?_⟩
  rw [bI_and, bI_shr, bI_or, BitVec.getLsbD_and, BitVec.getLsbD_or, BitVec.getLsbD_sshiftRight]
  cases i with
  | zero =>
    have e : (v && w) = x := by simpa using hx
    have h0 := h.2 0 w rfl
    have h1 := h.2 1 v rfl
    rw [bm2 0 (by decide)]
    subst e
    have h0 : (bI b)[0] = w := by simpa using h0
    have h1 : (bI b)[1] = v := by simpa using h1
    simp [h0, h1]
  | succ i =>
    have hx : l[i]? = some x := by simpa using hx
    have h0 := h.2 (i + 2) x (by simpa using hx)
    obtain ⟨hh, -⟩ := List.getElem?_eq_some_iff.mp hx
    have h3 : 1 + (i + 1) < 32 := by omega
    have h4 : ¬ 32 ≤ i + 1 := by omega
    rw [bm2 (i + 1) (by omega), if_pos h3, show 1 + (i + 1) = i + 2 by omega, h0]
    simp [h4]
theorem SB_or {b : Int} {l : List Bool} {v w : Bool} (h : SB b (w :: v :: l)) : SB (gm_or (gm_shr b 1) (gm_and b 1)) ((v || w) :: l) := by
  have e1 : bI 1 = bI (b01 true) := rfl
  have h9 := h.1
  simp only [List.length_cons] at h9
  refine ⟨by rw [List.length_cons]; omega, fun i x hx => ?_⟩
  rw [bI_or, bI_shr, bI_and, BitVec.getLsbD_or, BitVec.getLsbD_and, BitVec.getLsbD_sshiftRight, e1, bI01]
  cases i with
  | zero =>
    have e : (v || w) = x := by simpa using hx
    have h0 := h.2 0 w rfl
    have h1 := h.2 1 v rfl
    subst e
    have h0 : (bI b)[0] = w := by simpa using h0
    have h1 : (bI b)[1] = v := by simpa using h1
    simp [h0, h1]
  | succ i =>
    have hx : l[i]? = some x := by simpa using hx
    have h0 := h.2 (i + 2) x (by simpa using hx)
    obtain ⟨hh, -⟩ := List.getElem?_eq_some_iff.mp hx
    have h3 : 1 + (i + 1) < 32 := by omega
    have h4 : ¬ 32 ≤ i + 1 := by omega
    rw [if_pos h3, show 1 + (i + 1) = i + 2 by omega, h0]
    simp [h4]
theorem SB_top {b : Int} {l : List Bool} {v : Bool} (h : SB b (v :: l)) : gm_and b 1 = 1 ↔ v = true := by
  have h0 := h.2 0 v rfl
  have e1 : bI 1 = bI (b01 true) := rfl
  have e : bI (gm_and b 1) = bI (b01 v) := by
    apply BitVec.eq_of_getLsbD_eq
    intro i hi
    rw [bI_and, BitVec.getLsbD_and, e1, bI01, bI01]
    cases i with
    | zero =>
      rw [h0]
      cases v <;> rfl
    | succ i => simp
  have e2 : gm_and b 1 = b01 v := by
    have h2 : (Int32.ofInt (gm_and b 1)).toInt = gm_and b 1 := by
      unfold gm_and
      rw [Int32.ofInt_toInt]
    have h3 : (Int32.ofInt (b01 v)).toInt = b01 v := by cases v <;> decide
    rw [← h2, ← h3]
    have h4 : Int32.ofInt (gm_and b 1) = Int32.ofInt (b01 v) := Int32.toBitVec_inj.mp e
    rw [h4]
  rw [e2]
  cases v <;> decide
theorem evl_push (hF : FB F) {s : lst} (h1 : s.1 = 0 ∧ cwf s.2.2.1 s.2.2.2 ∨ s.1 = 8 ∨ s.1 = 9) (b l : Int) (st : List Bool) : ∃ v l2, evl F (scd s) (b, l, 0) = (gm_or (gm_shl b 1) (b01 v), l2, 0) ∧ sval F s st = v :: st := by
  obtain ⟨kd, g, x, y⟩ := s
  have key : ∀ x : Int, x = 0 ∨ x = 1 → x = b01 (decide (x = 1)) := fun x hx => by rcases hx with rfl | rfl <;> decide
  rcases h1 with ⟨h1, hx, hy, -, -⟩ | h1 | h1
  · have h1 : kd = 0 := h1
    subst h1
    refine ⟨cval F g x y, psum F x, ?_, rfl⟩
    show evl F (x.map pcd ++ (-12 :: (y.map pcd ++ [if g = true then -14 else -13]))) (b, l, 0) = _
    rw [evl_app, evl_ps x hx, evl_cons]
    have e12 : ∀ s, ev1 F (-12) (b, l, s) = (b, s, 0) := fun s => rfl
    rw [e12, evl_app, evl_ps y hy]
    cases g with
    | true =>
      show (gm_or (gm_shl b 1) (if gm_w (psum F y) < gm_w (psum F x) then 1 else 0), psum F x, (0 : Int)) = _
      unfold cval b01
      by_cases h : gm_w (psum F y) < gm_w (psum F x)
      · rw [if_pos h, if_pos rfl, decide_eq_true h, if_pos rfl]
      · rw [if_neg h, if_pos rfl, decide_eq_false h, if_neg (by decide)]
    | false =>
      show (gm_or (gm_shl b 1) (if gm_w (psum F x) < gm_w (psum F y) then 1 else 0), psum F x, (0 : Int)) = _
      unfold cval b01
      by_cases h : gm_w (psum F x) < gm_w (psum F y)
      · rw [if_pos h, if_neg (show ¬ (false = true) by decide), decide_eq_true h, if_pos rfl]
      · rw [if_neg h, if_neg (show ¬ (false = true) by decide), decide_eq_false h, if_neg (by decide)]
  · have h1 : kd = 8 := h1
    subst h1
    refine ⟨decide (F 8 = 1), l, ?_, rfl⟩
    rw [← key (F 8) hF.1]
    rfl
  · have h1 : kd = 9 := h1
    subst h1
    refine ⟨decide (F 9 = 1), l, ?_, rfl⟩
    rw [← key (F 9) hF.2]
    rfl
theorem st_1 {st : List Bool} (h : 1 ≤ st.length) : ∃ v r, st = v :: r := by
  cases st with
  | nil => exact absurd h (by decide)
  | cons v r => exact ⟨v, r, rfl⟩
theorem st_2 {st : List Bool} (h : 2 ≤ st.length) : ∃ w v r, st = w :: v :: r := by
  obtain ⟨w, r, rfl⟩ := st_1 (st := st) (by omega)
  obtain ⟨v, r, rfl⟩ := st_1 (st := r) (by rw [List.length_cons] at h; omega)
  exact ⟨w, v, r, rfl⟩
theorem evl_s (hF : FB F) : ∀ (ls : List lst) (h k : Nat), shg 32 ls h k → ∀ (b l : Int) (st : List Bool), st.length = h → SB b st → ∃ b2 l2, evl F (scds ls) (b, l, 0) = (b2, l2, 0) ∧ SB b2 (srun F ls st) ∧ (srun F ls st).length = k := by
  intro ls
  induction ls with
  | nil =>
    intro h k hs b l st hl hb
    have hs : h = k := hs
    exact ⟨b, l, rfl, hb, hl.trans hs⟩
  | cons s r ih =>
    intro h k hs b l st hl hb
    have e0 : evl F (scds (s :: r)) (b, l, 0) = evl F (scds r) (evl F (scd s) (b, l, 0)) := evl_app
    have e1 : srun F (s :: r) st = srun F r (sval F s st) := rfl
    rw [e0, e1]
    rcases hs with ⟨h1, h2, h3⟩ | ⟨h1, h2, h3⟩ | ⟨h1, h2, h3⟩
    · obtain ⟨v, l2, e2, e3⟩ := evl_push hF h1 b l st
      rw [e2, e3]
      exact ih (h + 1) k h3 _ l2 (v :: st) (by rw [List.length_cons, hl]) (SB_push hb (by omega) v)
    · obtain ⟨v, q, rfl⟩ := st_1 (st := st) (by omega)
      obtain ⟨kd, g, x, y⟩ := s
      have h1 : kd = 14 := h1
      subst h1
      exact ih h k h3 (gm_xor b 1) l ((!v) :: q) hl (SB_not hb)
    · obtain ⟨w, v, q, rfl⟩ := st_2 (st := st) (by omega)
      obtain ⟨kd, g, x, y⟩ := s
      have hl2 : (q.length + 1) + 1 = h := hl
      rcases h1 with h1 | h1
      · have h1 : kd = 15 := h1
        subst h1
        exact ih (h - 1) k h3 (gm_and (gm_shr b 1) (gm_or b (-2))) l ((v && w) :: q) (by rw [List.length_cons]; omega) (SB_and hb)
      · have h1 : kd = 16 := h1
        subst h1
        exact ih (h - 1) k h3 (gm_or (gm_shr b 1) (gm_and b 1)) l ((v || w) :: q) (by rw [List.length_cons]; omega) (SB_or hb)
theorem scd_n {s : lst} : 1 ≤ (scd s).length := by
  unfold scd
  split
  · simp only [List.length_append, List.length_cons]
    omega
  · split
    · exact Nat.le_refl _
    · split
      · exact Nat.le_refl _
      · split <;> exact Nat.le_refl _
theorem scds_n {B : Nat} {ls : List lst} (h : shg B ls 0 1) : 1 ≤ (scds ls).length := by
  cases ls with
  | nil => exact absurd (show (0 : Nat) = 1 from h) (by decide)
  | cons s r =>
    have := scd_n (s := s)
    show 1 ≤ (scd s ++ scds r).length
    rw [List.length_append]
    omega
theorem evr_l {C : Int → Int} : ∀ (l : List Int) (i : Int) (s : Int × Int × Int), (∀ (j : Nat) (v : Int), l[j]? = some v → C (i + (j : Int)) = v) → evr F C l.length i s = evl F l s := by
  intro l
  induction l with
  | nil => intro i s _; rfl
  | cons c l ih =>
    intro i s h
    show evr F C l.length (i + 1) (ev1 F (C i) s) = evl F l (ev1 F c s)
    have h0 := h 0 c rfl
    rw [show i + ((0 : Nat) : Int) = i by omega] at h0
    rw [h0]
    refine ih (i + 1) _ (fun j v hj => ?_)
    have := h (j + 1) v (by simpa using hj)
    rwa [show i + ((j + 1 : Nat) : Int) = i + 1 + (j : Int) by omega] at this
theorem lvl_e {ls : List lst} {v : Bool} (h : srun F ls [] = [v]) : lvl F ls = v := by
  unfold lvl
  rw [h]
  rfl
/-- what the class makes of a condition's codes -/
theorem evh_t (hF : FB F) {C : Int → Int} {t : List lst} {b e : Int} (hw : shg 32 t 0 1) (he : e = b + ((scds t).length : Int)) (hn : b < e) (hC : ∀ (j : Nat) (v : Int), (scds t)[j]? = some v → C (b + (j : Int)) = v) : evh F C b e ↔ lvl F t = true := by
  unfold evh
  rw [show (e - b).toNat = (scds t).length by omega, if_pos hn, evr_l _ _ _ hC]
  obtain ⟨b2, l2, e2, h2, h3⟩ := evl_s hF t 0 1 hw 0 0 [] rfl ⟨by decide, fun i v h => by simp at h⟩
  rw [e2]
  obtain ⟨v, q, e⟩ := st_1 (st := srun F t []) (by omega)
  have hq : q = [] := by
    rw [e, List.length_cons] at h3
    exact List.length_eq_zero_iff.mp (by omega)
  subst hq
  rw [e] at h2
  rw [lvl_e e]
  exact SB_top h2
theorem evh_0 {C : Int → Int} {b : Int} : evh F C b b := by
  unfold evh
  rw [show (b - b).toNat = 0 by omega, if_neg (by omega)]
  show gm_and 1 1 = 1
  decide
-- the reference
def rvl (F : Int → Int) (l : List (Int × Int)) (s : (Int → Int) × Int) : (Int → Int) × Int := l.foldl (fun s c => rv1 F c.1 c.2 s) s
theorem rvl_app {a b : List (Int × Int)} {s : (Int → Int) × Int} : rvl F (a ++ b) s = rvl F b (rvl F a s) := List.foldl_append ..
theorem rvl_cons {c : Int × Int} {b : List (Int × Int)} {s : (Int → Int) × Int} : rvl F (c :: b) s = rvl F b (rv1 F c.1 c.2 s) := rfl
theorem rv1_p {p : Int × Int} (hp : pwf p) {V : Int → Int} {k : Int} : rv1 F p.1 p.2 (V, k) = (nup V k (pval F p), k + 1) := by
  have h : p.1 ≤ 10 := by rcases hp with ⟨⟨h1, h2⟩, -⟩ | ⟨h1, h2, h3⟩ <;> omega
  unfold rv1
  rw [if_pos h]
  rfl
theorem rv1_b {c : Int} (hc : 10 < c) (h14 : ¬ c = 14) {V : Int → Int} {k : Int} : rv1 F c 0 (V, k + 1 + 1) = (nup V k (rbin c (V k) (V (k + 1))), k + 1) := by
  unfold rv1
  rw [if_neg (by omega), if_neg h14]
  dsimp only
  rw [show k + 1 + 1 - 1 - 1 = k by omega, show k + 1 + 1 - 1 = k + 1 by omega]
theorem rvl_ps : ∀ (ps : List (Int × Int)), (∀ p ∈ ps, pwf p) → ∀ (V : Int → Int) (k : Int), ∃ V2, rvl F (rps ps) (V, k + 1) = (V2, k + 1) ∧ V2 k = ps.foldl (fun s p => s + pval F p) (V k) ∧ ∀ j, j < k → V2 j = V j := by
  intro ps
  induction ps with
  | nil => exact fun _ V k => ⟨V, rfl, rfl, fun _ _ => rfl⟩
  | cons p ps ih =>
    intro h V k
    have e : rvl F (rps (p :: ps)) (V, k + 1) = rvl F (rps ps) (nup (nup V (k + 1) (pval F p)) k (V k + pval F p), k + 1) := by
      show rvl F (p :: (11, 0) :: rps ps) (V, k + 1) = _
      rw [rvl_cons, rv1_p (h p List.mem_cons_self), rvl_cons, rv1_b (by decide) (by decide)]
      rw [nup_at, nup_ne (show ¬ k = k + 1 by omega)]
      rfl
    obtain ⟨V2, e2, h2, h3⟩ := ih (fun q hq => h q (List.mem_cons_of_mem _ hq)) (nup (nup V (k + 1) (pval F p)) k (V k + pval F p)) k
    refine ⟨V2, e.trans e2, ?_, fun j hj => ?_⟩
    · rw [h2, nup_at]
      rfl
    · rw [h3 j hj, nup_ne (by omega), nup_ne (by omega)]
theorem rvl_pt {ps : List (Int × Int)} (h : ∀ p ∈ ps, pwf p) (hn : ¬ ps = []) (V : Int → Int) (k : Int) : ∃ V2, rvl F (rpt ps) (V, k) = (V2, k + 1) ∧ V2 k = psum F ps ∧ ∀ j, j < k → V2 j = V j := by
  cases ps with
  | nil => exact absurd rfl hn
  | cons p ps =>
    obtain ⟨V2, e2, h2, h3⟩ := rvl_ps (F := F) ps (fun q hq => h q (List.mem_cons_of_mem _ hq)) (nup V k (pval F p)) k
    refine ⟨V2, ?_, ?_, fun j hj => ?_⟩
    · show rvl F (p :: rps ps) (V, k) = _
      rw [rvl_cons, rv1_p (h p List.mem_cons_self)]
      exact e2
    · rw [h2, nup_at]
      show ps.foldl (fun s p => s + pval F p) (pval F p) = ps.foldl (fun s p => s + pval F p) (0 + pval F p)
      rw [Int.zero_add]
    · rw [h3 j hj, nup_ne (by omega)]
theorem rb01 (v w : Bool) : rbin 15 (b01 v) (b01 w) = b01 (v && w) ∧ rbin 16 (b01 v) (b01 w) = b01 (v || w) := by cases v <;> cases w <;> decide
def RSK (V : Int → Int) (st : List Bool) : Prop := ∀ (i : Nat) (v : Bool), st[i]? = some v → V ((st.length : Int) - 1 - (i : Int)) = b01 v
theorem RSK_push {V V2 : Int → Int} {st : List Bool} {v : Bool} (h : RSK V st) (h1 : V2 (st.length : Int) = b01 v) (h2 : ∀ j, j < (st.length : Int) → V2 j = V j) : RSK V2 (v :: st) := by
  intro i w hi
  rw [List.length_cons]
  cases i with
  | zero =>
    have e : v = w := by simpa using hi
    subst e
    rw [show ((st.length + 1 : Nat) : Int) - 1 - ((0 : Nat) : Int) = (st.length : Int) by omega]
    exact h1
  | succ i =>
    have hi : st[i]? = some w := by simpa using hi
    rw [show ((st.length + 1 : Nat) : Int) - 1 - ((i + 1 : Nat) : Int) = (st.length : Int) - 1 - (i : Int) by omega, h2 _ (by omega)]
    exact h i w hi
theorem RSK_0 {V : Int → Int} {st : List Bool} {v : Bool} (h : RSK V (v :: st)) : V (st.length : Int) = b01 v ∧ RSK V st := by
  constructor
  · have := h 0 v rfl
    rwa [List.length_cons, show ((st.length + 1 : Nat) : Int) - 1 - ((0 : Nat) : Int) = (st.length : Int) by omega] at this
  · intro i w hi
    have := h (i + 1) w (by simpa using hi)
    rwa [List.length_cons, show ((st.length + 1 : Nat) : Int) - 1 - ((i + 1 : Nat) : Int) = (st.length : Int) - 1 - (i : Int) by omega] at this
theorem rvl_push (hF : FB F) {s : lst} (h1 : s.1 = 0 ∧ cwf s.2.2.1 s.2.2.2 ∨ s.1 = 8 ∨ s.1 = 9) (V : Int → Int) (k : Int) (st : List Bool) : ∃ v V2, rvl F (srd s) (V, k) = (V2, k + 1) ∧ V2 k = b01 v ∧ (∀ j, j < k → V2 j = V j) ∧ sval F s st = v :: st := by
  obtain ⟨kd, g, x, y⟩ := s
  have key : ∀ x : Int, x = 0 ∨ x = 1 → x = b01 (decide (x = 1)) := fun x hx => by rcases hx with rfl | rfl <;> decide
  rcases h1 with ⟨h1, hx, hy, nx, ny⟩ | h1 | h1
  · have h1 : kd = 0 := h1
    subst h1
    obtain ⟨V1, e1, a1, b1⟩ := rvl_pt (F := F) hx nx V k
    obtain ⟨V2, e2, a2, b2⟩ := rvl_pt (F := F) hy ny V1 (k + 1)
    have e : rvl F (rpt x ++ (rpt y ++ [(if g = true then 13 else 12, 0)])) (V, k) = rvl F [(if g = true then 13 else 12, 0)] (V2, k + 1 + 1) := by
      rw [rvl_app, e1, rvl_app, e2]
    have hk : V2 k = psum F x := (b2 k (by omega)).trans a1
    refine ⟨cval F g x y, nup V2 k (b01 (cval F g x y)), ?_, nup_at, fun j hj => by rw [nup_ne (by omega), b2 j (by omega), b1 j hj], rfl⟩
    show rvl F (rpt x ++ (rpt y ++ [(if g = true then 13 else 12, 0)])) (V, k) = _
    rw [e]
    cases g with
    | true =>
      show rv1 F 13 0 (V2, k + 1 + 1) = _
      rw [rv1_b (by decide) (by decide), a2, hk]
      show (nup V2 k (if gm_w (psum F y) < gm_w (psum F x) then 1 else 0), k + 1) = _
      unfold cval b01
      by_cases h : gm_w (psum F y) < gm_w (psum F x)
      · rw [if_pos h, if_pos rfl, decide_eq_true h, if_pos rfl]
      · rw [if_neg h, if_pos rfl, decide_eq_false h, if_neg (by decide)]
    | false =>
      show rv1 F 12 0 (V2, k + 1 + 1) = _
      rw [rv1_b (by decide) (by decide), a2, hk]
      show (nup V2 k (if gm_w (psum F x) < gm_w (psum F y) then 1 else 0), k + 1) = _
      unfold cval b01
      by_cases h : gm_w (psum F x) < gm_w (psum F y)
      · rw [if_pos h, if_neg (show ¬ (false = true) by decide), decide_eq_true h, if_pos rfl]
      · rw [if_neg h, if_neg (show ¬ (false = true) by decide), decide_eq_false h, if_neg (by decide)]
  · have h1 : kd = 8 := h1
    subst h1
    exact ⟨decide (F 8 = 1), nup V k (F 8), rfl, by rw [nup_at]; exact key _ hF.1, fun j hj => nup_ne (by omega), rfl⟩
  · have h1 : kd = 9 := h1
    subst h1
    exact ⟨decide (F 9 = 1), nup V k (F 9), rfl, by rw [nup_at]; exact key _ hF.2, fun j hj => nup_ne (by omega), rfl⟩
theorem rvl_s (hF : FB F) {B : Nat} : ∀ (ls : List lst) (h k : Nat), shg B ls h k → ∀ (V : Int → Int) (st : List Bool), st.length = h → RSK V st → ∃ V2, rvl F (srds ls) (V, (h : Int)) = (V2, (k : Int)) ∧ RSK V2 (srun F ls st) ∧ (srun F ls st).length = k := by
  intro ls
  induction ls with
  | nil =>
    intro h k hs V st hl hb
    have hs : h = k := hs
    subst hs
    exact ⟨V, rfl, hb, hl⟩
  | cons s r ih =>
    intro h k hs V st hl hb
    have e0 : rvl F (srds (s :: r)) (V, (h : Int)) = rvl F (srds r) (rvl F (srd s) (V, (h : Int))) := rvl_app
    have e1 : srun F (s :: r) st = srun F r (sval F s st) := rfl
    rw [e0, e1]
    rcases hs with ⟨h1, h2, h3⟩ | ⟨h1, h2, h3⟩ | ⟨h1, h2, h3⟩
    · obtain ⟨v, V2, e2, a2, b2, e3⟩ := rvl_push hF h1 V (h : Int) st
      rw [e2, e3]
      exact ih (h + 1) k h3 V2 (v :: st) (by rw [List.length_cons, hl]) (RSK_push hb (by rw [hl]; exact a2) (by rw [hl]; exact b2))
    · obtain ⟨v, q, rfl⟩ := st_1 (st := st) (by omega)
      have hl2 : q.length + 1 = h := hl
      obtain ⟨a1, a2⟩ := RSK_0 hb
      obtain ⟨kd, g, x, y⟩ := s
      have h1 : kd = 14 := h1
      subst h1
      have e2 : rvl F (srd (14, g, x, y)) (V, (h : Int)) = (nup V (q.length : Int) (1 - V (q.length : Int)), (h : Int)) := by
        show rv1 F 14 0 (V, (h : Int)) = _
        unfold rv1
        rw [if_neg (by decide), if_pos rfl]
        dsimp only
        rw [show (h : Int) - 1 = (q.length : Int) by omega]
      rw [e2]
      refine ih h k h3 _ ((!v) :: q) hl (RSK_push a2 ?_ (fun j hj => nup_ne (by omega)))
      rw [nup_at, a1]
      cases v <;> decide
    · obtain ⟨w, v, q, rfl⟩ := st_2 (st := st) (by omega)
      have hl2 : (q.length + 1) + 1 = h := hl
      obtain ⟨a1, a2⟩ := RSK_0 hb
      rw [List.length_cons] at a1
      obtain ⟨a3, a4⟩ := RSK_0 a2
      obtain ⟨kd, g, x, y⟩ := s
      have e3 : ∀ c : Int, c = 15 ∨ c = 16 → rv1 F c 0 (V, (h : Int)) = (nup V (q.length : Int) (rbin c (b01 v) (b01 w)), ((h - 1 : Nat) : Int)) := by
        intro c hc
        have := rv1_b (F := F) (c := c) (by omega) (by omega) (V := V) (k := (q.length : Int))
        rw [show (q.length : Int) + 1 + 1 = (h : Int) by omega, a3, show (q.length : Int) + 1 = ((q.length + 1 : Nat) : Int) by omega, a1] at this
        rw [this]
        congr 1
        omega
      rcases h1 with h1 | h1
      · have h1 : kd = 15 := h1
        subst h1
        have e2 : rvl F (srd (15, g, x, y)) (V, (h : Int)) = _ := e3 15 (Or.inl rfl)
        rw [e2, (rb01 _ _).1]
        exact ih (h - 1) k h3 _ ((v && w) :: q) (by rw [List.length_cons]; omega) (RSK_push a4 nup_at (fun j hj => nup_ne (by omega)))
      · have h1 : kd = 16 := h1
        subst h1
        have e2 : rvl F (srd (16, g, x, y)) (V, (h : Int)) = _ := e3 16 (Or.inr rfl)
        rw [e2, (rb01 _ _).2]
        exact ih (h - 1) k h3 _ ((v || w) :: q) (by rw [List.length_cons]; omega) (RSK_push a4 nup_at (fun j hj => nup_ne (by omega)))
theorem rvr_l {G : Int → Int} : ∀ (l : List (Int × Int)) (i : Int) (s : (Int → Int) × Int), (∀ (j : Nat) (v : Int × Int), l[j]? = some v → G (444 + 2 * (i + (j : Int))) = v.1 ∧ G (444 + 2 * (i + (j : Int)) + 1) = v.2) → rvr F G l.length i s = rvl F l s := by
  intro l
  induction l with
  | nil => intro i s _; rfl
  | cons c l ih =>
    intro i s h
    show rvr F G l.length (i + 1) (rv1 F (G (444 + 2 * i)) (G (444 + 2 * i + 1)) s) = rvl F l (rv1 F c.1 c.2 s)
    obtain ⟨h0, h1⟩ := h 0 c rfl
    rw [show i + ((0 : Nat) : Int) = i by omega] at h0 h1
    rw [h0, h1]
    refine ih (i + 1) _ (fun j v hj => ?_)
    have := h (j + 1) v (by simpa using hj)
    rwa [show i + ((j + 1 : Nat) : Int) = i + 1 + (j : Int) by omega] at this
/-- what the reference makes of a condition's steps -/
theorem rhl_t (hF : FB F) {G : Int → Int} {t : List lst} {k : Int} {V : Int → Int} (hw : shg 32 t 0 1) (he : G (396 + 4 * k + 3) = G (396 + 4 * k + 2) + ((srds t).length : Int)) (hG : ∀ (j : Nat) (v : Int × Int), (srds t)[j]? = some v → G (444 + 2 * (G (396 + 4 * k + 2) + (j : Int))) = v.1 ∧ G (444 + 2 * (G (396 + 4 * k + 2) + (j : Int)) + 1) = v.2) : rhl F G k V ↔ lvl F t = true := by
  unfold rhl
  rw [show (G (396 + 4 * k + 3) - G (396 + 4 * k + 2)).toNat = (srds t).length by omega, rvr_l _ _ _ hG]
  obtain ⟨V2, e2, h2, h3⟩ := rvl_s hF t 0 1 hw V [] rfl (fun i v h => by simp at h)
  have e2 : rvl F (srds t) (V, 0) = (V2, 1) := e2
  rw [e2]
  obtain ⟨v, q, e⟩ := st_1 (st := srun F t []) (by omega)
  have hq : q = [] := by
    rw [e, List.length_cons] at h3
    exact List.length_eq_zero_iff.mp (by omega)
  subst hq
  rw [e] at h2
  rw [lvl_e e]
  have h0 : V2 0 = b01 v := (RSK_0 h2).1
  unfold rend
  show ((1 : Int) = (0 : Int) ∨ gm_w (V2 0) = 1) ↔ _
  rw [h0]
  cases v <;> decide
theorem rhl_0 {G : Int → Int} {k : Int} {V : Int → Int} (he : G (396 + 4 * k + 3) = G (396 + 4 * k + 2)) : rhl F G k V := by
  unfold rhl
  rw [show (G (396 + 4 * k + 3) - G (396 + 4 * k + 2)).toNat = 0 by omega]
  exact Or.inl rfl
/-- as hok, of steps in a row -/
def hokl : List (Int × Int) → Int → Prop
  | [], t => 0 ≤ t ∧ t ≤ 400
  | c :: l, t => (0 ≤ c.1 ∧ c.1 ≤ 16) ∧ (c.1 ≤ 10 → (0 ≤ t ∧ t < 400) ∧ hokl l (t + 1)) ∧ (c.1 = 14 → (1 ≤ t ∧ t ≤ 400) ∧ hokl l t) ∧ (10 < c.1 → ¬ c.1 = 14 → (2 ≤ t ∧ t ≤ 400) ∧ hokl l (t - 1))
theorem hok_l {G : Int → Int} : ∀ (l : List (Int × Int)) (i t : Int), (∀ (j : Nat) (v : Int × Int), l[j]? = some v → G (444 + 2 * (i + (j : Int))) = v.1) → hokl l t → hok G l.length i t := by
  intro l
  induction l with
  | nil => exact fun i t _ h => h
  | cons c l ih =>
    intro i t h hh
    obtain ⟨h1, h2, h3, h4⟩ := hh
    have h0 := h 0 c rfl
    rw [show i + ((0 : Nat) : Int) = i by omega] at h0
    have hs : ∀ (j : Nat) (v : Int × Int), l[j]? = some v → G (444 + 2 * (i + 1 + (j : Int))) = v.1 := fun j v hj => by
      have := h (j + 1) v (by simpa using hj)
      rwa [show i + ((j + 1 : Nat) : Int) = i + 1 + (j : Int) by omega] at this
    show (0 ≤ G (444 + 2 * i) ∧ G (444 + 2 * i) ≤ 16) ∧ (G (444 + 2 * i) ≤ 10 → (0 ≤ t ∧ t < 400) ∧ hok G l.length (i + 1) (t + 1)) ∧ (G (444 + 2 * i) = 14 → (1 ≤ t ∧ t ≤ 400) ∧ hok G l.length (i + 1) t) ∧ (10 < G (444 + 2 * i) → ¬ G (444 + 2 * i) = 14 → (2 ≤ t ∧ t ≤ 400) ∧ hok G l.length (i + 1) (t - 1))
    rw [h0]
    exact ⟨h1, fun g => ⟨(h2 g).1, ih _ _ hs (h2 g).2⟩, fun g => ⟨(h3 g).1, ih _ _ hs (h3 g).2⟩, fun g g2 => ⟨(h4 g g2).1, ih _ _ hs (h4 g g2).2⟩⟩
theorem hokl_p {p : Int × Int} {l : List (Int × Int)} {t : Int} (hp : pwf p) (h0 : 0 ≤ t ∧ t < 400) (h : hokl l (t + 1)) : hokl (p :: l) t := by
  have h1 : 0 ≤ p.1 ∧ p.1 ≤ 10 := by rcases hp with ⟨⟨h1, h2⟩, -⟩ | ⟨h1, h2, h3⟩ <;> exact ⟨by omega, by omega⟩
  exact ⟨⟨h1.1, by omega⟩, fun _ => ⟨h0, h⟩, fun g => absurd g (by omega), fun g => absurd g (by omega)⟩
theorem hokl_b {c : Int} {l : List (Int × Int)} {t : Int} (hc : 10 < c ∧ c ≤ 16) (h14 : ¬ c = 14) (h0 : 0 ≤ t ∧ t + 1 + 1 ≤ 400) (h : hokl l (t + 1)) : hokl ((c, 0) :: l) (t + 1 + 1) := by
  refine ⟨⟨by show (0 : Int) ≤ c; omega, hc.2⟩, fun g => absurd g (by show ¬ c ≤ 10; omega), fun g => absurd g h14, fun _ _ => ⟨⟨by omega, by omega⟩, ?_⟩⟩
  rw [show t + 1 + 1 - 1 = t + 1 by omega]
  exact h
theorem hokl_ps : ∀ (ps : List (Int × Int)), (∀ p ∈ ps, pwf p) → ∀ (rest : List (Int × Int)) (t : Int), 0 ≤ t → t + 1 + 1 ≤ 400 → hokl rest (t + 1) → hokl (rps ps ++ rest) (t + 1) := by
  intro ps
  induction ps with
  | nil => exact fun _ rest t _ _ h => h
  | cons p ps ih =>
    intro h rest t t0 hl hr
    have h9 := ih (fun q hq => h q (List.mem_cons_of_mem _ hq)) rest t t0 hl hr
    show hokl (p :: (11, 0) :: (rps ps ++ rest)) (t + 1)
    exact hokl_p (h p List.mem_cons_self) ⟨by omega, by omega⟩ (hokl_b (by decide) (by decide) ⟨t0, by omega⟩ h9)
theorem hokl_pt {ps : List (Int × Int)} (h : ∀ p ∈ ps, pwf p) (hn : ¬ ps = []) (rest : List (Int × Int)) (t : Int) (t0 : 0 ≤ t) (hl : t + 1 + 1 ≤ 400) (hr : hokl rest (t + 1)) : hokl (rpt ps ++ rest) t := by
  cases ps with
  | nil => exact absurd rfl hn
  | cons p ps =>
    show hokl (p :: (rps ps ++ rest)) t
    exact hokl_p (h p List.mem_cons_self) ⟨t0, by omega⟩ (hokl_ps ps (fun q hq => h q (List.mem_cons_of_mem _ hq)) rest t t0 hl hr)
theorem hokl_s : ∀ (ls : List lst) (h k : Nat), shg 32 ls h k → ∀ rest : List (Int × Int), h ≤ 32 → hokl rest (k : Int) → hokl (srds ls ++ rest) (h : Int) := by
  intro ls
  induction ls with
  | nil =>
    intro h k hs rest _ hr
    have hs : h = k := hs
    subst hs
    exact hr
  | cons s r ih =>
    intro h k hs rest hh hr
    show hokl ((srd s ++ srds r) ++ rest) (h : Int)
    rw [List.append_assoc]
    obtain ⟨kd, g, x, y⟩ := s
    rcases hs with ⟨h1, h2, h3⟩ | ⟨h1, h2, h3⟩ | ⟨h1, h2, h3⟩
    · have h9 := ih (h + 1) k h3 rest h2 hr
      rw [show ((h + 1 : Nat) : Int) = (h : Int) + 1 by omega] at h9
      rcases h1 with ⟨h1, hx, hy, nx, ny⟩ | h1 | h1
      · have h1 : kd = 0 := h1
        subst h1
        show hokl ((rpt x ++ (rpt y ++ [(if g = true then 13 else 12, 0)])) ++ (srds r ++ rest)) (h : Int)
        rw [List.append_assoc, List.append_assoc]
        refine hokl_pt hx nx _ _ (by omega) (by omega) (hokl_pt hy ny _ _ (by omega) (by omega) ?_)
        cases g
        · exact hokl_b (by decide) (by decide) ⟨by omega, by omega⟩ h9
        · exact hokl_b (by decide) (by decide) ⟨by omega, by omega⟩ h9
      · have h1 : kd = 8 := h1
        subst h1
        show hokl ((8, 0) :: (srds r ++ rest)) (h : Int)
        exact ⟨by decide, fun _ => ⟨⟨by omega, by omega⟩, h9⟩, fun g => absurd g (by decide), fun g => absurd g (by decide)⟩
      · have h1 : kd = 9 := h1
        subst h1
        show hokl ((9, 0) :: (srds r ++ rest)) (h : Int)
        exact ⟨by decide, fun _ => ⟨⟨by omega, by omega⟩, h9⟩, fun g => absurd g (by decide), fun g => absurd g (by decide)⟩
    · have h9 := ih h k h3 rest hh hr
      have h1 : kd = 14 := h1
      subst h1
      show hokl ((14, 0) :: (srds r ++ rest)) (h : Int)
      exact ⟨by decide, fun g => absurd g (by decide), fun _ => ⟨⟨by omega, by omega⟩, h9⟩, fun _ g => absurd rfl g⟩
    · have h9 := ih (h - 1) k h3 rest (by omega) hr
      obtain ⟨u, rfl⟩ : ∃ u, h = u + 1 + 1 := ⟨h - 2, by omega⟩
      rw [show ((u + 1 + 1 - 1 : Nat) : Int) = (u : Int) + 1 by omega] at h9
      rw [show ((u + 1 + 1 : Nat) : Int) = (u : Int) + 1 + 1 by omega]
      rcases h1 with h1 | h1
      · have h1 : kd = 15 := h1
        subst h1
        exact hokl_b (show (10 : Int) < 15 ∧ (15 : Int) ≤ 16 by decide) (show ¬ (15 : Int) = 14 by decide) ⟨by omega, by omega⟩ h9
      · have h1 : kd = 16 := h1
        subst h1
        exact hokl_b (show (10 : Int) < 16 ∧ (16 : Int) ≤ 16 by decide) (show ¬ (16 : Int) = 14 by decide) ⟨by omega, by omega⟩ h9
end LT1
