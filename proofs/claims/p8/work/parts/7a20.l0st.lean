/-! 7a20.l0st -/
section
/-! A LAW'S CONDITIONS, as steps behind one another; what the class and the reference make of them. -/
/-- a step: kind (0 a comparison, 8 and 9 side and first, 14 not, 15 and, 16 or), greater?, two sums -/
noncomputable abbrev lst := Int × Bool × List (Int × Int) × List (Int × Int)
noncomputable def pval (F : Int → Int) (p : Int × Int) : Int := if p.1 = 10 then p.2 else F p.1
noncomputable def psum (F : Int → Int) (ps : List (Int × Int)) : Int := ps.foldl (fun s p => s + pval F p) 0
noncomputable def cval (F : Int → Int) (g : Bool) (a b : List (Int × Int)) : Bool := if g = true then decide (gm_w (psum F b) < gm_w (psum F a)) else decide (gm_w (psum F a) < gm_w (psum F b))
/-- one step: truths upon one another, the latest first -/
noncomputable def sval (F : Int → Int) (s : lst) (l : List Bool) : List Bool :=
  if s.1 = 0 then cval F s.2.1 s.2.2.1 s.2.2.2 :: l
  else if s.1 = 14 then (!l.headD false) :: l.tail
  else if s.1 = 15 then (l.tail.headD false && l.headD false) :: l.tail.tail
  else if s.1 = 16 then (l.tail.headD false || l.headD false) :: l.tail.tail
  else decide (F s.1 = 1) :: l
noncomputable def srun (F : Int → Int) (ls : List lst) (l : List Bool) : List Bool := ls.foldl (fun l s => sval F s l) l
noncomputable def lvl (F : Int → Int) (ls : List lst) : Bool := (srun F ls []).headD false
noncomputable def pwf (p : Int × Int) : Prop := ((0 ≤ p.1 ∧ p.1 ≤ 7) ∧ p.2 = 0) ∨ (p.1 = 10 ∧ 0 ≤ p.2 ∧ p.2 ≤ 999)
noncomputable def cwf (a b : List (Int × Int)) : Prop := (∀ p ∈ a, pwf p) ∧ (∀ p ∈ b, pwf p) ∧ ¬ a = [] ∧ ¬ b = []
/-- from h truths upon one another to k, never more than B -/
noncomputable def shg (B : Nat) : List lst → Nat → Nat → Prop
  | [], h, k => h = k
  | s :: r, h, k => ((s.1 = 0 ∧ cwf s.2.2.1 s.2.2.2 ∨ s.1 = 8 ∨ s.1 = 9) ∧ h + 1 ≤ B ∧ shg B r (h + 1) k) ∨ (s.1 = 14 ∧ 1 ≤ h ∧ shg B r h k) ∨ ((s.1 = 15 ∨ s.1 = 16) ∧ 2 ≤ h ∧ shg B r (h - 1) k)
theorem shg_app {B : Nat} {b : List lst} {m k : Nat} : ∀ (a : List lst) (h : Nat), shg B a h m → shg B b m k → shg B (a ++ b) h k := by
  intro a
  induction a with
  | nil =>
    intro h h1 h2
    have h1 : h = m := h1
    subst h1
    exact h2
  | cons s r ih =>
    intro h h1 h2
    rcases h1 with ⟨a1, a2, a3⟩ | ⟨a1, a2, a3⟩ | ⟨a1, a2, a3⟩
    · exact Or.inl ⟨a1, a2, ih _ a3 h2⟩
    · exact Or.inr (Or.inl ⟨a1, a2, ih _ a3 h2⟩)
    · exact Or.inr (Or.inr ⟨a1, a2, ih _ a3 h2⟩)
theorem shg_mono {B B2 : Nat} (hB : B ≤ B2) {k : Nat} : ∀ (a : List lst) (h : Nat), shg B a h k → shg B2 a h k := by
  intro a
  induction a with
  | nil => exact fun h h1 => h1
  | cons s r ih =>
    intro h h1
    rcases h1 with ⟨a1, a2, a3⟩ | ⟨a1, a2, a3⟩ | ⟨a1, a2, a3⟩
    · exact Or.inl ⟨a1, Nat.le_trans a2 hB, ih _ a3⟩
    · exact Or.inr (Or.inl ⟨a1, a2, ih _ a3⟩)
    · exact Or.inr (Or.inr ⟨a1, a2, ih _ a3⟩)
noncomputable def b01 (v : Bool) : Int := if v = true then 1 else 0
/-- the class's codes -/
noncomputable def pcd (p : Int × Int) : Int := if p.1 = 10 then p.2 else -2 - p.1
noncomputable def scd (s : lst) : List Int :=
  if s.1 = 0 then s.2.2.1.map pcd ++ (-12 :: (s.2.2.2.map pcd ++ [if s.2.1 = true then -14 else -13]))
  else if s.1 = 14 then [-15] else if s.1 = 15 then [-16] else if s.1 = 16 then [-17] else [-2 - s.1]
noncomputable def scds : List lst → List Int
  | [] => []
  | s :: r => scd s ++ scds r
/-- the reference's steps -/
noncomputable def rps : List (Int × Int) → List (Int × Int)
  | [] => []
  | q :: qs => q :: (11, 0) :: rps qs
noncomputable def rpt : List (Int × Int) → List (Int × Int)
  | [] => []
  | p :: ps => p :: rps ps
noncomputable def srd (s : lst) : List (Int × Int) := if s.1 = 0 then rpt s.2.2.1 ++ (rpt s.2.2.2 ++ [(if s.2.1 = true then 13 else 12, 0)]) else [(s.1, 0)]
noncomputable def srds : List lst → List (Int × Int)
  | [] => []
  | s :: r => srd s ++ srds r
theorem scds_app {b : List lst} : ∀ a : List lst, scds (a ++ b) = scds a ++ scds b := by
  intro a
  induction a with
  | nil => rfl
  | cons s r ih =>
    show scd s ++ scds (r ++ b) = (scd s ++ scds r) ++ scds b
    rw [ih, List.append_assoc]
theorem srds_app {b : List lst} : ∀ a : List lst, srds (a ++ b) = srds a ++ srds b := by
  intro a
  induction a with
  | nil => rfl
  | cons s r ih =>
    show srd s ++ srds (r ++ b) = (srd s ++ srds r) ++ srds b
    rw [ih, List.append_assoc]
section LT1
variable {F : Int → Int}
noncomputable def evl (F : Int → Int) (l : List Int) (s : Int × Int × Int) : Int × Int × Int := l.foldl (fun s c => ev1 F c s) s
theorem evl_app {a b : List Int} {s : Int × Int × Int} : evl F (a ++ b) s = evl F b (evl F a s) := List.foldl_append ..
theorem evl_cons {c : Int} {b : List Int} {s : Int × Int × Int} : evl F (c :: b) s = evl F b (ev1 F c s) := rfl
theorem ev1_p {p : Int × Int} (hp : pwf p) {t l s : Int} : ev1 F (pcd p) (t, l, s) = (t, l, s + pval F p) := by
  unfold ev1 pcd pval evk
  rcases hp with ⟨⟨h1, h2⟩, -⟩ | ⟨h1, h2, h3⟩
  · have e : -2 - (-2 - p.1) = p.1 := by omega
    rw [if_neg (show ¬ p.1 = 10 by omega), if_neg (show ¬ p.1 = 10 by omega), if_neg (show ¬ 0 ≤ -2 - p.1 by omega), if_pos (show -10 < -2 - p.1 by omega), e, if_pos (show 0 ≤ p.1 ∧ p.1 < 10 by omega)]
  · rw [if_pos h1, if_pos h1, if_pos h2]
theorem evl_ps : ∀ (ps : List (Int × Int)), (∀ p ∈ ps, pwf p) → ∀ t l s : Int, evl F (ps.map pcd) (t, l, s) = (t, l, ps.foldl (fun s p => s + pval F p) s) := by
  intro ps
  induction ps with
  | nil => intro _ t l s; rfl
  | cons p ps ih =>
    intro h t l s
    rw [List.map_cons, evl_cons, ev1_p (h p List.mem_cons_self)]
    exact ih (fun q hq => h q (List.mem_cons_of_mem _ hq)) t l _
/-- the bits of an int -/
noncomputable def bI (x : Int) : BitVec 32 := (Int32.ofInt x).toBitVec
theorem bI_toInt (z : Int32) : bI z.toInt = z.toBitVec := by unfold bI; rw [Int32.ofInt_toInt]
theorem bI_or {a b : Int} : bI (gm_or a b) = bI a ||| bI b := by unfold gm_or; rw [bI_toInt]; rfl
theorem bI_and {a b : Int} : bI (gm_and a b) = bI a &&& bI b := by unfold gm_and; rw [bI_toInt]; rfl
theorem bI_xor {a b : Int} : bI (gm_xor a b) = bI a ^^^ bI b := by unfold gm_xor; rw [bI_toInt]; rfl
theorem bI_shl {a : Int} : bI (gm_shl a 1) = bI a <<< 1 := by
  unfold gm_shl
  rw [bI_toInt]
  show (Int32.ofInt a).toBitVec <<< ((Int32.ofInt 1 &&& 31).toBitVec.smod 32#32) = _
  rw [show (Int32.ofInt 1 &&& 31).toBitVec.smod 32#32 = 1#32 by decide, BitVec.shiftLeft_eq']
  rfl
theorem bI_shr {a : Int} : bI (gm_shr a 1) = (bI a).sshiftRight 1 := by
  unfold gm_shr
  rw [bI_toInt]
  show (Int32.ofInt a).toBitVec.sshiftRight' ((Int32.ofInt 1 &&& 31).toBitVec.smod 32#32) = _
  rw [show (Int32.ofInt 1 &&& 31).toBitVec.smod 32#32 = 1#32 by decide, BitVec.sshiftRight_eq']
  rfl
/-- what lies upon one another in bits, the latest first -/
noncomputable def SB (b : Int) (l : List Bool) : Prop := l.length ≤ 32 ∧ ∀ (i : Nat) (v : Bool), l[i]? = some v → (bI b).getLsbD i = v
theorem SB_i {b : Int} {l : List Bool} (h : SB b l) {i : Nat} {v : Bool} (hi : l[i]? = some v) : i < 32 ∧ (bI b).getLsbD i = v := by
  refine ⟨?_, h.2 i v hi⟩
  obtain ⟨hh, -⟩ := List.getElem?_eq_some_iff.mp hi
  have := h.1
  omega
theorem bI01 (v : Bool) (i : Nat) : (bI (b01 v)).getLsbD i = (decide (i = 0) && v) := by
  cases v with
  | false =>
    have e : bI (b01 false) = 0#32 := by decide
    rw [e, BitVec.getLsbD_zero, Bool.and_false]
  | true =>
    have e : bI (b01 true) = 1#32 := by decide
    rw [e, BitVec.getLsbD_one, Bool.and_true]
    simp
theorem SB_push {b : Int} {l : List Bool} (h : SB b l) (hl : l.length + 1 ≤ 32) (v : Bool) : SB (gm_or (gm_shl b 1) (b01 v)) (v :: l) := by
  refine ⟨by rw [List.length_cons]; exact hl, fun i w hw => ?_⟩
  rw [bI_or, bI_shl, BitVec.getLsbD_or, BitVec.getLsbD_shiftLeft, bI01]
  cases i with
  | zero =>
    have e : v = w := by simpa using hw
    subst e
    simp
  | succ i =>
    have hw : l[i]? = some w := by simpa using hw
    obtain ⟨h1, h2⟩ := SB_i h hw
    obtain ⟨hh, -⟩ := List.getElem?_eq_some_iff.mp hw
    have h3 : i + 1 < 32 := by omega
    simp [h2, h3]
theorem SB_not {b : Int} {l : List Bool} {v : Bool} (h : SB b (v :: l)) : SB (gm_xor b 1) ((!v) :: l) := by
  have e1 : bI 1 = bI (b01 true) := rfl
  refine ⟨h.1, fun i w hw => ?_⟩
  rw [bI_xor, BitVec.getLsbD_xor, e1, bI01]
  cases i with
  | zero =>
    have e : (!v) = w := by simpa using hw
    have h0 := h.2 0 v rfl
    subst e
    rw [h0]
    cases v <;> rfl
  | succ i =>
    have hw : l[i]? = some w := by simpa using hw
    have h0 := h.2 (i + 1) w (by simpa using hw)
    simp [h0]
theorem bm2 (i : Nat) (h : i < 32) : (bI (-2)).getLsbD i = !decide (i = 0) := by
  have e : bI (-2) = ~~~ (1#32) := by decide
  rw [e, BitVec.getLsbD_not, BitVec.getLsbD_one]
  simp [h]
theorem SB_and {b : Int} {l : List Bool} {v w : Bool} (h : SB b (w :: v :: l)) : SB (gm_and (gm_shr b 1) (gm_or b (-2))) ((v && w) :: l) := by
  have h9 := h.1
  simp only [List.length_cons] at h9
  refine ⟨by rw [List.length_cons]; omega, fun i x hx => ?_⟩
  rw [bI_and, bI_shr, bI_or, BitVec.getLsbD_and, BitVec.getLsbD_or, BitVec.getLsbD_sshiftRight]
  cases i with
  | zero =>
    have e : (v && w) = x := by simpa using hx
    have h0 := h.2 0 w rfl
    have h1 := h.2 1 v rfl
    rw [bm2 0 (by decide)]
    subst e
    have h0 : (bI b)[0] = w := by simpa using h0
    have h1 : (bI b)[1] = v := by simpa using h1
    simp [h0, h1]
  | succ i =>
    have hx : l[i]? = some x := by simpa using hx
    have h0 := h.2 (i + 2) x (by simpa using hx)
    obtain ⟨hh, -⟩ := List.getElem?_eq_some_iff.mp hx
    have h3 : 1 + (i + 1) < 32 := by omega
    have h4 : ¬ 32 ≤ i + 1 := by omega
    rw [bm2 (i + 1) (by omega), if_pos h3, show 1 + (i + 1) = i + 2 by omega, h0]
    simp [h4]
theorem SB_or {b : Int} {l : List Bool} {v w : Bool} (h : SB b (w :: v :: l)) : SB (gm_or (gm_shr b 1) (gm_and b 1)) ((v || w) :: l) := by
  have e1 : bI 1 = bI (b01 true) := rfl
  have h9 := h.1
  simp only [List.length_cons] at h9
  refine ⟨by rw [List.length_cons]; omega, fun i x hx => ?_⟩
  rw [bI_or, bI_shr, bI_and, BitVec.getLsbD_or, BitVec.getLsbD_and, BitVec.getLsbD_sshiftRight, e1, bI01]
  cases i with
  | zero =>
    have e : (v || w) = x := by simpa using hx
    have h0 := h.2 0 w rfl
    have h1 := h.2 1 v rfl
    subst e
    have h0 : (bI b)[0] = w := by simpa using h0
    have h1 : (bI b)[1] = v := by simpa using h1
    simp [h0, h1]
  | succ i =>
    have hx : l[i]? = some x := by simpa using hx
    have h0 := h.2 (i + 2) x (by simpa using hx)
    obtain ⟨hh, -⟩ := List.getElem?_eq_some_iff.mp hx
    have h3 : 1 + (i + 1) < 32 := by omega
    have h4 : ¬ 32 ≤ i + 1 := by omega
    rw [if_pos h3, show 1 + (i + 1) = i + 2 by omega, h0]
    simp [h4]
theorem SB_top {b : Int} {l : List Bool} {v : Bool} (h : SB b (v :: l)) : gm_and b 1 = 1 ↔ v = true := by
  have h0 := h.2 0 v rfl
  have e1 : bI 1 = bI (b01 true) := rfl
  have e : bI (gm_and b 1) = bI (b01 v) := by
    apply BitVec.eq_of_getLsbD_eq
    intro i hi
    rw [bI_and, BitVec.getLsbD_and, e1, bI01, bI01]
    cases i with
    | zero =>
      rw [h0]
      cases v <;> rfl
    | succ i => simp
  have e2 : gm_and b 1 = b01 v := by
    have h2 : (Int32.ofInt (gm_and b 1)).toInt = gm_and b 1 := by
      unfold gm_and
      rw [Int32.ofInt_toInt]
    have h3 : (Int32.ofInt (b01 v)).toInt = b01 v := by cases v <;> decide
    rw [← h2, ← h3]
    have h4 : Int32.ofInt (gm_and b 1) = Int32.ofInt (b01 v) := Int32.toBitVec_inj.mp e
    rw [h4]
  rw [e2]
  cases v <;> decide
theorem evl_push (hF : FB F) {s : lst} (h1 : s.1 = 0 ∧ cwf s.2.2.1 s.2.2.2 ∨ s.1 = 8 ∨ s.1 = 9) (b l : Int) (st : List Bool) : ∃ v l2, evl F (scd s) (b, l, 0) = (gm_or (gm_shl b 1) (b01 v), l2, 0) ∧ sval F s st = v :: st := by
  obtain ⟨kd, g, x, y⟩ := s
  have key : ∀ x : Int, x = 0 ∨ x = 1 → x = b01 (decide (x = 1)) := fun x hx => by rcases hx with rfl | rfl <;> decide
  rcases h1 with ⟨h1, hx, hy, -, -⟩ | h1 | h1
  · have h1 : kd = 0 := h1
    subst h1
    refine ⟨cval F g x y, psum F x, ?_, rfl⟩
    show evl F (x.map pcd ++ (-12 :: (y.map pcd ++ [if g = true then -14 else -13]))) (b, l, 0) = _
    rw [evl_app, evl_ps x hx, evl_cons]
    have e12 : ∀ s, ev1 F (-12) (b, l, s) = (b, s, 0) := fun s => rfl
    rw [e12, evl_app, evl_ps y hy]
    cases g with
    | true =>
      show (gm_or (gm_shl b 1) (if gm_w (psum F y) < gm_w (psum F x) then 1 else 0), psum F x, (0 : Int)) = _
      unfold cval b01
      by_cases h : gm_w (psum F y) < gm_w (psum F x)
      · rw [if_pos h, if_pos rfl, decide_eq_true h, if_pos rfl]
      · rw [if_neg h, if_pos rfl, decide_eq_false h, if_neg (by decide)]
    | false =>
      show (gm_or (gm_shl b 1) (if gm_w (psum F x) < gm_w (psum F y) then 1 else 0), psum F x, (0 : Int)) = _
      unfold cval b01
      by_cases h : gm_w (psum F x) < gm_w (psum F y)
      · rw [if_pos h, if_neg (show ¬ (false = true) by decide), decide_eq_true h, if_pos rfl]
      · rw [if_neg h, if_neg (show ¬ (false = true) by decide), decide_eq_false h, if_neg (by decide)]
  · have h1 : kd = 8 := h1
    subst h1
    refine ⟨decide (F 8 = 1), l, ?_, rfl⟩
    rw [← key (F 8) hF.1]
    rfl
  · have h1 : kd = 9 := h1
    subst h1
    refine ⟨decide (F 9 = 1), l, ?_, rfl⟩
    rw [← key (F 9) hF.2]
    rfl
theorem st_1 {st : List Bool} (h : 1 ≤ st.length) : ∃ v r, st = v :: r := by
  cases st with
  | nil => exact absurd h (by decide)
  | cons v r => exact ⟨v, r, rfl⟩
theorem st_2 {st : List Bool} (h : 2 ≤ st.length) : ∃ w v r, st = w :: v :: r := by
  obtain ⟨w, r, rfl⟩ := st_1 (st := st) (by omega)
  obtain ⟨v, r, rfl⟩ := st_1 (st := r) (by rw [List.length_cons] at h; omega)
  exact ⟨w, v, r, rfl⟩
theorem evl_s (hF : FB F) : ∀ (ls : List lst) (h k : Nat), shg 32 ls h k → ∀ (b l : Int) (st : List Bool), st.length = h → SB b st → ∃ b2 l2, evl F (scds ls) (b, l, 0) = (b2, l2, 0) ∧ SB b2 (srun F ls st) ∧ (srun F ls st).length = k := by
  intro ls
  induction ls with
  | nil =>
    intro h k hs b l st hl hb
    have hs : h = k := hs
    exact ⟨b, l, rfl, hb, hl.trans hs⟩
  | cons s r ih =>
    intro h k hs b l st hl hb
    have e0 : evl F (scds (s :: r)) (b, l, 0) = evl F (scds r) (evl F (scd s) (b, l, 0)) := evl_app
    have e1 : srun F (s :: r) st = srun F r (sval F s st) := rfl
    rw [e0, e1]
    rcases hs with ⟨h1, h2, h3⟩ | ⟨h1, h2, h3⟩ | ⟨h1, h2, h3⟩
    · obtain ⟨v, l2, e2, e3⟩ := evl_push hF h1 b l st
      rw [e2, e3]
      exact ih (h + 1) k h3 _ l2 (v :: st) (by rw [List.length_cons, hl]) (SB_push hb (by omega) v)
    · obtain ⟨v, q, rfl⟩ := st_1 (st := st) (by omega)
      obtain ⟨kd, g, x, y⟩ := s
      have h1 : kd = 14 := h1
      subst h1
      exact ih h k h3 (gm_xor b 1) l ((!v) :: q) hl (SB_not hb)
    · obtain ⟨w, v, q, rfl⟩ := st_2 (st := st) (by omega)
      obtain ⟨kd, g, x, y⟩ := s
      have hl2 : (q.length + 1) + 1 = h := hl
      rcases h1 with h1 | h1
      · have h1 : kd = 15 := h1
        subst h1
        exact ih (h - 1) k h3 (gm_and (gm_shr b 1) (gm_or b (-2))) l ((v && w) :: q) (by rw [List.length_cons]; omega) (SB_and hb)
      · have h1 : kd = 16 := h1
        subst h1
        exact ih (h - 1) k h3 (gm_or (gm_shr b 1) (gm_and b 1)) l ((v || w) :: q) (by rw [List.length_cons]; omega) (SB_or hb)
theorem scd_n {s : lst} : 1 ≤ (scd s).length := by
  unfold scd
  split
  · simp only [List.length_append, List.length_cons]
    omega
  · split
    · exact Nat.le_refl _
    · split
      · exact Nat.le_refl _
      · split <;> exact Nat.le_refl _
theorem scds_n {B : Nat} {ls : List lst} (h : shg B ls 0 1) : 1 ≤ (scds ls).length := by
  cases ls with
  | nil => exact absurd (show (0 : Nat) = 1 from h) (by decide)
  | cons s r =>
    have := scd_n (s := s)
    show 1 ≤ (scd s ++ scds r).length
    rw [List.length_append]
    omega
theorem evr_l {C : Int → Int} : ∀ (l : List Int) (i : Int) (s : Int × Int × Int), (∀ (j : Nat) (v : Int), l[j]? = some v → C (i + (j : Int)) = v) → evr F C l.length i s = evl F l s := by
  intro l
  induction l with
  | nil => intro i s _; rfl
  | cons c l ih =>
    intro i s h
    show evr F C l.length (i + 1) (ev1 F (C i) s) = evl F l (ev1 F c s)
    have h0 := h 0 c rfl
    rw [show i + ((0 : Nat) : Int) = i by omega] at h0
    rw [h0]
    refine ih (i + 1) _ (fun j v hj => ?_)
    have := h (j + 1) v (by simpa using hj)
    rwa [show i + ((j + 1 : Nat) : Int) = i + 1 + (j : Int) by omega] at this
theorem lvl_e {ls : List lst} {v : Bool} (h : srun F ls [] = [v]) : lvl F ls = v := by
  unfold lvl
  rw [h]
  rfl
/-- what the class makes of a condition's codes -/
theorem evh_t (hF : FB F) {C : Int → Int} {t : List lst} {b e : Int} (hw : shg 32 t 0 1) (he : e = b + ((scds t).length : Int)) (hn : b < e) (hC : ∀ (j : Nat) (v : Int), (scds t)[j]? = some v → C (b + (j : Int)) = v) : evh F C b e ↔ lvl F t = true := by
  unfold evh
  rw [show (e - b).toNat = (scds t).length by omega, if_pos hn, evr_l _ _ _ hC]
  obtain ⟨b2, l2, e2, h2, h3⟩ := evl_s hF t 0 1 hw 0 0 [] rfl ⟨by decide, fun i v h => by simp at h⟩
  rw [e2]
  obtain ⟨v, q, e⟩ := st_1 (st := srun F t []) (by omega)
  have hq : q = [] := by
    rw [e, List.length_cons] at h3
    exact List.length_eq_zero_iff.mp (by omega)
  subst hq
  rw [e] at h2
  rw [lvl_e e]
  exact SB_top h2
theorem evh_0 {C : Int → Int} {b : Int} : evh F C b b := by
  unfold evh
  rw [show (b - b).toNat = 0 by omega, if_neg (by omega)]
  show gm_and 1 1 = 1
  decide
-- the reference
noncomputable def rvl (F : Int → Int) (l : List (Int × Int)) (s : (Int → Int) × Int) : (Int → Int) × Int := l.foldl (fun s c => rv1 F c.1 c.2 s) s
theorem rvl_app {a b : List (Int × Int)} {s : (Int → Int) × Int} : rvl F (a ++ b) s = rvl F b (rvl F a s) := List.foldl_append ..
theorem rvl_cons {c : Int × Int} {b : List (Int × Int)} {s : (Int → Int) × Int} : rvl F (c :: b) s = rvl F b (rv1 F c.1 c.2 s) := rfl
theorem rv1_p {p : Int × Int} (hp : pwf p) {V : Int → Int} {k : Int} : rv1 F p.1 p.2 (V, k) = (nup V k (pval F p), k + 1) := by
  have h : p.1 ≤ 10 := by rcases hp with ⟨⟨h1, h2⟩, -⟩ | ⟨h1, h2, h3⟩ <;> omega
  unfold rv1
  rw [if_pos h]
  rfl
theorem rv1_b {c : Int} (hc : 10 < c) (h14 : ¬ c = 14) {V : Int → Int} {k : Int} : rv1 F c 0 (V, k + 1 + 1) = (nup V k (rbin c (V k) (V (k + 1))), k + 1) := by
  unfold rv1
  rw [if_neg (by omega), if_neg h14]
  dsimp only
  rw [show k + 1 + 1 - 1 - 1 = k by omega, show k + 1 + 1 - 1 = k + 1 by omega]
theorem rvl_ps : ∀ (ps : List (Int × Int)), (∀ p ∈ ps, pwf p) → ∀ (V : Int → Int) (k : Int), ∃ V2, rvl F (rps ps) (V, k + 1) = (V2, k + 1) ∧ V2 k = ps.foldl (fun s p => s + pval F p) (V k) ∧ ∀ j, j < k → V2 j = V j := by
  intro ps
  induction ps with
  | nil => exact fun _ V k => ⟨V, rfl, rfl, fun _ _ => rfl⟩
  | cons p ps ih =>
    intro h V k
    have e : rvl F (rps (p :: ps)) (V, k + 1) = rvl F (rps ps) (nup (nup V (k + 1) (pval F p)) k (V k + pval F p), k + 1) := by
      show rvl F (p :: (11, 0) :: rps ps) (V, k + 1) = _
      rw [rvl_cons, rv1_p (h p List.mem_cons_self), rvl_cons, rv1_b (by decide) (by decide)]
      rw [nup_at, nup_ne (show ¬ k = k + 1 by omega)]
      rfl
    obtain ⟨V2, e2, h2, h3⟩ := ih (fun q hq => h q (List.mem_cons_of_mem _ hq)) (nup (nup V (k + 1) (pval F p)) k (V k + pval F p)) k
    refine ⟨V2, e.trans e2, ?_, fun j hj => ?_⟩
    · rw [h2, nup_at]
      rfl
    · rw [h3 j hj, nup_ne (by omega), nup_ne (by omega)]
theorem rvl_pt {ps : List (Int × Int)} (h : ∀ p ∈ ps, pwf p) (hn : ¬ ps = []) (V : Int → Int) (k : Int) : ∃ V2, rvl F (rpt ps) (V, k) = (V2, k + 1) ∧ V2 k = psum F ps ∧ ∀ j, j < k → V2 j = V j := by
  cases ps with
  | nil => exact absurd rfl hn
  | cons p ps =>
    obtain ⟨V2, e2, h2, h3⟩ := rvl_ps (F := F) ps (fun q hq => h q (List.mem_cons_of_mem _ hq)) (nup V k (pval F p)) k
    refine ⟨V2, ?_, ?_, fun j hj => ?_⟩
    · show rvl F (p :: rps ps) (V, k) = _
      rw [rvl_cons, rv1_p (h p List.mem_cons_self)]
      exact e2
    · rw [h2, nup_at]
      show ps.foldl (fun s p => s + pval F p) (pval F p) = ps.foldl (fun s p => s + pval F p) (0 + pval F p)
      rw [Int.zero_add]
    · rw [h3 j hj, nup_ne (by omega)]
theorem rb01 (v w : Bool) : rbin 15 (b01 v) (b01 w) = b01 (v && w) ∧ rbin 16 (b01 v) (b01 w) = b01 (v || w) := by cases v <;> cases w <;> decide
noncomputable def RSK (V : Int → Int) (st : List Bool) : Prop := ∀ (i : Nat) (v : Bool), st[i]? = some v → V ((st.length : Int) - 1 - (i : Int)) = b01 v
theorem RSK_push {V V2 : Int → Int} {st : List Bool} {v : Bool} (h : RSK V st) (h1 : V2 (st.length : Int) = b01 v) (h2 : ∀ j, j < (st.length : Int) → V2 j = V j) : RSK V2 (v :: st) := by
  intro i w hi
  rw [List.length_cons]
  cases i with
  | zero =>
    have e : v = w := by simpa using hi
    subst e
    rw [show ((st.length + 1 : Nat) : Int) - 1 - ((0 : Nat) : Int) = (st.length : Int) by omega]
    exact h1
  | succ i =>
    have hi : st[i]? = some w := by simpa using hi
    rw [show ((st.length + 1 : Nat) : Int) - 1 - ((i + 1 : Nat) : Int) = (st.length : Int) - 1 - (i : Int) by omega, h2 _ (by omega)]
    exact h i w hi
theorem RSK_0 {V : Int → Int} {st : List Bool} {v : Bool} (h : RSK V (v :: st)) : V (st.length : Int) = b01 v ∧ RSK V st := by
  constructor
  · have := h 0 v rfl
    rwa [List.length_cons, show ((st.length + 1 : Nat) : Int) - 1 - ((0 : Nat) : Int) = (st.length : Int) by omega] at this
  · intro i w hi
    have := h (i + 1) w (by simpa using hi)
    rwa [List.length_cons, show ((st.length + 1 : Nat) : Int) - 1 - ((i + 1 : Nat) : Int) = (st.length : Int) - 1 - (i : Int) by omega] at this
theorem rvl_push (hF : FB F) {s : lst} (h1 : s.1 = 0 ∧ cwf s.2.2.1 s.2.2.2 ∨ s.1 = 8 ∨ s.1 = 9) (V : Int → Int) (k : Int) (st : List Bool) : ∃ v V2, rvl F (srd s) (V, k) = (V2, k + 1) ∧ V2 k = b01 v ∧ (∀ j, j < k → V2 j = V j) ∧ sval F s st = v :: st := by
  obtain ⟨kd, g, x, y⟩ := s
  have key : ∀ x : Int, x = 0 ∨ x = 1 → x = b01 (decide (x = 1)) := fun x hx => by rcases hx with rfl | rfl <;> decide
  rcases h1 with ⟨h1, hx, hy, nx, ny⟩ | h1 | h1
  · have h1 : kd = 0 := h1
    subst h1
    obtain ⟨V1, e1, a1, b1⟩ := rvl_pt (F := F) hx nx V k
    obtain ⟨V2, e2, a2, b2⟩ := rvl_pt (F := F) hy ny V1 (k + 1)
    have e : rvl F (rpt x ++ (rpt y ++ [(if g = true then 13 else 12, 0)])) (V, k) = rvl F [(if g = true then 13 else 12, 0)] (V2, k + 1 + 1) := by
      rw [rvl_app, e1, rvl_app, e2]
    have hk : V2 k = psum F x := (b2 k (by omega)).trans a1
    refine ⟨cval F g x y, nup V2 k (b01 (cval F g x y)), ?_, nup_at, fun j hj => by rw [nup_ne (by omega), b2 j (by omega), b1 j hj], rfl⟩
    show rvl F (rpt x ++ (rpt y ++ [(if g = true then 13 else 12, 0)])) (V, k) = _
    rw [e]
    cases g with
    | true =>
      show rv1 F 13 0 (V2, k + 1 + 1) = _
      rw [rv1_b (by decide) (by decide), a2, hk]
      show (nup V2 k (if gm_w (psum F y) < gm_w (psum F x) then 1 else 0), k + 1) = _
      unfold cval b01
      by_cases h : gm_w (psum F y) < gm_w (psum F x)
      · rw [if_pos h, if_pos rfl, decide_eq_true h, if_pos rfl]
      · rw [if_neg h, if_pos rfl, decide_eq_false h, if_neg (by decide)]
    | false =>
      show rv1 F 12 0 (V2, k + 1 + 1) = _
      rw [rv1_b (by decide) (by decide), a2, hk]
      show (nup V2 k (if gm_w (psum F x) < gm_w (psum F y) then 1 else 0), k + 1) = _
      unfold cval b01
      by_cases h : gm_w (psum F x) < gm_w (psum F y)
      · rw [if_pos h, if_neg (show ¬ (false = true) by decide), decide_eq_true h, if_pos rfl]
      · rw [if_neg h, if_neg (show ¬ (false = true) by decide), decide_eq_false h, if_neg (by decide)]
  · have h1 : kd = 8 := h1
    subst h1
    exact ⟨decide (F 8 = 1), nup V k (F 8), rfl, by rw [nup_at]; exact key _ hF.1, fun j hj => nup_ne (by omega), rfl⟩
  · have h1 : kd = 9 := h1
    subst h1
    exact ⟨decide (F 9 = 1), nup V k (F 9), rfl, by rw [nup_at]; exact key _ hF.2, fun j hj => nup_ne (by omega), rfl⟩
theorem rvl_s (hF : FB F) {B : Nat} : ∀ (ls : List lst) (h k : Nat), shg B ls h k → ∀ (V : Int → Int) (st : List Bool), st.length = h → RSK V st → ∃ V2, rvl F (srds ls) (V, (h : Int)) = (V2, (k : Int)) ∧ RSK V2 (srun F ls st) ∧ (srun F ls st).length = k := by
  intro ls
  induction ls with
  | nil =>
    intro h k hs V st hl hb
    have hs : h = k := hs
    subst hs
    exact ⟨V, rfl, hb, hl⟩
  | cons s r ih =>
    intro h k hs V st hl hb
    have e0 : rvl F (srds (s :: r)) (V, (h : Int)) = rvl F (srds r) (rvl F (srd s) (V, (h : Int))) := rvl_app
    have e1 : srun F (s :: r) st = srun F r (sval F s st) := rfl
    rw [e0, e1]
    rcases hs with ⟨h1, h2, h3⟩ | ⟨h1, h2, h3⟩ | ⟨h1, h2, h3⟩
    · obtain ⟨v, V2, e2, a2, b2, e3⟩ := rvl_push hF h1 V (h : Int) st
      rw [e2, e3]
      exact ih (h + 1) k h3 V2 (v :: st) (by rw [List.length_cons, hl]) (RSK_push hb (by rw [hl]; exact a2) (by rw [hl]; exact b2))
    · obtain ⟨v, q, rfl⟩ := st_1 (st := st) (by omega)
      have hl2 : q.length + 1 = h := hl
      obtain ⟨a1, a2⟩ := RSK_0 hb
      obtain ⟨kd, g, x, y⟩ := s
      have h1 : kd = 14 := h1
      subst h1
      have e2 : rvl F (srd (14, g, x, y)) (V, (h : Int)) = (nup V (q.length : Int) (1 - V (q.length : Int)), (h : Int)) := by
        show rv1 F 14 0 (V, (h : Int)) = _
        unfold rv1
        rw [if_neg (by decide), if_pos rfl]
        dsimp only
        rw [show (h : Int) - 1 = (q.length : Int) by omega]
      rw [e2]
      refine ih h k h3 _ ((!v) :: q) hl (RSK_push a2 ?_ (fun j hj => nup_ne (by omega)))
      rw [nup_at, a1]
      cases v <;> decide
    · obtain ⟨w, v, q, rfl⟩ := st_2 (st := st) (by omega)
      have hl2 : (q.length + 1) + 1 = h := hl
      obtain ⟨a1, a2⟩ := RSK_0 hb
      rw [List.length_cons] at a1
      obtain ⟨a3, a4⟩ := RSK_0 a2
      obtain ⟨kd, g, x, y⟩ := s
      have e3 : ∀ c : Int, c = 15 ∨ c = 16 → rv1 F c 0 (V, (h : Int)) = (nup V (q.length : Int) (rbin c (b01 v) (b01 w)), ((h - 1 : Nat) : Int)) := by
        intro c hc
        have := rv1_b (F := F) (c := c) (by omega) (by omega) (V := V) (k := (q.length : Int))
        rw [show (q.length : Int) + 1 + 1 = (h : Int) by omega, a3, show (q.length : Int) + 1 = ((q.length + 1 : Nat) : Int) by omega, a1] at this
        rw [this]
        congr 1
        omega
      rcases h1 with h1 | h1
      · have h1 : kd = 15 := h1
        subst h1
        have e2 : rvl F (srd (15, g, x, y)) (V, (h : Int)) = _ := e3 15 (Or.inl rfl)
        rw [e2, (rb01 _ _).1]
        exact ih (h - 1) k h3 _ ((v && w) :: q) (by rw [List.length_cons]; omega) (RSK_push a4 nup_at (fun j hj => nup_ne (by omega)))
      · have h1 : kd = 16 := h1
        subst h1
        have e2 : rvl F (srd (16, g, x, y)) (V, (h : Int)) = _ := e3 16 (Or.inr rfl)
        rw [e2, (rb01 _ _).2]
        exact ih (h - 1) k h3 _ ((v || w) :: q) (by rw [List.length_cons]; omega) (RSK_push a4 nup_at (fun j hj => nup_ne (by omega)))
theorem rvr_l {G : Int → Int} : ∀ (l : List (Int × Int)) (i : Int) (s : (Int → Int) × Int), (∀ (j : Nat) (v : Int × Int), l[j]? = some v → G (444 + 2 * (i + (j : Int))) = v.1 ∧ G (444 + 2 * (i + (j : Int)) + 1) = v.2) → rvr F G l.length i s = rvl F l s := by
  intro l
  induction l with
  | nil => intro i s _; rfl
  | cons c l ih =>
    intro i s h
    show rvr F G l.length (i + 1) (rv1 F (G (444 + 2 * i)) (G (444 + 2 * i + 1)) s) = rvl F l (rv1 F c.1 c.2 s)
    obtain ⟨h0, h1⟩ := h 0 c rfl
    rw [show i + ((0 : Nat) : Int) = i by omega] at h0 h1
    rw [h0, h1]
    refine ih (i + 1) _ (fun j v hj => ?_)
    have := h (j + 1) v (by simpa using hj)
    rwa [show i + ((j + 1 : Nat) : Int) = i + 1 + (j : Int) by omega] at this
/-- what the reference makes of a condition's steps -/
theorem rhl_t (hF : FB F) {G : Int → Int} {t : List lst} {k : Int} {V : Int → Int} (hw : shg 32 t 0 1) (he : G (396 + 4 * k + 3) = G (396 + 4 * k + 2) + ((srds t).length : Int)) (hG : ∀ (j : Nat) (v : Int × Int), (srds t)[j]? = some v → G (444 + 2 * (G (396 + 4 * k + 2) + (j : Int))) = v.1 ∧ G (444 + 2 * (G (396 + 4 * k + 2) + (j : Int)) + 1) = v.2) : rhl F G k V ↔ lvl F t = true := by
  unfold rhl
  rw [show (G (396 + 4 * k + 3) - G (396 + 4 * k + 2)).toNat = (srds t).length by omega, rvr_l _ _ _ hG]
  obtain ⟨V2, e2, h2, h3⟩ := rvl_s hF t 0 1 hw V [] rfl (fun i v h => by simp at h)
  have e2 : rvl F (srds t) (V, 0) = (V2, 1) := e2
  rw [e2]
  obtain ⟨v, q, e⟩ := st_1 (st := srun F t []) (by omega)
  have hq : q = [] := by
    rw [e, List.length_cons] at h3
    exact List.length_eq_zero_iff.mp (by omega)
  subst hq
  rw [e] at h2
  rw [lvl_e e]
  have h0 : V2 0 = b01 v := (RSK_0 h2).1
  unfold rend
  show ((1 : Int) = (0 : Int) ∨ gm_w (V2 0) = 1) ↔ _
  rw [h0]
  cases v <;> decide
theorem rhl_0 {G : Int → Int} {k : Int} {V : Int → Int} (he : G (396 + 4 * k + 3) = G (396 + 4 * k + 2)) : rhl F G k V := by
  unfold rhl
  rw [show (G (396 + 4 * k + 3) - G (396 + 4 * k + 2)).toNat = 0 by omega]
  exact Or.inl rfl
/-- as hok, of steps in a row -/
noncomputable def hokl : List (Int × Int) → Int → Prop
  | [], t => 0 ≤ t ∧ t ≤ 400
  | c :: l, t => (0 ≤ c.1 ∧ c.1 ≤ 16) ∧ (c.1 ≤ 10 → (0 ≤ t ∧ t < 400) ∧ hokl l (t + 1)) ∧ (c.1 = 14 → (1 ≤ t ∧ t ≤ 400) ∧ hokl l t) ∧ (10 < c.1 → ¬ c.1 = 14 → (2 ≤ t ∧ t ≤ 400) ∧ hokl l (t - 1))
theorem hok_l {G : Int → Int} : ∀ (l : List (Int × Int)) (i t : Int), (∀ (j : Nat) (v : Int × Int), l[j]? = some v → G (444 + 2 * (i + (j : Int))) = v.1) → hokl l t → hok G l.length i t := by
  intro l
  induction l with
  | nil => exact fun i t _ h => h
  | cons c l ih =>
    intro i t h hh
    obtain ⟨h1, h2, h3, h4⟩ := hh
    have h0 := h 0 c rfl
    rw [show i + ((0 : Nat) : Int) = i by omega] at h0
    have hs : ∀ (j : Nat) (v : Int × Int), l[j]? = some v → G (444 + 2 * (i + 1 + (j : Int))) = v.1 := fun j v hj => by
      have := h (j + 1) v (by simpa using hj)
      rwa [show i + ((j + 1 : Nat) : Int) = i + 1 + (j : Int) by omega] at this
    show (0 ≤ G (444 + 2 * i) ∧ G (444 + 2 * i) ≤ 16) ∧ (G (444 + 2 * i) ≤ 10 → (0 ≤ t ∧ t < 400) ∧ hok G l.length (i + 1) (t + 1)) ∧ (G (444 + 2 * i) = 14 → (1 ≤ t ∧ t ≤ 400) ∧ hok G l.length (i + 1) t) ∧ (10 < G (444 + 2 * i) → ¬ G (444 + 2 * i) = 14 → (2 ≤ t ∧ t ≤ 400) ∧ hok G l.length (i + 1) (t - 1))
    rw [h0]
    exact ⟨h1, fun g => ⟨(h2 g).1, ih _ _ hs (h2 g).2⟩, fun g => ⟨(h3 g).1, ih _ _ hs (h3 g).2⟩, fun g g2 => ⟨(h4 g g2).1, ih _ _ hs (h4 g g2).2⟩⟩
theorem hokl_p {p : Int × Int} {l : List (Int × Int)} {t : Int} (hp : pwf p) (h0 : 0 ≤ t ∧ t < 400) (h : hokl l (t + 1)) : hokl (p :: l) t := by
  have h1 : 0 ≤ p.1 ∧ p.1 ≤ 10 := by rcases hp with ⟨⟨h1, h2⟩, -⟩ | ⟨h1, h2, h3⟩ <;> exact ⟨by omega, by omega⟩
  exact ⟨⟨h1.1, by omega⟩, fun _ => ⟨h0, h⟩, fun g => absurd g (by omega), fun g => absurd g (by omega)⟩
theorem hokl_b {c : Int} {l : List (Int × Int)} {t : Int} (hc : 10 < c ∧ c ≤ 16) (h14 : ¬ c = 14) (h0 : 0 ≤ t ∧ t + 1 + 1 ≤ 400) (h : hokl l (t + 1)) : hokl ((c, 0) :: l) (t + 1 + 1) := by
  refine ⟨⟨by show (0 : Int) ≤ c; omega, hc.2⟩, fun g => absurd g (by show ¬ c ≤ 10; omega), fun g => absurd g h14, fun _ _ => ⟨⟨by omega, by omega⟩, ?_⟩⟩
  rw [show t + 1 + 1 - 1 = t + 1 by omega]
  exact h
theorem hokl_ps : ∀ (ps : List (Int × Int)), (∀ p ∈ ps, pwf p) → ∀ (rest : List (Int × Int)) (t : Int), 0 ≤ t → t + 1 + 1 ≤ 400 → hokl rest (t + 1) → hokl (rps ps ++ rest) (t + 1) := by
  intro ps
  induction ps with
  | nil => exact fun _ rest t _ _ h => h
  | cons p ps ih =>
    intro h rest t t0 hl hr
    have h9 := ih (fun q hq => h q (List.mem_cons_of_mem _ hq)) rest t t0 hl hr
    show hokl (p :: (11, 0) :: (rps ps ++ rest)) (t + 1)
    exact hokl_p (h p List.mem_cons_self) ⟨by omega, by omega⟩ (hokl_b (by decide) (by decide) ⟨t0, by omega⟩ h9)
theorem hokl_pt {ps : List (Int × Int)} (h : ∀ p ∈ ps, pwf p) (hn : ¬ ps = []) (rest : List (Int × Int)) (t : Int) (t0 : 0 ≤ t) (hl : t + 1 + 1 ≤ 400) (hr : hokl rest (t + 1)) : hokl (rpt ps ++ rest) t := by
  cases ps with
  | nil => exact absurd rfl hn
  | cons p ps =>
    show hokl (p :: (rps ps ++ rest)) t
    exact hokl_p (h p List.mem_cons_self) ⟨t0, by omega⟩ (hokl_ps ps (fun q hq => h q (List.mem_cons_of_mem _ hq)) rest t t0 hl hr)
theorem hokl_s : ∀ (ls : List lst) (h k : Nat), shg 32 ls h k → ∀ rest : List (Int × Int), h ≤ 32 → hokl rest (k : Int) → hokl (srds ls ++ rest) (h : Int) := by
  intro ls
  induction ls with
  | nil =>
    intro h k hs rest _ hr
    have hs : h = k := hs
    subst hs
    exact hr
  | cons s r ih =>
    intro h k hs rest hh hr
    show hokl ((srd s ++ srds r) ++ rest) (h : Int)
    rw [List.append_assoc]
    obtain ⟨kd, g, x, y⟩ := s
    rcases hs with ⟨h1, h2, h3⟩ | ⟨h1, h2, h3⟩ | ⟨h1, h2, h3⟩
    · have h9 := ih (h + 1) k h3 rest h2 hr
      rw [show ((h + 1 : Nat) : Int) = (h : Int) + 1 by omega] at h9
      rcases h1 with ⟨h1, hx, hy, nx, ny⟩ | h1 | h1
      · have h1 : kd = 0 := h1
        subst h1
        show hokl ((rpt x ++ (rpt y ++ [(if g = true then 13 else 12, 0)])) ++ (srds r ++ rest)) (h : Int)
        rw [List.append_assoc, List.append_assoc]
        refine hokl_pt hx nx _ _ (by omega) (by omega) (hokl_pt hy ny _ _ (by omega) (by omega) ?_)
        cases g
        · exact hokl_b (by decide) (by decide) ⟨by omega, by omega⟩ h9
        · exact hokl_b (by decide) (by decide) ⟨by omega, by omega⟩ h9
      · have h1 : kd = 8 := h1
        subst h1
        show hokl ((8, 0) :: (srds r ++ rest)) (h : Int)
        exact ⟨by decide, fun _ => ⟨⟨by omega, by omega⟩, h9⟩, fun g => absurd g (by decide), fun g => absurd g (by decide)⟩
      · have h1 : kd = 9 := h1
        subst h1
        show hokl ((9, 0) :: (srds r ++ rest)) (h : Int)
        exact ⟨by decide, fun _ => ⟨⟨by omega, by omega⟩, h9⟩, fun g => absurd g (by decide), fun g => absurd g (by decide)⟩
    · have h9 := ih h k h3 rest hh hr
      have h1 : kd = 14 := h1
      subst h1
      show hokl ((14, 0) :: (srds r ++ rest)) (h : Int)
      exact ⟨by decide, fun g => absurd g (by decide), fun _ => ⟨⟨by omega, by omega⟩, h9⟩, fun _ g => absurd rfl g⟩
    · have h9 := ih (h - 1) k h3 rest (by omega) hr
      obtain ⟨u, rfl⟩ : ∃ u, h = u + 1 + 1 := ⟨h - 2, by omega⟩
      rw [show ((u + 1 + 1 - 1 : Nat) : Int) = (u : Int) + 1 by omega] at h9
      rw [show ((u + 1 + 1 : Nat) : Int) = (u : Int) + 1 + 1 by omega]
      rcases h1 with h1 | h1
      · have h1 : kd = 15 := h1
        subst h1
        exact hokl_b (show (10 : Int) < 15 ∧ (15 : Int) ≤ 16 by decide) (show ¬ (15 : Int) = 14 by decide) ⟨by omega, by omega⟩ h9
      · have h1 : kd = 16 := h1
        subst h1
        exact hokl_b (show (10 : Int) < 16 ∧ (16 : Int) ≤ 16 by decide) (show ¬ (16 : Int) = 14 by decide) ⟨by omega, by omega⟩ h9
end LT1
end
/-! 7a21.l1lq -/
section
/-! A LAW, as both keep it. -/
/-- a line: kind, how much, on what -/
noncomputable abbrev lln := Int × Int × Option (List lst)
noncomputable def LW (ls : List lln) : Prop := ls.length ≤ 12 ∧ ∀ (k : Nat) (x : lln), ls[k]? = some x → (0 ≤ x.1 ∧ x.1 ≤ 2) ∧ (0 ≤ x.2.1 ∧ x.2.1 ≤ 20) ∧ ∀ t, x.2.2 = some t → shg 32 t 0 1
/-- the class's law -/
noncomputable def LC (ls : List lln) (C Ln : Int → Int) : Prop := ∀ (k : Nat) (x : lln), ls[k]? = some x → Ln ((k : Int) * 4 + 0) = x.1 ∧ (¬ x.1 = 2 → Ln ((k : Int) * 4 + 1) = x.2.1) ∧ (x.2.2 = none → Ln ((k : Int) * 4 + 2) = Ln ((k : Int) * 4 + 3)) ∧ ∀ t, x.2.2 = some t → Ln ((k : Int) * 4 + 3) = Ln ((k : Int) * 4 + 2) + ((scds t).length : Int) ∧ ∀ (j : Nat) (v : Int), (scds t)[j]? = some v → C (Ln ((k : Int) * 4 + 2) + (j : Int)) = v
/-- the reference's -/
noncomputable def LR (ls : List lln) (G : Int → Int) : Prop := ∀ (k : Nat) (x : lln), ls[k]? = some x → G (396 + 4 * (k : Int)) = x.1 ∧ G (396 + 4 * (k : Int) + 1) = (if x.1 = 2 then 1 else x.2.1) ∧ (x.2.2 = none → G (396 + 4 * (k : Int) + 3) = G (396 + 4 * (k : Int) + 2)) ∧ ∀ t, x.2.2 = some t → G (396 + 4 * (k : Int) + 3) = G (396 + 4 * (k : Int) + 2) + ((srds t).length : Int) ∧ ∀ (j : Nat) (v : Int × Int), (srds t)[j]? = some v → G (444 + 2 * (G (396 + 4 * (k : Int) + 2) + (j : Int))) = v.1 ∧ G (444 + 2 * (G (396 + 4 * (k : Int) + 2) + (j : Int)) + 1) = v.2
/-- whether a line holds -/
noncomputable def lv (F : Int → Int) (x : lln) : Prop := ∀ t, x.2.2 = some t → lvl F t = true
noncomputable def HH (ls : List lln) (F : Int → Int) (k : Int) : Prop := ∃ x, ls[k.toNat]? = some x ∧ lv F x
section LQ1
variable {ls : List lln} {F C Ln G N h : Int → Int} {sp : Int → Int → Int}
theorem lq_at {k : Nat} (hk : k < ls.length) : ∃ x, ls[k]? = some x := ⟨ls[k], List.getElem?_eq_getElem hk⟩
theorem evh_x (hW : LW ls) (hC : LC ls C Ln) (hF : FB F) {k : Nat} {x : lln} (hx : ls[k]? = some x) : evh F C (Ln ((k : Int) * 4 + 2)) (Ln ((k : Int) * 4 + 3)) ↔ lv F x := by
  obtain ⟨-, -, c3, c4⟩ := hC k x hx
  obtain ⟨-, -, w3⟩ := hW.2 k x hx
  unfold lv
  cases ht : x.2.2 with
  | none =>
    rw [← c3 ht]
    exact ⟨fun _ t h => by simp at h, fun _ => evh_0⟩
  | some t =>
    obtain ⟨e1, e2⟩ := c4 t ht
    have w1 := w3 t ht
    have n1 := scds_n w1
    rw [evh_t hF w1 e1 (by omega) e2]
    exact ⟨fun h t2 h2 => by cases h2; exact h, fun h => h t rfl⟩
theorem rhl_x (hW : LW ls) (hR : LR ls G) (hF : FB F) {k : Nat} {x : lln} {V : Int → Int} (hx : ls[k]? = some x) : rhl F G (k : Int) V ↔ lv F x := by
  obtain ⟨-, -, c3, c4⟩ := hR k x hx
  obtain ⟨-, -, w3⟩ := hW.2 k x hx
  unfold lv
  cases ht : x.2.2 with
  | none => exact ⟨fun _ t h => by simp at h, fun _ => rhl_0 (c3 ht)⟩
  | some t =>
    obtain ⟨e1, e2⟩ := c4 t ht
    have w1 := w3 t ht
    rw [rhl_t hF w1 e1 e2]
    exact ⟨fun h t2 h2 => by cases h2; exact h, fun h => h t rfl⟩
theorem HH_x {k : Nat} {x : lln} (hx : ls[k]? = some x) : HH ls F (k : Int) ↔ lv F x := by
  unfold HH
  rw [show ((k : Int)).toNat = k from Int.toNat_natCast k]
  exact ⟨fun ⟨y, h1, h2⟩ => by rw [hx] at h1; cases h1; exact h2, fun h => ⟨x, hx, h⟩⟩
theorem hhl_x (hW : LW ls) (hR : LR ls G) : HHL (HH ls) G (ls.length : Int) := by
  intro F k V hF h0 h1
  obtain ⟨u, rfl⟩ : ∃ u : Nat, k = (u : Int) := ⟨k.toNat, by omega⟩
  obtain ⟨x, hx⟩ := lq_at (ls := ls) (k := u) (by omega)
  rw [rhl_x hW hR hF hx, HH_x hx]
theorem lsum_x (hW : LW ls) (hC : LC ls C Ln) (hR : LR ls G) (hF : FB F) : ∀ k : Nat, k ≤ ls.length → lfas F C Ln k = rsum (HH ls) F G 0 k - rsum (HH ls) F G 1 k := by
  intro k
  induction k with
  | zero => intro _; rfl
  | succ k ih =>
    intro hk
    obtain ⟨x, hx⟩ := lq_at (ls := ls) (k := k) (by omega)
    have i1 := ih (by omega)
    obtain ⟨c1, c2, -, -⟩ := hC k x hx
    obtain ⟨r1, r2, -, -⟩ := hR k x hx
    obtain ⟨⟨w1, w2⟩, -, -⟩ := hW.2 k x hx
    have e1 := evh_x hW hC hF hx
    have e2 := HH_x (F := F) hx
    have s0 : rsum (HH ls) F G 0 (k + 1) = rsum (HH ls) F G 0 k + @ite Int (G (396 + 4 * (k : Int)) = 0 ∧ HH ls F (k : Int)) (Classical.propDecidable _) (G (396 + 4 * (k : Int) + 1)) 0 := rfl
    have s1 : rsum (HH ls) F G 1 (k + 1) = rsum (HH ls) F G 1 k + @ite Int (G (396 + 4 * (k : Int)) = 1 ∧ HH ls F (k : Int)) (Classical.propDecidable _) (G (396 + 4 * (k : Int) + 1)) 0 := rfl
    have s2 : lfas F C Ln (k + 1) = lfas F C Ln k + (if ¬ Ln ((k : Int) * 4 + 0) = 2 then (@ite Int (evh F C (Ln ((k : Int) * 4 + 2)) (Ln ((k : Int) * 4 + 3))) (Classical.propDecidable _) (if Ln ((k : Int) * 4 + 0) = 0 then Ln ((k : Int) * 4 + 1) else -Ln ((k : Int) * 4 + 1)) 0) else 0) := rfl
    rw [s0, s1, s2, r1, r2, c1]
    have h3 : x.1 = 0 ∨ x.1 = 1 ∨ x.1 = 2 := by omega
    by_cases hv : lv F x
    · have a1 := e1.mpr hv
      have a2 := e2.mpr hv
      rcases h3 with h3 | h3 | h3
      · rw [if_pos (show ¬ x.1 = 2 by omega), if_pos a1, if_pos h3, if_pos (show x.1 = 0 ∧ HH ls F (k : Int) from ⟨h3, a2⟩), if_neg (show ¬ (x.1 = 1 ∧ HH ls F (k : Int)) from fun hh => by have := hh.1; omega), if_neg (show ¬ x.1 = 2 by omega), c2 (by omega)]
        omega
      · rw [if_pos (show ¬ x.1 = 2 by omega), if_pos a1, if_neg (show ¬ x.1 = 0 by omega), if_neg (show ¬ (x.1 = 0 ∧ HH ls F (k : Int)) from fun hh => by have := hh.1; omega), if_pos (show x.1 = 1 ∧ HH ls F (k : Int) from ⟨h3, a2⟩), if_neg (show ¬ x.1 = 2 by omega), c2 (by omega)]
        omega
      · rw [if_neg (show ¬ ¬ x.1 = 2 from fun hh => hh h3), if_neg (show ¬ (x.1 = 0 ∧ HH ls F (k : Int)) from fun hh => by have := hh.1; omega), if_neg (show ¬ (x.1 = 1 ∧ HH ls F (k : Int)) from fun hh => by have := hh.1; omega)]
        omega
    · have a1 : ¬ evh F C (Ln ((k : Int) * 4 + 2)) (Ln ((k : Int) * 4 + 3)) := fun hh => hv (e1.mp hh)
      have a2 : ¬ HH ls F (k : Int) := fun hh => hv (e2.mp hh)
      rw [if_neg (show ¬ (x.1 = 0 ∧ HH ls F (k : Int)) from fun hh => a2 hh.2), if_neg (show ¬ (x.1 = 1 ∧ HH ls F (k : Int)) from fun hh => a2 hh.2)]
      by_cases h2 : x.1 = 2
      · rw [if_neg (show ¬ ¬ x.1 = 2 from fun hh => hh h2)]
        omega
      · rw [if_pos h2, if_neg a1]
        omega
theorem rsum_2 (hW : LW ls) (hR : LR ls G) : ∀ k : Nat, k ≤ ls.length → 0 ≤ rsum (HH ls) F G 2 k ∧ (0 < rsum (HH ls) F G 2 k ↔ ∃ (u : Nat) (x : lln), u < k ∧ ls[u]? = some x ∧ x.1 = 2 ∧ lv F x) := by
  intro k
  induction k with
  | zero => intro _; exact ⟨Int.le_refl _, fun h => absurd h (by show ¬ (0 : Int) < 0; decide), fun ⟨u, x, h, _⟩ => absurd h (Nat.not_lt_zero _)⟩
  | succ k ih =>
    intro hk
    obtain ⟨x, hx⟩ := lq_at (ls := ls) (k := k) (by omega)
    obtain ⟨i1, i2⟩ := ih (by omega)
    obtain ⟨r1, r2, -, -⟩ := hR k x hx
    have e2 := HH_x (F := F) hx
    have s2 : rsum (HH ls) F G 2 (k + 1) = rsum (HH ls) F G 2 k + @ite Int (G (396 + 4 * (k : Int)) = 2 ∧ HH ls F (k : Int)) (Classical.propDecidable _) (G (396 + 4 * (k : Int) + 1)) 0 := rfl
    rw [s2, r1, r2]
    by_cases hv : x.1 = 2 ∧ HH ls F (k : Int)
    · rw [if_pos hv, if_pos hv.1]
      exact ⟨by omega, fun _ => ⟨k, x, Nat.lt_succ_self k, hx, hv.1, e2.mp hv.2⟩, fun _ => by omega⟩
    · rw [if_neg hv]
      refine ⟨by omega, fun h => ?_, fun ⟨u, y, h1, h2, h3, h4⟩ => ?_⟩
      · obtain ⟨u, y, h1, h2⟩ := i2.mp (by omega)
        exact ⟨u, y, by omega, h2⟩
      · by_cases e : u = k
        · subst e
          rw [hx] at h2
          cases h2
          exact absurd ⟨h3, e2.mpr h4⟩ hv
        · have := i2.mpr ⟨u, y, by omega, h2, h3, h4⟩
          omega
theorem lopn_x (hW : LW ls) (hC : LC ls C Ln) (hR : LR ls G) (hF : FB F) : lopn F C Ln (ls.length : Int) ↔ 0 < rsum (HH ls) F G 2 ls.length := by
  rw [(rsum_2 hW hR ls.length (Nat.le_refl _)).2]
  unfold lopn
  constructor
  · rintro ⟨k, ⟨k0, k1⟩, h2, h3⟩
    obtain ⟨u, rfl⟩ : ∃ u : Nat, k = (u : Int) := ⟨k.toNat, by omega⟩
    obtain ⟨x, hx⟩ := lq_at (ls := ls) (k := u) (by omega)
    exact ⟨u, x, by omega, hx, (hC u x hx).1.symm.trans h2, (evh_x hW hC hF hx).mp h3⟩
  · rintro ⟨u, x, h1, hx, h2, h3⟩
    exact ⟨(u : Int), ⟨by omega, by omega⟩, (hC u x hx).1.trans h2, (evh_x hW hC hF hx).mpr h3⟩
/-- FLOW is the same -/
theorem lphi_x (hW : LW ls) (hC : LC ls C Ln) (hR : LR ls G) {l r y : Int} (hs : sp l r = nsp N l r) : lphi N h sp C Ln (ls.length : Int) l r y = rphi N h (HH ls) G (ls.length : Int) l r y := by
  unfold lphi rphi
  rw [hs, show ((ls.length : Int)).toNat = ls.length from Int.toNat_natCast _, lsum_x hW hC hR fb_fcts _ (Nat.le_refl _)]
  congr 2
  omega
theorem nphi_x {l r y : Int} (hs : sp l r = nsp N l r) : nphi sp l r y = rphi0 N l r y := by
  unfold nphi rphi0
  rw [hs]
  congr 2
  omega
end LQ1
end
/-! 7a22.c12hs -/
section
/-! THE CLASS: its History as a list, the newest first; what a call refuses (laid by wip/core/c12.py). -/
theorem pl_le {i : Int} (hi : 0 ≤ i ∧ i < 395 ∧ ¬ i = 8) : (pl i).1 ≤ 12 := by
  rcases pl_cases hi with rfl | rfl | rfl | rfl | rfl | rfl | rfl | rfl | rfl | rfl | rfl | rfl | rfl | rfl | h | h | h | h | h | h
  · decide
  · decide
  · decide
  · decide
  · decide
  · decide
  · decide
  · decide
  · decide
  · decide
  · decide
  · decide
  · decide
  · decide
  · rw [pl_2 h]; exact (by decide : (2 : Nat) ≤ 12)
  · rw [pl_4 h]; exact (by decide : (4 : Nat) ≤ 12)
  · rw [pl_6 h]; exact (by decide : (6 : Nat) ≤ 12)
  · rw [pl_8 h]; exact (by decide : (8 : Nat) ≤ 12)
  · rw [pl_10 h]; exact (by decide : (10 : Nat) ≤ 12)
  · rw [pl_12 h]; exact (by decide : (12 : Nat) ≤ 12)
theorem cs_same {M M2 : gm_M} {b : Nat} (h : ∀ (x : Nat) (j : Int), b ≤ x → x ≤ b + 12 → M2 x j = M x j) : cs M2 b = cs M b := cs_ext fun i hi => h _ _ (Nat.le_add_right _ _) (Nat.add_le_add_left (pl_le hi) _)
theorem cst_cpe : (List.range 12).all (fun p => cstL.all fun q => decide (q.1 < 44 + 13 * p ∨ 44 + 13 * p + 12 < q.1 ∨ ((q.1 = 44 + 13 * p + 1 ∨ q.1 = 44 + 13 * p + 3 ∨ q.1 = 44 + 13 * p + 5 ∨ q.1 = 44 + 13 * p + 7 ∨ q.1 = 44 + 13 * p + 9 ∨ q.1 = 44 + 13 * p + 11) ∧ 0 ≤ q.2.1 ∧ q.2.1 < 3))) = true := by decide +kernel
theorem cst_cpf : [3, 16, 29].all (fun p => cstL.all fun q => decide (q.1 < p ∨ p + 12 < q.1 ∨ ((q.1 = p + 1 ∨ q.1 = p + 3 ∨ q.1 = p + 5 ∨ q.1 = p + 7 ∨ q.1 = p + 9 ∨ q.1 = p + 11) ∧ 0 ≤ q.2.1 ∧ q.2.1 < 3))) = true := by decide +kernel
theorem cst_cpy0 {M M2 : gm_M} {b s : Nat} (h : cstL.all (fun q => decide (q.1 < b ∨ b + 12 < q.1 ∨ ((q.1 = b + 1 ∨ q.1 = b + 3 ∨ q.1 = b + 5 ∨ q.1 = b + 7 ∨ q.1 = b + 9 ∨ q.1 = b + 11) ∧ 0 ≤ q.2.1 ∧ q.2.1 < 3))) = true) (hC : CST M) (hc : CPY M M2 b s) : CST M2 := by
  intro q hq
  rw [← hC q hq]
  rcases of_decide_eq_true (List.all_eq_true.mp h q hq) with h1 | h1 | ⟨h1, h2, h3⟩
  · exact hc.1 _ _ (Or.inl h1)
  · exact hc.1 _ _ (Or.inr h1)
  · exact hc.2.1 _ _ h2 h3 (by omega)
theorem cst_cpy {M M2 : gm_M} {p s : Nat} (hp : p < 12) (hC : CST M) (hc : CPY M M2 (44 + 13 * p) s) : CST M2 := cst_cpy0 (List.all_eq_true.mp cst_cpe p (List.mem_range.mpr hp)) hC hc
/-- what is remembered, the newest first -/
noncomputable def HIS (A : List (Int → Int)) (M : gm_M) : Prop := ∃ nx : Int, (0 ≤ nx ∧ nx < 12) ∧ M 42 1 = nx ∧ M 42 2 = (A.length : Int) ∧ A.length ≤ 12 ∧ ∀ (i : Nat) (N1 : Int → Int), A[i]? = some N1 → cs M (44 + 13 * ((nx + 11 - (i : Int)) % 12).toNat) = N1
theorem his_fr {A : List (Int → Int)} {M M2 : gm_M} (h : HIS A M) (e : ∀ (x : Nat) (j : Int), 42 ≤ x → x ≤ 199 → M2 x j = M x j) : HIS A M2 := by
  obtain ⟨nx, h0, h1, h2, h3, h4⟩ := h
  refine ⟨nx, h0, by rw [e 42 1 (by decide) (by decide)]; exact h1, by rw [e 42 2 (by decide) (by decide)]; exact h2, h3, fun i N1 hi => ?_⟩
  rw [← h4 i N1 hi]
  exact cs_same fun x j x1 x2 => e x j (by omega) (by omega)
section HS12
variable {X : Int → Int} {LX d bc bs n : Nat} {K : gm_K} {R : gm_R} {M : gm_M} {Q : gm_Q} {N h : Int → Int} {sp : Int → Int → Int} {A : List (Int → Int)} {i sz x y : Int}
theorem ti_far {M2 : gm_M} (hT : TI N h sp M) (hC : CST M2) (e : ∀ (x : Nat) (j : Int), x < 42 ∨ 199 < x → M2 x j = M x j) : TI N h sp M2 := by
  refine ⟨hC, ?_, fun y y1 y2 => ?_, fun l r l1 l2 r1 r2 => ?_⟩
  · rw [← hT.2.1]
    exact cs_same fun x j x1 x2 => e x j (by omega)
  · rw [e 201 y (by decide), e 203 y (by decide)]
    exact hT.2.2.1 y y1 y2
  · rw [e 202 _ (by decide)]
    exact hT.2.2.2 l r l1 l2 r1 r2
theorem rem_c154 (hd : 5 ≤ d) (hE : E0 n K R) (hT : TI N h sp M) (hN : NR N) (hH : HIS A M) (hq : ∀ (p : Nat) (M2 : gm_M), p < 12 → (M 42 1 = (p : Int) ∧ M2 42 1 = ((p : Int) + 1) % 12) → HIS ((N :: A).take 12) M2 → TI N h sp M2 → (∀ (x : Nat) (j : Int), x < 42 ∨ 199 < x → M2 x j = M x j) → Q (.inl none) n K (gm_uR R (44 + 13 * p) 8 (R 3 8)) M2) : gm_Wp X LX d bc bs 154 0 (gm_ent 154 [gm_vr 42, gm_vr 3]) [] n K R M Q := by
  obtain ⟨nx, h0, h1, h2, h3, h4⟩ := hH
  have hp : nx.toNat < 12 := by omega
  refine hi_rem hd hE hT.1 h0 h1 h2 ⟨by omega, by omega⟩ (sz_cs hN hT.2.1) (fun M9 hc => ?_)
  have far : ∀ (x : Nat) (j : Int), x < 42 ∨ 199 < x → gm_uM (gm_uM M9 42 1 ((nx + 1) % 12)) 42 2 (min ((A.length : Int) + 1) 12) x j = M x j := fun x j hx => (uM_ne (by omega)).trans ((uM_ne (by omega)).trans (hc.1 x j (by omega)))
  have c9 : CST M9 := cst_cpy hp hT.1 hc
  have cM : CST (gm_uM (gm_uM M9 42 1 ((nx + 1) % 12)) 42 2 (min ((A.length : Int) + 1) 12)) := cst_fr (W := [(42, some 1), (42, some 2)]) c9 (fr_p (fr_p fr_0 (Or.inr (by decide))) (Or.inr (by decide))) (by decide +kernel)
  refine hq nx.toNat _ hp ⟨by omega, (uM_ne (by decide)).trans (uM_at.trans (by omega))⟩ ⟨(nx + 1) % 12, ⟨by omega, by omega⟩, (uM_ne (by decide)).trans uM_at, uM_at.trans ?_, ?_, fun i N1 hi => ?_⟩ (ti_far hT cM far) far
  · rw [List.length_take, List.length_cons]
    omega
  · rw [List.length_take, List.length_cons]
    omega
  · have el : ∀ b : Nat, 43 ≤ b → cs (gm_uM (gm_uM M9 42 1 ((nx + 1) % 12)) 42 2 (min ((A.length : Int) + 1) 12)) b = cs M9 b := fun b hb => (cs_el (Or.inl (by omega))).trans (cs_el (Or.inl (by omega)))
    rw [el _ (by omega)]
    cases i with
    | zero =>
      have e : N = N1 := by simpa using hi
      subst e
      rw [show (((nx + 1) % 12 + 11 - ((0 : Nat) : Int)) % 12).toNat = nx.toNat by omega]
      exact hc.2.2.trans hT.2.1
    | succ i =>
      rw [List.getElem?_take] at hi
      split at hi
      · rename_i hi2
        have hi : A[i]? = some N1 := by simpa using hi
        rw [show (((nx + 1) % 12 + 11 - ((i + 1 : Nat) : Int)) % 12).toNat = ((nx + 11 - (i : Int)) % 12).toNat by omega]
        rw [← h4 i N1 hi]
        have hne : ¬ ((nx + 11 - (i : Int)) % 12).toNat = nx.toNat := by omega
        exact cs_same fun x j x1 x2 => hc.1 x j (by omega)
      · cases hi
theorem tb_c55 (hd : 5 ≤ d) (hE : E0 n K R) (hT : TI N h sp M) (hH : HIS A M) (hA : ∀ N1 ∈ A, NR N1) (hq0 : A = [] → Q (.inl (some (gm_vi 0))) n K R M) (hq1 : ∀ (N0 : Int → Int) (A1 : List (Int → Int)) (p : Nat) (M2 : gm_M), A = N0 :: A1 → p < 12 → (M2 42 1 = (p : Int) ∧ M 42 1 = ((p : Int) + 1) % 12) → HIS A1 M2 → CST M2 → cs M2 3 = N0 → (∀ (x : Nat) (j : Int), x < 3 ∨ (15 < x ∧ ¬ x = 42) → M2 x j = M x j) → Q (.inl (some (gm_vi 1))) n K (gm_uR R 3 8 (R (44 + 13 * p) 8)) M2) : gm_Wp X LX d bc bs 55 0 (gm_ent 55 [gm_vr 42, gm_vr 3]) [] n K R M Q := by
  obtain ⟨nx, h0, h1, h2, h3, h4⟩ := hH
  cases A with
  | nil => exact hi_tb0 hE h2 (hq0 rfl)
  | cons N0 A1 =>
    rw [List.length_cons] at h2 h3
    have e0 := h4 0 N0 rfl
    have hz : SZ M (44 + 13 * (((nx + 12) - 1) % 12).toNat) := sz_cs (hA N0 List.mem_cons_self) (by rw [← e0]; congr 3; omega)
    refine hi_tb hd hE hT.1 h0 h1 h2 ⟨by omega, by omega⟩ (by omega) (mx_3 hT.1) hz (fun M9 hc => ?_)
    have hp : (((nx + 12) - 1) % 12).toNat < 12 := by omega
    have cM : CST (gm_uM (gm_uM M 42 1 (((nx + 12) - 1) % 12)) 42 2 (((A1.length + 1 : Nat) : Int) - 1)) := cst_fr (W := [(42, some 1), (42, some 2)]) hT.1 (fr_p (fr_p fr_0 (Or.inr (by decide))) (Or.inr (by decide))) (by decide +kernel)
    have ho : ∀ (x : Nat) (j : Int), x < 3 ∨ 15 < x → M9 x j = gm_uM (gm_uM M 42 1 (((nx + 12) - 1) % 12)) 42 2 (((A1.length + 1 : Nat) : Int) - 1) x j := fun x j hx => hc.1 x j (by omega)
    refine hq1 N0 A1 _ M9 rfl hp ⟨(ho 42 1 (by decide)).trans ((uM_ne (by decide)).trans (uM_at.trans (by omega))), h1.trans (by omega)⟩ ⟨((nx + 12) - 1) % 12, ⟨by omega, by omega⟩, (ho 42 1 (by decide)).trans ((uM_ne (by decide)).trans uM_at), (ho 42 2 (by decide)).trans (uM_at.trans (by omega)), by omega, fun i N1 hi => ?_⟩ (cst_cpy0 (List.all_eq_true.mp cst_cpf 3 (by decide)) cM hc) ?_ (fun x j hx => ?_)
    · have := h4 (i + 1) N1 (by simpa using hi)
      rw [← this]
      rw [show ((((nx + 12) - 1) % 12 + 11 - (i : Int)) % 12).toNat = ((nx + 11 - ((i + 1 : Nat) : Int)) % 12).toNat by omega]
      refine cs_same fun x j x1 x2 => (ho x j (by omega)).trans ((uM_ne (by omega)).trans (uM_ne (by omega)))
    · rw [hc.2.2, ← e0]
      rw [show ((nx + 11 - ((0 : Nat) : Int)) % 12).toNat = (((nx + 12) - 1) % 12).toNat by omega]
      exact (cs_el (Or.inl (by omega))).trans (cs_el (Or.inl (by omega)))
    · exact (ho x j (by omega)).trans ((uM_ne (by omega)).trans (uM_ne (by omega)))
theorem im_t59 (hd : 5 ≤ d) (hE : E0 n K R) (hT : TI N h sp M) (hN : NR N) (hq : ∀ M2 : gm_M, TI N h sp M2 → cs M2 29 = N → M2 1 6 = 1 → (∀ (x : Nat) (j : Int), ¬ (x = 1 ∧ j = 6) → x < 29 ∨ 41 < x → M2 x j = M x j) → Q (.inl none) n K (gm_uR R 29 8 (R 3 8)) M2) : gm_Wp X LX d bc bs 59 0 (gm_ent 59 [gm_vr 1]) [] n K R M Q := by
  refine im_c59 hd hE hT.1 (sz_cs hN hT.2.1) (fun M9 hc => ?_)
  have c9 : CST M9 := cst_cpy0 (List.all_eq_true.mp cst_cpf 29 (by decide)) hT.1 hc
  have cM : CST (gm_uM M9 1 6 1) := cst_fr (W := [(1, some 6)]) c9 (fr_p fr_0 (Or.inr (by decide))) (by decide +kernel)
  have far : ∀ (x : Nat) (j : Int), ¬ (x = 1 ∧ j = 6) → x < 29 ∨ 41 < x → gm_uM M9 1 6 1 x j = M x j := fun x j h1 hx => (uM_ne (by omega)).trans (hc.1 x j (by omega))
  refine hq _ ⟨cM, ?_, fun y y1 y2 => ?_, fun l r l1 l2 r1 r2 => ?_⟩ ((cs_el (Or.inl (by decide))).trans (hc.2.2.trans hT.2.1)) uM_at far
  · rw [← hT.2.1]
    exact cs_same fun x j x1 x2 => far x j (by omega) (by omega)
  · rw [far 201 y (by omega) (by decide), far 203 y (by omega) (by decide)]
    exact hT.2.2.1 y y1 y2
  · rw [far 202 _ (by omega) (by decide)]
    exact hT.2.2.2 l r l1 l2 r1 r2
theorem nd_133 (hd : 6 ≤ d) (hb1 : 1 ≤ bc) (hb2 : 6 ≤ bs) (hi : gm_ir i) (hs : gm_ir sz) (k1 : 0 ≤ i ∧ i < sz → Q (.inl none) n K R M) (k0 : ¬ (0 ≤ i ∧ i < sz) → Q (.inr 3) n K R M) : gm_Wp X LX d bc bs 133 0 (gm_ent 133 [gm_vr 1, gm_vi i, gm_vi sz]) [] n K R M Q := by
  refine gm_sz (gm_p_load (pc := 0) (i := .iload_n 1) (sr := 0) (j := 1) (by decide +kernel) rfl rfl rfl) ?_
  refine fw_if (cc := .lt) (pc := 1) (off := 8) (by decide +kernel) (by decide) hi (fun h1 => ?_) (fun h1 => ?_)
  · have h1 : i < 0 := h1
    exact gm_throw (ik := 453) (is := 455) (ic := 457) (x := 3) (id := 33) (lw := true) (by decide +kernel) (by decide +kernel) (by decide +kernel) (by decide +kernel) (by decide +kernel) (by decide +kernel) (by decide +kernel) (by decide +kernel) (Nat.le_of_ble_eq_true rfl) (by omega) (by omega) (by omega) (k0 (by first | assumption | omega))
  · have h1 : ¬ i < 0 := h1
    refine gm_sz (gm_p_load (pc := 4) (i := .iload_n 1) (sr := 0) (j := 1) (by decide +kernel) rfl rfl rfl) ?_
    refine gm_sz (gm_p_load (pc := 5) (i := .iload_n 2) (sr := 0) (j := 2) (by decide +kernel) rfl rfl rfl) ?_
    refine fw_ic (cc := .lt) (pc := 6) (off := 14) (by decide +kernel) (by decide) hi hs (fun h6 => ?_) (fun h6 => ?_)
    · have h6 : i < sz := h6
      exact gm_r_void (pc := 20) (by decide +kernel) (by decide +kernel) (k1 (by first | assumption | omega))
    · have h6 : ¬ i < sz := h6
      exact gm_throw (ik := 453) (is := 455) (ic := 457) (x := 3) (id := 33) (lw := true) (by decide +kernel) (by decide +kernel) (by decide +kernel) (by decide +kernel) (by decide +kernel) (by decide +kernel) (by decide +kernel) (by decide +kernel) (Nat.le_of_ble_eq_true rfl) (by omega) (by omega) (by omega) (k0 (by first | assumption | omega))
theorem nd_132 (hd : 8 ≤ d) (hb1 : 1 ≤ bc) (hb2 : 6 ≤ bs) (hE : E0 n K R) (hT : TI N h sp M) (hN : NR N) (hi : gm_ir i) (k1 : 0 ≤ i ∧ i < N 0 → Q (.inl none) n K R M) (k0 : ¬ (0 ≤ i ∧ i < N 0) → Q (.inr 3) n K R M) : gm_Wp X LX d bc bs 132 0 (gm_ent 132 [gm_vr 1, gm_vi i]) [] n K R M Q := by
  obtain ⟨⟨⟨a0, b0⟩, ⟨a1, b1⟩, ⟨a10, b10⟩, ⟨a11, b11⟩, ⟨a12, b12⟩, a9, b9⟩, ⟨⟨a2, b2⟩, ⟨a5, b5⟩, ⟨a3, b3⟩, ⟨a4, b4⟩, ⟨a6, b6⟩, ⟨a14, b14⟩, ⟨a7, b7⟩, a13, b13⟩, rF, rP, rL⟩ := id hN
  refine gm_sz (gm_p_load (pc := 0) (i := .aload_n 0) (sr := 2) (j := 0) (by decide +kernel) rfl rfl rfl) ?_
  refine gm_sz (gm_p_load (pc := 1) (i := .iload_n 1) (sr := 0) (j := 1) (by decide +kernel) rfl rfl rfl) ?_
  refine gm_sz (gm_p_load (pc := 2) (i := .aload_n 0) (sr := 2) (j := 0) (by decide +kernel) rfl rfl rfl) ?_
  refine gm_sz (fw_gr (pc := 3) (ix := 23) (ci := 0) (j := 3) (r := 3) (by decide +kernel) (e0k hE (k := 1) (c := 0) (by decide +kernel)) (by decide +kernel) (by decide +kernel) (e0r hE (k := 1) (j := 3) (r := 3) (by decide +kernel))) ?_
  refine gm_sz (fw_gi (pc := 6) (ix := 351) (ci := 1) (j := 0) (x := N 0) (by decide +kernel) (e0k hE (k := 3) (c := 1) (by decide +kernel)) (by decide +kernel) (by decide +kernel) (ti_lan hT)) ?_
  refine gm_c_virt (k := 1) (ci := 0) (mj := 133) (ix := 306) (pc := 9) (as := [gm_vi i, gm_vi (N 0)]) (st := []) (d' := d - 1) (bc' := 1) (bs' := 6) (by decide +kernel) (by decide +kernel) (by decide +kernel) (by decide +kernel) (e0k hE (k := 1) (c := 0) (by decide +kernel)).1 (e0k hE (k := 1) (c := 0) (by decide +kernel)).2 (by decide) (by decide +kernel) (show 2 = gm_na 133 by decide +kernel) (fw_c2 fw_si fw_si) (show 3 ≤ gm_ml 133 by decide +kernel) (Nat.le_of_ble_eq_true rfl) (by omega) (by omega) (by omega) ?_
  refine nd_133 (i := i) (sz := (N 0)) (by omega) (by decide) (by decide) hi ⟨by omega, by omega⟩ (fun c9 => ?_) (fun c9 => ?_)
  · show gm_Wp X LX d _ _ 132 12 _ [] n K _ _ Q
    exact gm_r_void (pc := 12) (by decide +kernel) (by decide +kernel) (k1 (by first | assumption | omega))
  · show Q (.inr 3) n K _ _
    exact (k0 (by first | assumption | omega))
theorem nd_134 (hd : 8 ≤ d) (hb1 : 1 ≤ bc) (hb2 : 6 ≤ bs) (hE : E0 n K R) (hT : TI N h sp M) (hN : NR N) (hi : gm_ir i) (k1 : 0 ≤ i ∧ i < N 1 → Q (.inl none) n K R M) (k0 : ¬ (0 ≤ i ∧ i < N 1) → Q (.inr 3) n K R M) : gm_Wp X LX d bc bs 134 0 (gm_ent 134 [gm_vr 1, gm_vi i]) [] n K R M Q := by
  obtain ⟨⟨⟨a0, b0⟩, ⟨a1, b1⟩, ⟨a10, b10⟩, ⟨a11, b11⟩, ⟨a12, b12⟩, a9, b9⟩, ⟨⟨a2, b2⟩, ⟨a5, b5⟩, ⟨a3, b3⟩, ⟨a4, b4⟩, ⟨a6, b6⟩, ⟨a14, b14⟩, ⟨a7, b7⟩, a13, b13⟩, rF, rP, rL⟩ := id hN
  refine gm_sz (gm_p_load (pc := 0) (i := .aload_n 0) (sr := 2) (j := 0) (by decide +kernel) rfl rfl rfl) ?_
  refine gm_sz (gm_p_load (pc := 1) (i := .iload_n 1) (sr := 0) (j := 1) (by decide +kernel) rfl rfl rfl) ?_
  refine gm_sz (gm_p_load (pc := 2) (i := .aload_n 0) (sr := 2) (j := 0) (by decide +kernel) rfl rfl rfl) ?_
  refine gm_sz (fw_gr (pc := 3) (ix := 23) (ci := 0) (j := 3) (r := 3) (by decide +kernel) (e0k hE (k := 1) (c := 0) (by decide +kernel)) (by decide +kernel) (by decide +kernel) (e0r hE (k := 1) (j := 3) (r := 3) (by decide +kernel))) ?_
  refine gm_sz (fw_gi (pc := 6) (ix := 226) (ci := 1) (j := 1) (x := N 1) (by decide +kernel) (e0k hE (k := 3) (c := 1) (by decide +kernel)) (by decide +kernel) (by decide +kernel) (ti_las hT)) ?_
  refine gm_c_virt (k := 1) (ci := 0) (mj := 133) (ix := 306) (pc := 9) (as := [gm_vi i, gm_vi (N 1)]) (st := []) (d' := d - 1) (bc' := 1) (bs' := 6) (by decide +kernel) (by decide +kernel) (by decide +kernel) (by decide +kernel) (e0k hE (k := 1) (c := 0) (by decide +kernel)).1 (e0k hE (k := 1) (c := 0) (by decide +kernel)).2 (by decide) (by decide +kernel) (show 2 = gm_na 133 by decide +kernel) (fw_c2 fw_si fw_si) (show 3 ≤ gm_ml 133 by decide +kernel) (Nat.le_of_ble_eq_true rfl) (by omega) (by omega) (by omega) ?_
  refine nd_133 (i := i) (sz := (N 1)) (by omega) (by decide) (by decide) hi ⟨by omega, by omega⟩ (fun c9 => ?_) (fun c9 => ?_)
  · show gm_Wp X LX d _ _ 134 12 _ [] n K _ _ Q
    exact gm_r_void (pc := 12) (by decide +kernel) (by decide +kernel) (k1 (by first | assumption | omega))
  · show Q (.inr 3) n K _ _
    exact (k0 (by first | assumption | omega))
theorem nd_139 (hd : 8 ≤ d) (hb1 : 1 ≤ bc) (hb2 : 6 ≤ bs) (hE : E0 n K R) (hT : TI N h sp M) (hN : NR N) (hi : gm_ir i) (k1 : 0 ≤ i ∧ i < N 3 → Q (.inl none) n K R M) (k0 : ¬ (0 ≤ i ∧ i < N 3) → Q (.inr 3) n K R M) : gm_Wp X LX d bc bs 139 0 (gm_ent 139 [gm_vr 1, gm_vi i]) [] n K R M Q := by
  obtain ⟨⟨⟨a0, b0⟩, ⟨a1, b1⟩, ⟨a10, b10⟩, ⟨a11, b11⟩, ⟨a12, b12⟩, a9, b9⟩, ⟨⟨a2, b2⟩, ⟨a5, b5⟩, ⟨a3, b3⟩, ⟨a4, b4⟩, ⟨a6, b6⟩, ⟨a14, b14⟩, ⟨a7, b7⟩, a13, b13⟩, rF, rP, rL⟩ := id hN
  refine gm_sz (gm_p_load (pc := 0) (i := .aload_n 0) (sr := 2) (j := 0) (by decide +kernel) rfl rfl rfl) ?_
  refine gm_sz (gm_p_load (pc := 1) (i := .iload_n 1) (sr := 0) (j := 1) (by decide +kernel) rfl rfl rfl) ?_
  refine gm_sz (gm_p_load (pc := 2) (i := .aload_n 0) (sr := 2) (j := 0) (by decide +kernel) rfl rfl rfl) ?_
  refine gm_sz (fw_gr (pc := 3) (ix := 23) (ci := 0) (j := 3) (r := 3) (by decide +kernel) (e0k hE (k := 1) (c := 0) (by decide +kernel)) (by decide +kernel) (by decide +kernel) (e0r hE (k := 1) (j := 3) (r := 3) (by decide +kernel))) ?_
  refine gm_sz (fw_gr (pc := 6) (ix := 183) (ci := 1) (j := 11) (r := 8) (by decide +kernel) (e0k hE (k := 3) (c := 1) (by decide +kernel)) (by decide +kernel) (by decide +kernel) (e0r hE (k := 3) (j := 11) (r := 8) (by decide +kernel))) ?_
  refine gm_c_virt (k := 8) (ci := 2) (mj := 9) (ix := 277) (pc := 9) (as := []) (st := [gm_vi i, gm_vr 1]) (d' := d - 1) (bc' := 0) (bs' := 0) (by decide +kernel) (by decide +kernel) (by decide +kernel) (by decide +kernel) (e0k hE (k := 8) (c := 2) (by decide +kernel)).1 (e0k hE (k := 8) (c := 2) (by decide +kernel)).2 (by decide) (by decide +kernel) (show 0 = gm_na 9 by decide +kernel) fw_c0 (show 1 ≤ gm_ml 9 by decide +kernel) (Nat.le_of_ble_eq_true rfl) (by omega) (Nat.zero_le _) (Nat.zero_le _) ?_
  refine rw_size (s := N 3) (e0k hE (k := 8) (c := 2) (by decide +kernel)) (ti_peo hT) ?_
  show gm_Wp X LX d _ _ 139 12 _ [gm_vi (N 3), gm_vi i, gm_vr 1] n K _ _ Q
  refine gm_c_virt (k := 1) (ci := 0) (mj := 133) (ix := 306) (pc := 12) (as := [gm_vi i, gm_vi (N 3)]) (st := []) (d' := d - 1) (bc' := 1) (bs' := 6) (by decide +kernel) (by decide +kernel) (by decide +kernel) (by decide +kernel) (e0k hE (k := 1) (c := 0) (by decide +kernel)).1 (e0k hE (k := 1) (c := 0) (by decide +kernel)).2 (by decide) (by decide +kernel) (show 2 = gm_na 133 by decide +kernel) (fw_c2 fw_si fw_si) (show 3 ≤ gm_ml 133 by decide +kernel) (Nat.le_of_ble_eq_true rfl) (by omega) (by omega) (by omega) ?_
  refine nd_133 (i := i) (sz := (N 3)) (by omega) (by decide) (by decide) hi ⟨by omega, by omega⟩ (fun c12 => ?_) (fun c12 => ?_)
  · show gm_Wp X LX d _ _ 139 15 _ [] n K _ _ Q
    exact gm_r_void (pc := 15) (by decide +kernel) (by decide +kernel) (k1 (by first | assumption | omega))
  · show Q (.inr 3) n K _ _
    exact (k0 (by first | assumption | omega))
theorem nd_143 (hd : 8 ≤ d) (hb1 : 1 ≤ bc) (hb2 : 6 ≤ bs) (hE : E0 n K R) (hT : TI N h sp M) (hN : NR N) (hi : gm_ir i) (k1 : 0 ≤ i ∧ i < N 4 → Q (.inl none) n K R M) (k0 : ¬ (0 ≤ i ∧ i < N 4) → Q (.inr 3) n K R M) : gm_Wp X LX d bc bs 143 0 (gm_ent 143 [gm_vr 1, gm_vi i]) [] n K R M Q := by
  obtain ⟨⟨⟨a0, b0⟩, ⟨a1, b1⟩, ⟨a10, b10⟩, ⟨a11, b11⟩, ⟨a12, b12⟩, a9, b9⟩, ⟨⟨a2, b2⟩, ⟨a5, b5⟩, ⟨a3, b3⟩, ⟨a4, b4⟩, ⟨a6, b6⟩, ⟨a14, b14⟩, ⟨a7, b7⟩, a13, b13⟩, rF, rP, rL⟩ := id hN
  refine gm_sz (gm_p_load (pc := 0) (i := .aload_n 0) (sr := 2) (j := 0) (by decide +kernel) rfl rfl rfl) ?_
  refine gm_sz (gm_p_load (pc := 1) (i := .iload_n 1) (sr := 0) (j := 1) (by decide +kernel) rfl rfl rfl) ?_
  refine gm_sz (gm_p_load (pc := 2) (i := .aload_n 0) (sr := 2) (j := 0) (by decide +kernel) rfl rfl rfl) ?_
  refine gm_sz (fw_gr (pc := 3) (ix := 23) (ci := 0) (j := 3) (r := 3) (by decide +kernel) (e0k hE (k := 1) (c := 0) (by decide +kernel)) (by decide +kernel) (by decide +kernel) (e0r hE (k := 1) (j := 3) (r := 3) (by decide +kernel))) ?_
  refine gm_sz (fw_gr (pc := 6) (ix := 203) (ci := 1) (j := 12) (r := 10) (by decide +kernel) (e0k hE (k := 3) (c := 1) (by decide +kernel)) (by decide +kernel) (by decide +kernel) (e0r hE (k := 3) (j := 12) (r := 10) (by decide +kernel))) ?_
  refine gm_c_virt (k := 10) (ci := 2) (mj := 9) (ix := 277) (pc := 9) (as := []) (st := [gm_vi i, gm_vr 1]) (d' := d - 1) (bc' := 0) (bs' := 0) (by decide +kernel) (by decide +kernel) (by decide +kernel) (by decide +kernel) (e0k hE (k := 10) (c := 2) (by decide +kernel)).1 (e0k hE (k := 10) (c := 2) (by decide +kernel)).2 (by decide) (by decide +kernel) (show 0 = gm_na 9 by decide +kernel) fw_c0 (show 1 ≤ gm_ml 9 by decide +kernel) (Nat.le_of_ble_eq_true rfl) (by omega) (Nat.zero_le _) (Nat.zero_le _) ?_
  refine rw_size (s := N 4) (e0k hE (k := 10) (c := 2) (by decide +kernel)) (ti_let hT) ?_
  show gm_Wp X LX d _ _ 143 12 _ [gm_vi (N 4), gm_vi i, gm_vr 1] n K _ _ Q
  refine gm_c_virt (k := 1) (ci := 0) (mj := 133) (ix := 306) (pc := 12) (as := [gm_vi i, gm_vi (N 4)]) (st := []) (d' := d - 1) (bc' := 1) (bs' := 6) (by decide +kernel) (by decide +kernel) (by decide +kernel) (by decide +kernel) (e0k hE (k := 1) (c := 0) (by decide +kernel)).1 (e0k hE (k := 1) (c := 0) (by decide +kernel)).2 (by decide) (by decide +kernel) (show 2 = gm_na 133 by decide +kernel) (fw_c2 fw_si fw_si) (show 3 ≤ gm_ml 133 by decide +kernel) (Nat.le_of_ble_eq_true rfl) (by omega) (by omega) (by omega) ?_
  refine nd_133 (i := i) (sz := (N 4)) (by omega) (by decide) (by decide) hi ⟨by omega, by omega⟩ (fun c12 => ?_) (fun c12 => ?_)
  · show gm_Wp X LX d _ _ 143 15 _ [] n K _ _ Q
    exact gm_r_void (pc := 15) (by decide +kernel) (by decide +kernel) (k1 (by first | assumption | omega))
  · show Q (.inr 3) n K _ _
    exact (k0 (by first | assumption | omega))
theorem nd_153 (hd : 8 ≤ d) (hb1 : 1 ≤ bc) (hb2 : 6 ≤ bs) (hi : gm_ir x) (hy2 : gm_ir y) (k1 : ¬ x = y → Q (.inl none) n K R M) (k0 : ¬ (¬ x = y) → Q (.inr 0) n K R M) : gm_Wp X LX d bc bs 153 0 (gm_ent 153 [gm_vr 1, gm_vi x, gm_vi y]) [] n K R M Q := by
  refine gm_sz (gm_p_load (pc := 0) (i := .iload_n 1) (sr := 0) (j := 1) (by decide +kernel) rfl rfl rfl) ?_
  refine gm_sz (gm_p_load (pc := 1) (i := .iload_n 2) (sr := 0) (j := 2) (by decide +kernel) rfl rfl rfl) ?_
  refine fw_ic (cc := .ne) (pc := 2) (off := 14) (by decide +kernel) (by decide) hi hy2 (fun h2 => ?_) (fun h2 => ?_)
  · have h2 : ¬ x = y := h2
    exact gm_r_void (pc := 16) (by decide +kernel) (by decide +kernel) (k1 (by first | assumption | omega))
  · have h2 : x = y := Classical.not_not.mp h2
    exact gm_throw (ik := 121) (is := 462) (ic := 125) (x := 0) (id := 36) (lw := true) (by decide +kernel) (by decide +kernel) (by decide +kernel) (by decide +kernel) (by decide +kernel) (by decide +kernel) (by decide +kernel) (by decide +kernel) (Nat.le_of_ble_eq_true rfl) (by omega) (by omega) (by omega) (k0 (by first | assumption | omega))
end HS12
end
/-! 7a23.c13ac -/
section
/-! THE CLASS'S ACTS (laid by wip/core/c13.py). -/
theorem ks8_e : (List.range 12).all (fun p => (p2_O.2.1 (44 + 13 * p) 8).isNone) = true := by decide +kernel
theorem e0h {n : Nat} {K : gm_K} {R : gm_R} (hE : E0 n K R) {p v : Nat} (hp : p < 12) : E0 n K (gm_uR R (44 + 13 * p) 8 v) := e0u hE (Option.isNone_iff_eq_none.mp (List.all_eq_true.mp ks8_e p (List.mem_range.mpr hp)))
theorem e0h3 {n : Nat} {K : gm_K} {R : gm_R} (hE : E0 n K R) {v : Nat} : E0 n K (gm_uR R 3 8 v) := e0u hE (by decide +kernel)
theorem his_w {A : List (Int → Int)} {M M2 : gm_M} {W : List (Nat × Option Int)} (h : HIS A M) (hf : fr W M M2) (hw : W.all (fun w => !(decide (42 ≤ w.1) && decide (w.1 ≤ 199))) = true) : HIS A M2 := his_fr h fun x j x1 x2 => hf x j (fun hm => by have := List.all_eq_true.mp hw _ hm; simp at this; omega) (fun hm => by have := List.all_eq_true.mp hw _ hm; simp at this; omega)
theorem cs_th_fr {M : gm_M} {f t l r : Int} : fr [(10, some 3), (11, none)] M (cs_th3 M f t l r) := by
  unfold cs_th3
  exact fr_p (fr_p (fr_p (fr_p (fr_p (fr_p (fr_p (fr_p fr_0 (Or.inr (by decide))) (Or.inl (by decide))) (Or.inl (by decide))) (Or.inl (by decide))) (Or.inl (by decide))) (Or.inl (by decide))) (Or.inl (by decide))) (Or.inl (by decide))
section AC13
variable {X : Int → Int} {LX d bc bs n : Nat} {K : gm_K} {R : gm_R} {M : gm_M} {Q : gm_Q} {l p f t v w : Int} {N h : Int → Int} {sp : Int → Int → Int} {FI : gm_M → Prop} {φ : Int → Int → Int → Int} {Ψ : (Int → Int) → Int → Int → Int → Int → Prop} {o dd : Int → Int} {A : List (Int → Int)}
theorem ac_152 (hd : 12 ≤ d) (hbc : 4 ≤ bc) (hbs : 24 ≤ bs) (hE : E0 n K R) (hT : TI N h sp M) (hN : NR N) (hH : HIS A M) (hf : gm_ir f) (ht : gm_ir t) (q3 : ¬ ((0 ≤ f ∧ f < N 3) ∧ (0 ≤ t ∧ t < N 3)) → Q (.inr 3) n K R M) (q0 : 0 ≤ f ∧ f < N 3 → 0 ≤ t ∧ t < N 3 → f = t → Q (.inr 0) n K R M) (q1 : 0 ≤ f ∧ f < N 3 → 0 ≤ t ∧ t < N 3 → ¬ f = t → N 4 = 24 → Q (.inr 1) n K R M) (hq : 0 ≤ f ∧ f < N 3 → 0 ≤ t ∧ t < N 3 → ¬ f = t → N 4 < 24 → ∀ (p : Nat) (M2 : gm_M), p < 12 → (M 42 1 = (p : Int) ∧ M2 42 1 = ((p : Int) + 1) % 12) → HIS ((N :: A).take 12) M2 → CST M2 → cs M2 3 = nthr N f t ((N (95 + (f * 3 + 0)))) ((N (95 + (f * 3 + 1)))) → M2 1 15 = 0 → (∀ (x : Nat) (j : Int), x < 42 ∨ 199 < x → ¬ x = 10 → ¬ x = 11 → ¬ (x = 1 ∧ j = 15) → M2 x j = M x j) → Q (.inl (some (gm_vi (N 4)))) n K (gm_uR R (44 + 13 * p) 8 (R 3 8)) M2) : gm_Wp X LX d bc bs 152 0 (gm_ent 152 [gm_vr 1, gm_vi f, gm_vi t]) [] n K R M Q := by
  obtain ⟨⟨⟨a0, b0⟩, ⟨a1, b1⟩, ⟨a10, b10⟩, ⟨a11, b11⟩, ⟨a12, b12⟩, a9, b9⟩, ⟨⟨a2, b2⟩, ⟨a5, b5⟩, ⟨a3, b3⟩, ⟨a4, b4⟩, ⟨a6, b6⟩, ⟨a14, b14⟩, ⟨a7, b7⟩, a13, b13⟩, rF, rP, rL⟩ := id hN
  refine gm_sz (gm_p_load (pc := 0) (i := .aload_n 0) (sr := 2) (j := 0) (by decide +kernel) rfl rfl rfl) ?_
  refine gm_sz (gm_p_load (pc := 1) (i := .iload_n 1) (sr := 0) (j := 1) (by decide +kernel) rfl rfl rfl) ?_
  refine gm_c_virt (k := 1) (ci := 0) (mj := 139) (ix := 180) (pc := 2) (as := [gm_vi f]) (st := []) (d' := d - 1) (bc' := 1) (bs' := 6) (by decide +kernel) (by decide +kernel) (by decide +kernel) (by decide +kernel) (e0k hE (k := 1) (c := 0) (by decide +kernel)).1 (e0k hE (k := 1) (c := 0) (by decide +kernel)).2 (by decide) (by decide +kernel) (show 1 = gm_na 139 by decide +kernel) (fw_c1 fw_si) (show 2 ≤ gm_ml 139 by decide +kernel) (Nat.le_of_ble_eq_true rfl) (by omega) (by omega) (by omega) ?_
  refine nd_139 (i := f) (by omega) (by omega) (by omega) hE hT hN hf (fun c2 => ?_) (fun c2 => ?_)
  · show gm_Wp X LX d _ _ 152 5 _ [] n K _ _ Q
    have c2 : 0 ≤ f ∧ f < N 3 := c2
    refine gm_sz (gm_p_load (pc := 5) (i := .aload_n 0) (sr := 2) (j := 0) (by decide +kernel) rfl rfl rfl) ?_
    refine gm_sz (gm_p_load (pc := 6) (i := .iload_n 2) (sr := 0) (j := 2) (by decide +kernel) rfl rfl rfl) ?_
    refine gm_c_virt (k := 1) (ci := 0) (mj := 139) (ix := 180) (pc := 7) (as := [gm_vi t]) (st := []) (d' := d - 1) (bc' := 1) (bs' := 6) (by decide +kernel) (by decide +kernel) (by decide +kernel) (by decide +kernel) (e0k hE (k := 1) (c := 0) (by decide +kernel)).1 (e0k hE (k := 1) (c := 0) (by decide +kernel)).2 (by decide) (by decide +kernel) (show 1 = gm_na 139 by decide +kernel) (fw_c1 fw_si) (show 2 ≤ gm_ml 139 by decide +kernel) (Nat.le_of_ble_eq_true rfl) (by omega) (by omega) (by omega) ?_
    refine nd_139 (i := t) (by omega) (by omega) (by omega) hE hT hN ht (fun c7 => ?_) (fun c7 => ?_)
    · show gm_Wp X LX d _ _ 152 10 _ [] n K _ _ Q
      have c7 : 0 ≤ t ∧ t < N 3 := c7
      refine gm_sz (gm_p_load (pc := 10) (i := .aload_n 0) (sr := 2) (j := 0) (by decide +kernel) rfl rfl rfl) ?_
      refine gm_sz (gm_p_load (pc := 11) (i := .iload_n 1) (sr := 0) (j := 1) (by decide +kernel) rfl rfl rfl) ?_
      refine gm_sz (gm_p_load (pc := 12) (i := .iload_n 2) (sr := 0) (j := 2) (by decide +kernel) rfl rfl rfl) ?_
      refine gm_c_virt (k := 1) (ci := 0) (mj := 153) (ix := 234) (pc := 13) (as := [gm_vi f, gm_vi t]) (st := []) (d' := d - 1) (bc' := 1) (bs' := 6) (by decide +kernel) (by decide +kernel) (by decide +kernel) (by decide +kernel) (e0k hE (k := 1) (c := 0) (by decide +kernel)).1 (e0k hE (k := 1) (c := 0) (by decide +kernel)).2 (by decide) (by decide +kernel) (show 2 = gm_na 153 by decide +kernel) (fw_c2 fw_si fw_si) (show 3 ≤ gm_ml 153 by decide +kernel) (Nat.le_of_ble_eq_true rfl) (by omega) (by omega) (by omega) ?_
      refine nd_153 (x := f) (y := t) (by omega) (by omega) (by omega) hf ht (fun c13 => ?_) (fun c13 => ?_)
      · show gm_Wp X LX d _ _ 152 16 _ [] n K _ _ Q
        have c13 : ¬ f = t := c13
        refine gm_sz (gm_p_load (pc := 16) (i := .aload_n 0) (sr := 2) (j := 0) (by decide +kernel) rfl rfl rfl) ?_
        refine gm_sz (fw_gr (pc := 17) (ix := 23) (ci := 0) (j := 3) (r := 3) (by decide +kernel) (e0k hE (k := 1) (c := 0) (by decide +kernel)) (by decide +kernel) (by decide +kernel) (e0r hE (k := 1) (j := 3) (r := 3) (by decide +kernel))) ?_
        refine gm_sz (fw_gr (pc := 20) (ix := 203) (ci := 1) (j := 12) (r := 10) (by decide +kernel) (e0k hE (k := 3) (c := 1) (by decide +kernel)) (by decide +kernel) (by decide +kernel) (e0r hE (k := 3) (j := 12) (r := 10) (by decide +kernel))) ?_
        refine gm_c_virt (k := 10) (ci := 2) (mj := 108) (ix := 237) (pc := 23) (as := []) (st := []) (d' := d - 1) (bc' := 0) (bs' := 0) (by decide +kernel) (by decide +kernel) (by decide +kernel) (by decide +kernel) (e0k hE (k := 10) (c := 2) (by decide +kernel)).1 (e0k hE (k := 10) (c := 2) (by decide +kernel)).2 (by decide) (by decide +kernel) (show 0 = gm_na 108 by decide +kernel) fw_c0 (show 1 ≤ gm_ml 108 by decide +kernel) (Nat.le_of_ble_eq_true rfl) (by omega) (Nat.zero_le _) (Nat.zero_le _) ?_
        refine rw_full (s := N 4) (m := 24) (e0k hE (k := 10) (c := 2) (by decide +kernel)) (ti_let hT) (hT.1 (10, 0, 24) (by decide)) ⟨⟨by omega, by omega⟩, ⟨by decide, by decide⟩⟩ (fun f23 => ?_) (fun f23 => ?_)
        · show gm_Wp X LX d _ _ 152 26 _ [gm_vi 1] n K _ _ Q
          have f23 : 24 ≤ N 4 := f23
          refine fw_iffd (cc := .eq) (pc := 26) (off := 13) (by decide +kernel) (by decide) ⟨by decide, by decide⟩ (by decide) ?_
          exact gm_throw (ik := 131) (is := 241) (ic := 135) (x := 1) (id := 37) (lw := false) (by decide +kernel) (by decide +kernel) (by decide +kernel) (by decide +kernel) (by decide +kernel) (by decide +kernel) (by decide +kernel) (by decide +kernel) (Nat.le_of_ble_eq_true rfl) (by omega) (by omega) (by omega) (q1 (by omega) (by omega) (by omega) (by omega))
        · show gm_Wp X LX d _ _ 152 26 _ [gm_vi 0] n K _ _ Q
          have f23 : N 4 < 24 := f23
          refine fw_iftd (cc := .eq) (pc := 26) (off := 13) (by decide +kernel) (by decide) ⟨by decide, by decide⟩ (by decide) ?_
          refine gm_sz (gm_p_load (pc := 39) (i := .aload_n 0) (sr := 2) (j := 0) (by decide +kernel) rfl rfl rfl) ?_
          refine gm_sz (fw_gr (pc := 40) (ix := 40) (ci := 0) (j := 7) (r := 42) (by decide +kernel) (e0k hE (k := 1) (c := 0) (by decide +kernel)) (by decide +kernel) (by decide +kernel) (e0r hE (k := 1) (j := 7) (r := 42) (by decide +kernel))) ?_
          refine gm_sz (gm_p_load (pc := 43) (i := .aload_n 0) (sr := 2) (j := 0) (by decide +kernel) rfl rfl rfl) ?_
          refine gm_sz (fw_gr (pc := 44) (ix := 23) (ci := 0) (j := 3) (r := 3) (by decide +kernel) (e0k hE (k := 1) (c := 0) (by decide +kernel)) (by decide +kernel) (by decide +kernel) (e0r hE (k := 1) (j := 3) (r := 3) (by decide +kernel))) ?_
          refine gm_c_virt (k := 42) (ci := 3) (mj := 154) (ix := 243) (pc := 47) (as := [gm_vr 3]) (st := []) (d' := d - 1) (bc' := 0) (bs' := 0) (by decide +kernel) (by decide +kernel) (by decide +kernel) (by decide +kernel) (e0k hE (k := 42) (c := 3) (by decide +kernel)).1 (e0k hE (k := 42) (c := 3) (by decide +kernel)).2 (by decide) (by decide +kernel) (show 1 = gm_na 154 by decide +kernel) (fw_c1 fw_sr) (show 2 ≤ gm_ml 154 by decide +kernel) (Nat.le_of_ble_eq_true rfl) (by omega) (Nat.zero_le _) (Nat.zero_le _) ?_
          refine rem_c154 (by omega) hE hT hN hH (fun p47 M47 hp47 hk47 hs47 ht47 hx47 => ?_)
          show gm_Wp X LX d _ _ 152 50 _ [] n K _ _ Q
          refine gm_sz (gm_p_load (pc := 50) (i := .aload_n 0) (sr := 2) (j := 0) (by decide +kernel) rfl rfl rfl) ?_
          refine gm_sz (gm_p_const (pc := 51) (i := .iconst 0) (v := gm_vi 0) (by decide +kernel) (by decide +kernel)) ?_
          refine gm_sz (fw_pz (pc := 52) (ix := 101) (ci := 0) (j := 15) (M' := gm_uM M47 1 15 0) (by decide +kernel) (e0k hE (k := 1) (c := 0) (by decide +kernel)) (by decide +kernel) (by decide +kernel) (by decide +kernel) (Or.inl rfl) rfl) ?_
          refine gm_sz (gm_p_load (pc := 55) (i := .aload_n 0) (sr := 2) (j := 0) (by decide +kernel) rfl rfl rfl) ?_
          refine gm_sz (fw_gr (pc := 56) (ix := 23) (ci := 0) (j := 3) (r := 3) (by decide +kernel) (e0k hE (k := 1) (c := 0) (by decide +kernel)) (by decide +kernel) (by decide +kernel) (e0r (e0h hE (v := R 3 8) hp47) (k := 1) (j := 3) (r := 3) (by decide +kernel))) ?_
          refine gm_sz (gm_p_load (pc := 59) (i := .iload_n 1) (sr := 0) (j := 1) (by decide +kernel) rfl rfl rfl) ?_
          refine gm_sz (gm_p_load (pc := 60) (i := .iload_n 2) (sr := 0) (j := 2) (by decide +kernel) rfl rfl rfl) ?_
          refine gm_sz (gm_p_load (pc := 61) (i := .aload_n 0) (sr := 2) (j := 0) (by decide +kernel) rfl rfl rfl) ?_
          refine gm_sz (fw_gr (pc := 62) (ix := 23) (ci := 0) (j := 3) (r := 3) (by decide +kernel) (e0k hE (k := 1) (c := 0) (by decide +kernel)) (by decide +kernel) (by decide +kernel) (e0r (e0h hE (v := R 3 8) hp47) (k := 1) (j := 3) (r := 3) (by decide +kernel))) ?_
          refine gm_sz (fw_gr (pc := 65) (ix := 183) (ci := 1) (j := 11) (r := 8) (by decide +kernel) (e0k hE (k := 3) (c := 1) (by decide +kernel)) (by decide +kernel) (by decide +kernel) (e0r (e0h hE (v := R 3 8) hp47) (k := 3) (j := 11) (r := 8) (by decide +kernel))) ?_
          refine gm_sz (gm_p_load (pc := 68) (i := .iload_n 1) (sr := 0) (j := 1) (by decide +kernel) rfl rfl rfl) ?_
          refine gm_sz (gm_p_const (pc := 69) (i := .iconst 0) (v := gm_vi 0) (by decide +kernel) (by decide +kernel)) ?_
          refine gm_c_virt (k := 8) (ci := 2) (mj := 10) (ix := 186) (pc := 70) (as := [gm_vi f, gm_vi 0]) (st := [gm_vi t, gm_vi f, gm_vr 3]) (d' := d - 1) (bc' := 0) (bs' := 0) (by decide +kernel) (by decide +kernel) (by decide +kernel) (by decide +kernel) (e0k hE (k := 8) (c := 2) (by decide +kernel)).1 (e0k hE (k := 8) (c := 2) (by decide +kernel)).2 (by decide) (by decide +kernel) (show 2 = gm_na 10 by decide +kernel) (fw_c2 fw_si fw_si) (show 3 ≤ gm_ml 10 by decide +kernel) (Nat.le_of_ble_eq_true rfl) (by omega) (Nat.zero_le _) (Nat.zero_le _) ?_
          refine rw_get (s := N 3) (w := 3) (x := N (95 + (f * 3 + 0))) (e0k (e0h hE (v := R 3 8) hp47) (k := 8) (c := 2) (by decide +kernel)) (e0a (e0h hE (v := R 3 8) hp47) (k := 9) (q := (0, 24)) (by decide +kernel)) (e0r (e0h hE (v := R 3 8) hp47) (k := 8) (j := 2) (r := 9) (by decide +kernel)) (by decide) ((uM_ne (by omega)).trans ((hx47 _ _ (by omega)).trans (ti_peo hT))) ((uM_ne (by omega)).trans ((hx47 _ _ (by omega)).trans (hT.1 (8, 1, 3) (by decide)))) ⟨by omega, by omega⟩ ⟨by omega, by omega⟩ ⟨by omega, by omega⟩ ⟨by omega, by omega⟩ ((uM_ne (by omega)).trans ((hx47 _ _ (by omega)).trans (ti_aP hT (by omega) (by omega)))) ?_
          show gm_Wp X LX d _ _ 152 73 _ [gm_vi (N (95 + (f * 3 + 0))), gm_vi t, gm_vi f, gm_vr 3] n K _ _ Q
          refine gm_sz (gm_p_load (pc := 73) (i := .aload_n 0) (sr := 2) (j := 0) (by decide +kernel) rfl rfl rfl) ?_
          refine gm_sz (fw_gr (pc := 74) (ix := 23) (ci := 0) (j := 3) (r := 3) (by decide +kernel) (e0k hE (k := 1) (c := 0) (by decide +kernel)) (by decide +kernel) (by decide +kernel) (e0r (e0h hE (v := R 3 8) hp47) (k := 1) (j := 3) (r := 3) (by decide +kernel))) ?_
          refine gm_sz (fw_gr (pc := 77) (ix := 183) (ci := 1) (j := 11) (r := 8) (by decide +kernel) (e0k hE (k := 3) (c := 1) (by decide +kernel)) (by decide +kernel) (by decide +kernel) (e0r (e0h hE (v := R 3 8) hp47) (k := 3) (j := 11) (r := 8) (by decide +kernel))) ?_
          refine gm_sz (gm_p_load (pc := 80) (i := .iload_n 1) (sr := 0) (j := 1) (by decide +kernel) rfl rfl rfl) ?_
          refine gm_sz (gm_p_const (pc := 81) (i := .iconst 1) (v := gm_vi 1) (by decide +kernel) (by decide +kernel)) ?_
          refine gm_c_virt (k := 8) (ci := 2) (mj := 10) (ix := 186) (pc := 82) (as := [gm_vi f, gm_vi 1]) (st := [gm_vi (N (95 + (f * 3 + 0))), gm_vi t, gm_vi f, gm_vr 3]) (d' := d - 1) (bc' := 0) (bs' := 0) (by decide +kernel) (by decide +kernel) (by decide +kernel) (by decide +kernel) (e0k hE (k := 8) (c := 2) (by decide +kernel)).1 (e0k hE (k := 8) (c := 2) (by decide +kernel)).2 (by decide) (by decide +kernel) (show 2 = gm_na 10 by decide +kernel) (fw_c2 fw_si fw_si) (show 3 ≤ gm_ml 10 by decide +kernel) (Nat.le_of_ble_eq_true rfl) (by omega) (Nat.zero_le _) (Nat.zero_le _) ?_
          refine rw_get (s := N 3) (w := 3) (x := N (95 + (f * 3 + 1))) (e0k (e0h hE (v := R 3 8) hp47) (k := 8) (c := 2) (by decide +kernel)) (e0a (e0h hE (v := R 3 8) hp47) (k := 9) (q := (0, 24)) (by decide +kernel)) (e0r (e0h hE (v := R 3 8) hp47) (k := 8) (j := 2) (r := 9) (by decide +kernel)) (by decide) ((uM_ne (by omega)).trans ((hx47 _ _ (by omega)).trans (ti_peo hT))) ((uM_ne (by omega)).trans ((hx47 _ _ (by omega)).trans (hT.1 (8, 1, 3) (by decide)))) ⟨by omega, by omega⟩ ⟨by omega, by omega⟩ ⟨by omega, by omega⟩ ⟨by omega, by omega⟩ ((uM_ne (by omega)).trans ((hx47 _ _ (by omega)).trans (ti_aP hT (by omega) (by omega)))) ?_
          show gm_Wp X LX d _ _ 152 85 _ [gm_vi (N (95 + (f * 3 + 1))), gm_vi (N (95 + (f * 3 + 0))), gm_vi t, gm_vi f, gm_vr 3] n K _ _ Q
          refine gm_c_virt (k := 3) (ci := 1) (mj := 119) (ix := 246) (pc := 85) (as := [gm_vi f, gm_vi t, gm_vi (N (95 + (f * 3 + 0))), gm_vi (N (95 + (f * 3 + 1)))]) (st := []) (d' := d - 1) (bc' := 0) (bs' := 0) (by decide +kernel) (by decide +kernel) (by decide +kernel) (by decide +kernel) (e0k hE (k := 3) (c := 1) (by decide +kernel)).1 (e0k hE (k := 3) (c := 1) (by decide +kernel)).2 (by decide) (by decide +kernel) (show 4 = gm_na 119 by decide +kernel) (fw_c4 fw_si fw_si fw_si fw_si) (show 5 ≤ gm_ml 119 by decide +kernel) (Nat.le_of_ble_eq_true rfl) (by omega) (Nat.zero_le _) (Nat.zero_le _) ?_
          refine cs_thr3 (by omega) (e0h hE (v := R 3 8) hp47) (cst_fr (W := [(1, some 15)]) ht47.1 (fr_p fr_0 (Or.inr (by decide))) (by decide +kernel)) (by rw [ti_let (ti_fr (W := [(1, some 15)]) ht47 (fr_p fr_0 (Or.inr (by decide))) (by decide) (by decide +kernel))]; omega) ?_
          show gm_Wp X LX d _ _ 152 88 _ [gm_vi ((gm_uM M47 1 15 0) 10 3)] n K _ _ Q
          rw [show (gm_uM M47 1 15 0) 10 3 = N 4 from ti_let (ti_fr (W := [(1, some 15)]) ht47 (fr_p fr_0 (Or.inr (by decide))) (by decide) (by decide +kernel))]
          refine gm_r_int (pc := 88) (by decide +kernel) (Or.inl (by decide +kernel)) (hq ⟨by omega, by omega⟩ ⟨by omega, by omega⟩ (by omega) (by omega) p47 (cs_th3 (gm_uM M47 1 15 0) f t (N (95 + (f * 3 + 0))) (N (95 + (f * 3 + 1)))) hp47 ⟨hk47.1, (((fr_c cs_th_fr (by decide)).trans ((uM_ne (by omega)).trans rfl))).trans hk47.2⟩ (his_w (W := [(1, some 15), (10, some 3), (11, none)]) hs47 (fr_t (fr_p fr_0 (Or.inr (by decide))) cs_th_fr (by decide)) (by decide)) (cst_fr (W := [(1, some 15), (10, some 3), (11, none)]) ht47.1 (fr_t (fr_p fr_0 (Or.inr (by decide))) cs_th_fr (by decide)) (by decide +kernel)) (cs_th_n (ti_fr (W := [(1, some 15)]) ht47 (fr_p fr_0 (Or.inr (by decide))) (by decide) (by decide +kernel)).2.1 ⟨by omega, by omega⟩) ((fr_c cs_th_fr (by decide)).trans uM_at) (fun x j hx h10 h11 h15 => ?_))
          exact ((cs_th_fr x j (by intro hm; simp at hm; omega) (by intro hm; simp at hm; omega)).trans ((uM_ne (fun hh => h15 ⟨hh.1, hh.2⟩)).trans (hx47 x j hx)))
      · show Q (.inr 0) n K _ _
        have c13 : f = t := Classical.not_not.mp c13
        exact (q0 (by omega) (by omega) (by omega))
    · show Q (.inr 3) n K _ _
      have c7 : ¬ (0 ≤ t ∧ t < N 3) := c7
      exact (q3 (by omega))
  · show Q (.inr 3) n K _ _
    have c2 : ¬ (0 ≤ f ∧ f < N 3) := c2
    exact (q3 (by omega))
theorem ac_156 (hd : 12 ≤ d) (hbc : 4 ≤ bc) (hbs : 24 ≤ bs) (hE : E0 n K R) (hT : TI N h sp M) (hN : NR N) (hH : HIS A M) (hf : gm_ir p) (ht : gm_ir l) (q3 : ¬ ((0 ≤ p ∧ p < N 3) ∧ (l = -1 ∨ (0 ≤ l ∧ l < N 0))) → Q (.inr 3) n K R M) (hq : 0 ≤ p ∧ p < N 3 → (l = -1 ∨ (0 ≤ l ∧ l < N 0)) → ∀ (p9 : Nat) (M2 : gm_M), p9 < 12 → (M 42 1 = (p9 : Int) ∧ M2 42 1 = ((p9 : Int) + 1) % 12) → HIS ((N :: A).take 12) M2 → CST M2 → cs M2 3 = nwat N p l → (∀ (x : Nat) (j : Int), x < 42 ∨ 199 < x → ¬ x = 9 → M2 x j = M x j) → Q (.inl (some (gm_vi ((N (95 + (p * 3 + 2))))))) n K (gm_uR R (44 + 13 * p9) 8 (R 3 8)) M2) : gm_Wp X LX d bc bs 156 0 (gm_ent 156 [gm_vr 1, gm_vi p, gm_vi l]) [] n K R M Q := by
  obtain ⟨⟨⟨a0, b0⟩, ⟨a1, b1⟩, ⟨a10, b10⟩, ⟨a11, b11⟩, ⟨a12, b12⟩, a9, b9⟩, ⟨⟨a2, b2⟩, ⟨a5, b5⟩, ⟨a3, b3⟩, ⟨a4, b4⟩, ⟨a6, b6⟩, ⟨a14, b14⟩, ⟨a7, b7⟩, a13, b13⟩, rF, rP, rL⟩ := id hN
  refine gm_sz (gm_p_load (pc := 0) (i := .aload_n 0) (sr := 2) (j := 0) (by decide +kernel) rfl rfl rfl) ?_
  refine gm_sz (gm_p_load (pc := 1) (i := .iload_n 1) (sr := 0) (j := 1) (by decide +kernel) rfl rfl rfl) ?_
  refine gm_c_virt (k := 1) (ci := 0) (mj := 139) (ix := 180) (pc := 2) (as := [gm_vi p]) (st := []) (d' := d - 1) (bc' := 1) (bs' := 6) (by decide +kernel) (by decide +kernel) (by decide +kernel) (by decide +kernel) (e0k hE (k := 1) (c := 0) (by decide +kernel)).1 (e0k hE (k := 1) (c := 0) (by decide +kernel)).2 (by decide) (by decide +kernel) (show 1 = gm_na 139 by decide +kernel) (fw_c1 fw_si) (show 2 ≤ gm_ml 139 by decide +kernel) (Nat.le_of_ble_eq_true rfl) (by omega) (by omega) (by omega) ?_
  refine nd_139 (i := p) (by omega) (by omega) (by omega) hE hT hN hf (fun c2 => ?_) (fun c2 => ?_)
  · show gm_Wp X LX d _ _ 156 5 _ [] n K _ _ Q
    have c2 : 0 ≤ p ∧ p < N 3 := c2
    refine gm_sz (gm_p_load (pc := 5) (i := .iload_n 2) (sr := 0) (j := 2) (by decide +kernel) rfl rfl rfl) ?_
    refine gm_sz (gm_p_const (pc := 6) (i := .iconst (-1)) (v := gm_vi (-1)) (by decide +kernel) (by decide +kernel)) ?_
    refine fw_ic (cc := .eq) (pc := 7) (off := 8) (by decide +kernel) (by decide) ht ⟨by decide, by decide⟩ (fun h7 => ?_) (fun h7 => ?_)
    · have h7 : l = (-1) := h7
      refine gm_sz (gm_p_load (pc := 15) (i := .aload_n 0) (sr := 2) (j := 0) (by decide +kernel) rfl rfl rfl) ?_
      refine gm_sz (fw_gr (pc := 16) (ix := 40) (ci := 0) (j := 7) (r := 42) (by decide +kernel) (e0k hE (k := 1) (c := 0) (by decide +kernel)) (by decide +kernel) (by decide +kernel) (e0r hE (k := 1) (j := 7) (r := 42) (by decide +kernel))) ?_
      refine gm_sz (gm_p_load (pc := 19) (i := .aload_n 0) (sr := 2) (j := 0) (by decide +kernel) rfl rfl rfl) ?_
      refine gm_sz (fw_gr (pc := 20) (ix := 23) (ci := 0) (j := 3) (r := 3) (by decide +kernel) (e0k hE (k := 1) (c := 0) (by decide +kernel)) (by decide +kernel) (by decide +kernel) (e0r hE (k := 1) (j := 3) (r := 3) (by decide +kernel))) ?_
      refine gm_c_virt (k := 42) (ci := 3) (mj := 154) (ix := 243) (pc := 23) (as := [gm_vr 3]) (st := []) (d' := d - 1) (bc' := 0) (bs' := 0) (by decide +kernel) (by decide +kernel) (by decide +kernel) (by decide +kernel) (e0k hE (k := 42) (c := 3) (by decide +kernel)).1 (e0k hE (k := 42) (c := 3) (by decide +kernel)).2 (by decide) (by decide +kernel) (show 1 = gm_na 154 by decide +kernel) (fw_c1 fw_sr) (show 2 ≤ gm_ml 154 by decide +kernel) (Nat.le_of_ble_eq_true rfl) (by omega) (Nat.zero_le _) (Nat.zero_le _) ?_
      refine rem_c154 (by omega) hE hT hN hH (fun p23 M23 hp23 hk23 hs23 ht23 hx23 => ?_)
      show gm_Wp X LX d _ _ 156 26 _ [] n K _ _ Q
      refine gm_sz (gm_p_load (pc := 26) (i := .aload_n 0) (sr := 2) (j := 0) (by decide +kernel) rfl rfl rfl) ?_
      refine gm_sz (fw_gr (pc := 27) (ix := 23) (ci := 0) (j := 3) (r := 3) (by decide +kernel) (e0k hE (k := 1) (c := 0) (by decide +kernel)) (by decide +kernel) (by decide +kernel) (e0r (e0h hE (v := R 3 8) hp23) (k := 1) (j := 3) (r := 3) (by decide +kernel))) ?_
      refine gm_sz (fw_gr (pc := 30) (ix := 183) (ci := 1) (j := 11) (r := 8) (by decide +kernel) (e0k hE (k := 3) (c := 1) (by decide +kernel)) (by decide +kernel) (by decide +kernel) (e0r (e0h hE (v := R 3 8) hp23) (k := 3) (j := 11) (r := 8) (by decide +kernel))) ?_
      refine gm_sz (gm_p_load (pc := 33) (i := .iload_n 1) (sr := 0) (j := 1) (by decide +kernel) rfl rfl rfl) ?_
      refine gm_sz (gm_p_const (pc := 34) (i := .iconst 2) (v := gm_vi 2) (by decide +kernel) (by decide +kernel)) ?_
      refine gm_c_virt (k := 8) (ci := 2) (mj := 10) (ix := 186) (pc := 35) (as := [gm_vi p, gm_vi 2]) (st := []) (d' := d - 1) (bc' := 0) (bs' := 0) (by decide +kernel) (by decide +kernel) (by decide +kernel) (by decide +kernel) (e0k hE (k := 8) (c := 2) (by decide +kernel)).1 (e0k hE (k := 8) (c := 2) (by decide +kernel)).2 (by decide) (by decide +kernel) (show 2 = gm_na 10 by decide +kernel) (fw_c2 fw_si fw_si) (show 3 ≤ gm_ml 10 by decide +kernel) (Nat.le_of_ble_eq_true rfl) (by omega) (Nat.zero_le _) (Nat.zero_le _) ?_
      refine rw_get (s := N 3) (w := 3) (x := N (95 + (p * 3 + 2))) (e0k (e0h hE (v := R 3 8) hp23) (k := 8) (c := 2) (by decide +kernel)) (e0a (e0h hE (v := R 3 8) hp23) (k := 9) (q := (0, 24)) (by decide +kernel)) (e0r (e0h hE (v := R 3 8) hp23) (k := 8) (j := 2) (r := 9) (by decide +kernel)) (by decide) ((hx23 _ _ (by omega)).trans (ti_peo hT)) ((hx23 _ _ (by omega)).trans (hT.1 (8, 1, 3) (by decide))) ⟨by omega, by omega⟩ ⟨by omega, by omega⟩ ⟨by omega, by omega⟩ ⟨by omega, by omega⟩ ((hx23 _ _ (by omega)).trans (ti_aP hT (by omega) (by omega))) ?_
      show gm_Wp X LX d _ _ 156 38 _ [gm_vi (N (95 + (p * 3 + 2)))] n K _ _ Q
      refine gm_sz (gm_p_stor (pc := 38) (i := .istore_n 3) (sr := 0) (j := 3) (by decide +kernel) rfl (show 4 ≤ _ from Nat.le_of_ble_eq_true rfl) rfl) ?_
      refine gm_sz (gm_p_load (pc := 39) (i := .aload_n 0) (sr := 2) (j := 0) (by decide +kernel) rfl rfl rfl) ?_
      refine gm_sz (fw_gr (pc := 40) (ix := 23) (ci := 0) (j := 3) (r := 3) (by decide +kernel) (e0k hE (k := 1) (c := 0) (by decide +kernel)) (by decide +kernel) (by decide +kernel) (e0r (e0h hE (v := R 3 8) hp23) (k := 1) (j := 3) (r := 3) (by decide +kernel))) ?_
      refine gm_sz (fw_gr (pc := 43) (ix := 183) (ci := 1) (j := 11) (r := 8) (by decide +kernel) (e0k hE (k := 3) (c := 1) (by decide +kernel)) (by decide +kernel) (by decide +kernel) (e0r (e0h hE (v := R 3 8) hp23) (k := 3) (j := 11) (r := 8) (by decide +kernel))) ?_
      refine gm_sz (gm_p_load (pc := 46) (i := .iload_n 1) (sr := 0) (j := 1) (by decide +kernel) rfl rfl rfl) ?_
      refine gm_sz (gm_p_const (pc := 47) (i := .iconst 2) (v := gm_vi 2) (by decide +kernel) (by decide +kernel)) ?_
      refine gm_sz (gm_p_load (pc := 48) (i := .iload_n 2) (sr := 0) (j := 2) (by decide +kernel) rfl rfl rfl) ?_
      refine gm_c_virt (k := 8) (ci := 2) (mj := 45) (ix := 250) (pc := 49) (as := [gm_vi p, gm_vi 2, gm_vi l]) (st := []) (d' := d - 1) (bc' := 0) (bs' := 0) (by decide +kernel) (by decide +kernel) (by decide +kernel) (by decide +kernel) (e0k hE (k := 8) (c := 2) (by decide +kernel)).1 (e0k hE (k := 8) (c := 2) (by decide +kernel)).2 (by decide) (by decide +kernel) (show 3 = gm_na 45 by decide +kernel) (fw_c3 fw_si fw_si fw_si) (show 4 ≤ gm_ml 45 by decide +kernel) (Nat.le_of_ble_eq_true rfl) (by omega) (Nat.zero_le _) (Nat.zero_le _) ?_
      refine rw_put (s := N 3) (w := 3) (e0k (e0h hE (v := R 3 8) hp23) (k := 8) (c := 2) (by decide +kernel)) (e0a (e0h hE (v := R 3 8) hp23) (k := 9) (q := (0, 24)) (by decide +kernel)) (e0r (e0h hE (v := R 3 8) hp23) (k := 8) (j := 2) (r := 9) (by decide +kernel)) (by decide) ((hx23 _ _ (by omega)).trans (ti_peo hT)) ((hx23 _ _ (by omega)).trans (hT.1 (8, 1, 3) (by decide))) ⟨by omega, by omega⟩ ⟨by omega, by omega⟩ ⟨by omega, by omega⟩ ⟨by omega, by omega⟩ ?_
      show gm_Wp X LX d _ _ 156 52 _ [] n K _ _ Q
      refine gm_sz (gm_p_load (pc := 52) (i := .iload_n 3) (sr := 0) (j := 3) (by decide +kernel) rfl rfl rfl) ?_
      have c9 : cs (gm_uM M23 9 (p * 3 + 2) l) 3 = nwat N p l := by
        have e9 := cs_pP (M := M23) (b := 3) (j := p * 3 + 2) (v := l) (by omega) (by omega)
        rw [ht23.2.1] at e9
        exact e9
      refine gm_r_int (pc := 53) (by decide +kernel) (Or.inl (by decide +kernel)) (hq ⟨by omega, by omega⟩ (by omega) p23 (gm_uM M23 9 (p * 3 + 2) l) hp23 ⟨hk23.1, (((uM_ne (by omega)).trans rfl)).trans hk23.2⟩ (his_w (W := [(9, none)]) hs23 (fr_p fr_0 (Or.inl (by decide))) (by decide)) (cst_fr (W := [(9, none)]) ht23.1 (fr_p fr_0 (Or.inl (by decide))) (by decide +kernel)) c9 (fun x j hx h9 => ?_))
      exact ((uM_ne (fun hh => h9 hh.1)).trans (hx23 x j hx))
    · have h7 : ¬ l = (-1) := h7
      refine gm_sz (gm_p_load (pc := 10) (i := .aload_n 0) (sr := 2) (j := 0) (by decide +kernel) rfl rfl rfl) ?_
      refine gm_sz (gm_p_load (pc := 11) (i := .iload_n 2) (sr := 0) (j := 2) (by decide +kernel) rfl rfl rfl) ?_
      refine gm_c_virt (k := 1) (ci := 0) (mj := 132) (ix := 166) (pc := 12) (as := [gm_vi l]) (st := []) (d' := d - 1) (bc' := 1) (bs' := 6) (by decide +kernel) (by decide +kernel) (by decide +kernel) (by decide +kernel) (e0k hE (k := 1) (c := 0) (by decide +kernel)).1 (e0k hE (k := 1) (c := 0) (by decide +kernel)).2 (by decide) (by decide +kernel) (show 1 = gm_na 132 by decide +kernel) (fw_c1 fw_si) (show 2 ≤ gm_ml 132 by decide +kernel) (Nat.le_of_ble_eq_true rfl) (by omega) (by omega) (by omega) ?_
      refine nd_132 (i := l) (by omega) (by omega) (by omega) hE hT hN ht (fun c12 => ?_) (fun c12 => ?_)
      · show gm_Wp X LX d _ _ 156 15 _ [] n K _ _ Q
        have c12 : 0 ≤ l ∧ l < N 0 := c12
        refine gm_sz (gm_p_load (pc := 15) (i := .aload_n 0) (sr := 2) (j := 0) (by decide +kernel) rfl rfl rfl) ?_
        refine gm_sz (fw_gr (pc := 16) (ix := 40) (ci := 0) (j := 7) (r := 42) (by decide +kernel) (e0k hE (k := 1) (c := 0) (by decide +kernel)) (by decide +kernel) (by decide +kernel) (e0r hE (k := 1) (j := 7) (r := 42) (by decide +kernel))) ?_
        refine gm_sz (gm_p_load (pc := 19) (i := .aload_n 0) (sr := 2) (j := 0) (by decide +kernel) rfl rfl rfl) ?_
        refine gm_sz (fw_gr (pc := 20) (ix := 23) (ci := 0) (j := 3) (r := 3) (by decide +kernel) (e0k hE (k := 1) (c := 0) (by decide +kernel)) (by decide +kernel) (by decide +kernel) (e0r hE (k := 1) (j := 3) (r := 3) (by decide +kernel))) ?_
        refine gm_c_virt (k := 42) (ci := 3) (mj := 154) (ix := 243) (pc := 23) (as := [gm_vr 3]) (st := []) (d' := d - 1) (bc' := 0) (bs' := 0) (by decide +kernel) (by decide +kernel) (by decide +kernel) (by decide +kernel) (e0k hE (k := 42) (c := 3) (by decide +kernel)).1 (e0k hE (k := 42) (c := 3) (by decide +kernel)).2 (by decide) (by decide +kernel) (show 1 = gm_na 154 by decide +kernel) (fw_c1 fw_sr) (show 2 ≤ gm_ml 154 by decide +kernel) (Nat.le_of_ble_eq_true rfl) (by omega) (Nat.zero_le _) (Nat.zero_le _) ?_
        refine rem_c154 (by omega) hE hT hN hH (fun p23 M23 hp23 hk23 hs23 ht23 hx23 => ?_)
        show gm_Wp X LX d _ _ 156 26 _ [] n K _ _ Q
        refine gm_sz (gm_p_load (pc := 26) (i := .aload_n 0) (sr := 2) (j := 0) (by decide +kernel) rfl rfl rfl) ?_
        refine gm_sz (fw_gr (pc := 27) (ix := 23) (ci := 0) (j := 3) (r := 3) (by decide +kernel) (e0k hE (k := 1) (c := 0) (by decide +kernel)) (by decide +kernel) (by decide +kernel) (e0r (e0h hE (v := R 3 8) hp23) (k := 1) (j := 3) (r := 3) (by decide +kernel))) ?_
        refine gm_sz (fw_gr (pc := 30) (ix := 183) (ci := 1) (j := 11) (r := 8) (by decide +kernel) (e0k hE (k := 3) (c := 1) (by decide +kernel)) (by decide +kernel) (by decide +kernel) (e0r (e0h hE (v := R 3 8) hp23) (k := 3) (j := 11) (r := 8) (by decide +kernel))) ?_
        refine gm_sz (gm_p_load (pc := 33) (i := .iload_n 1) (sr := 0) (j := 1) (by decide +kernel) rfl rfl rfl) ?_
        refine gm_sz (gm_p_const (pc := 34) (i := .iconst 2) (v := gm_vi 2) (by decide +kernel) (by decide +kernel)) ?_
        refine gm_c_virt (k := 8) (ci := 2) (mj := 10) (ix := 186) (pc := 35) (as := [gm_vi p, gm_vi 2]) (st := []) (d' := d - 1) (bc' := 0) (bs' := 0) (by decide +kernel) (by decide +kernel) (by decide +kernel) (by decide +kernel) (e0k hE (k := 8) (c := 2) (by decide +kernel)).1 (e0k hE (k := 8) (c := 2) (by decide +kernel)).2 (by decide) (by decide +kernel) (show 2 = gm_na 10 by decide +kernel) (fw_c2 fw_si fw_si) (show 3 ≤ gm_ml 10 by decide +kernel) (Nat.le_of_ble_eq_true rfl) (by omega) (Nat.zero_le _) (Nat.zero_le _) ?_
        refine rw_get (s := N 3) (w := 3) (x := N (95 + (p * 3 + 2))) (e0k (e0h hE (v := R 3 8) hp23) (k := 8) (c := 2) (by decide +kernel)) (e0a (e0h hE (v := R 3 8) hp23) (k := 9) (q := (0, 24)) (by decide +kernel)) (e0r (e0h hE (v := R 3 8) hp23) (k := 8) (j := 2) (r := 9) (by decide +kernel)) (by decide) ((hx23 _ _ (by omega)).trans (ti_peo hT)) ((hx23 _ _ (by omega)).trans (hT.1 (8, 1, 3) (by decide))) ⟨by omega, by omega⟩ ⟨by omega, by omega⟩ ⟨by omega, by omega⟩ ⟨by omega, by omega⟩ ((hx23 _ _ (by omega)).trans (ti_aP hT (by omega) (by omega))) ?_
        show gm_Wp X LX d _ _ 156 38 _ [gm_vi (N (95 + (p * 3 + 2)))] n K _ _ Q
        refine gm_sz (gm_p_stor (pc := 38) (i := .istore_n 3) (sr := 0) (j := 3) (by decide +kernel) rfl (show 4 ≤ _ from Nat.le_of_ble_eq_true rfl) rfl) ?_
        refine gm_sz (gm_p_load (pc := 39) (i := .aload_n 0) (sr := 2) (j := 0) (by decide +kernel) rfl rfl rfl) ?_
        refine gm_sz (fw_gr (pc := 40) (ix := 23) (ci := 0) (j := 3) (r := 3) (by decide +kernel) (e0k hE (k := 1) (c := 0) (by decide +kernel)) (by decide +kernel) (by decide +kernel) (e0r (e0h hE (v := R 3 8) hp23) (k := 1) (j := 3) (r := 3) (by decide +kernel))) ?_
        refine gm_sz (fw_gr (pc := 43) (ix := 183) (ci := 1) (j := 11) (r := 8) (by decide +kernel) (e0k hE (k := 3) (c := 1) (by decide +kernel)) (by decide +kernel) (by decide +kernel) (e0r (e0h hE (v := R 3 8) hp23) (k := 3) (j := 11) (r := 8) (by decide +kernel))) ?_
        refine gm_sz (gm_p_load (pc := 46) (i := .iload_n 1) (sr := 0) (j := 1) (by decide +kernel) rfl rfl rfl) ?_
        refine gm_sz (gm_p_const (pc := 47) (i := .iconst 2) (v := gm_vi 2) (by decide +kernel) (by decide +kernel)) ?_
        refine gm_sz (gm_p_load (pc := 48) (i := .iload_n 2) (sr := 0) (j := 2) (by decide +kernel) rfl rfl rfl) ?_
        refine gm_c_virt (k := 8) (ci := 2) (mj := 45) (ix := 250) (pc := 49) (as := [gm_vi p, gm_vi 2, gm_vi l]) (st := []) (d' := d - 1) (bc' := 0) (bs' := 0) (by decide +kernel) (by decide +kernel) (by decide +kernel) (by decide +kernel) (e0k hE (k := 8) (c := 2) (by decide +kernel)).1 (e0k hE (k := 8) (c := 2) (by decide +kernel)).2 (by decide) (by decide +kernel) (show 3 = gm_na 45 by decide +kernel) (fw_c3 fw_si fw_si fw_si) (show 4 ≤ gm_ml 45 by decide +kernel) (Nat.le_of_ble_eq_true rfl) (by omega) (Nat.zero_le _) (Nat.zero_le _) ?_
        refine rw_put (s := N 3) (w := 3) (e0k (e0h hE (v := R 3 8) hp23) (k := 8) (c := 2) (by decide +kernel)) (e0a (e0h hE (v := R 3 8) hp23) (k := 9) (q := (0, 24)) (by decide +kernel)) (e0r (e0h hE (v := R 3 8) hp23) (k := 8) (j := 2) (r := 9) (by decide +kernel)) (by decide) ((hx23 _ _ (by omega)).trans (ti_peo hT)) ((hx23 _ _ (by omega)).trans (hT.1 (8, 1, 3) (by decide))) ⟨by omega, by omega⟩ ⟨by omega, by omega⟩ ⟨by omega, by omega⟩ ⟨by omega, by omega⟩ ?_
        show gm_Wp X LX d _ _ 156 52 _ [] n K _ _ Q
        refine gm_sz (gm_p_load (pc := 52) (i := .iload_n 3) (sr := 0) (j := 3) (by decide +kernel) rfl rfl rfl) ?_
        have c9 : cs (gm_uM M23 9 (p * 3 + 2) l) 3 = nwat N p l := by
          have e9 := cs_pP (M := M23) (b := 3) (j := p * 3 + 2) (v := l) (by omega) (by omega)
          rw [ht23.2.1] at e9
          exact e9
        refine gm_r_int (pc := 53) (by decide +kernel) (Or.inl (by decide +kernel)) (hq ⟨by omega, by omega⟩ (by omega) p23 (gm_uM M23 9 (p * 3 + 2) l) hp23 ⟨hk23.1, (((uM_ne (by omega)).trans rfl)).trans hk23.2⟩ (his_w (W := [(9, none)]) hs23 (fr_p fr_0 (Or.inl (by decide))) (by decide)) (cst_fr (W := [(9, none)]) ht23.1 (fr_p fr_0 (Or.inl (by decide))) (by decide +kernel)) c9 (fun x j hx h9 => ?_))
        exact ((uM_ne (fun hh => h9 hh.1)).trans (hx23 x j hx))
      · show Q (.inr 3) n K _ _
        have c12 : ¬ (0 ≤ l ∧ l < N 0) := c12
        exact (q3 (by omega))
  · show Q (.inr 3) n K _ _
    have c2 : ¬ (0 ≤ p ∧ p < N 3) := c2
    exact (q3 (by omega))
theorem cs_op_y {M : gm_M} {l p j : Int} (h : ¬ (j = l * 7 + 5 ∨ j = l * 7 + 6)) : cs_op M l p 11 j = M 11 j := by
  unfold cs_op
  rw [uM_ne (by omega), uM_ne (by omega), uM_ne (by omega), uM_ne (by omega), uM_ne (by omega), uM_ne (by omega)]
theorem ac_158 (hd : 24 ≤ d) (hbc : 4 ≤ bc) (hbs : 24 ≤ bs) (hE : E0 n K R) (hT : TI N h sp M) (hN : NR N) (hg : LOGI N) (hH : HIS A M) (hfw : FLW X LX n K R N h sp FI φ) (hI : FI M) (hk : M 1 15 = 0 ∨ (M 1 15 = 1 ∧ ENDS N h φ M)) (hl : gm_ir l) (q3 : ¬ (0 ≤ l ∧ l < N 4) → Q (.inr 3) n K R M) (q2 : 0 ≤ l ∧ l < N 4 → ∀ (o9 d9 : Int) (M2 : gm_M), OUTR N h φ l o9 d9 → ¬ WTS N l o9 → fr [(206, some 2), (206, some 3), (206, some 4), (206, some 5), (206, some 6), (206, some 7), (206, some 8), (200, some 6), (204, none), (205, none), (220, some 3), (221, none), (1, some 15)] M M2 → FI M2 → M2 1 15 = 1 → ENDS N h φ M2 → Q (.inr 2) n K R M2) (hq : 0 ≤ l ∧ l < N 4 → ∀ (o9 d9 : Int) (p : Nat) (M1 M2 : gm_M), OUTR N h φ l o9 d9 → WTS N l o9 → fr [(206, some 2), (206, some 3), (206, some 4), (206, some 5), (206, some 6), (206, some 7), (206, some 8), (200, some 6), (204, none), (205, none), (220, some 3), (221, none), (1, some 15)] M M1 → FI M1 → M1 1 15 = 1 → ENDS N h φ M1 → p < 12 → (M1 42 1 = (p : Int) ∧ M2 42 1 = ((p : Int) + 1) % 12) → HIS ((N :: A).take 12) M2 → CST M2 → cs M2 3 = nopn N l ((N (119 + (l * 7 + 1)))) → (∀ (x : Nat) (j : Int), x < 42 ∨ 199 < x → ¬ x = 11 → ¬ x = 14 → ¬ x = 15 → M2 x j = M1 x j) → Q (.inl (some (gm_vi (N 9 - (N (119 + (l * 7 + 3))))))) n K (gm_uR R (44 + 13 * p) 8 (R 3 8)) M2) : gm_Wp X LX d bc bs 158 0 (gm_ent 158 [gm_vr 1, gm_vi l]) [] n K R M Q := by
  obtain ⟨⟨⟨a0, b0⟩, ⟨a1, b1⟩, ⟨a10, b10⟩, ⟨a11, b11⟩, ⟨a12, b12⟩, a9, b9⟩, ⟨⟨a2, b2⟩, ⟨a5, b5⟩, ⟨a3, b3⟩, ⟨a4, b4⟩, ⟨a6, b6⟩, ⟨a14, b14⟩, ⟨a7, b7⟩, a13, b13⟩, rF, rP, rL⟩ := id hN
  refine gm_sz (gm_p_load (pc := 0) (i := .aload_n 0) (sr := 2) (j := 0) (by decide +kernel) rfl rfl rfl) ?_
  refine gm_sz (gm_p_load (pc := 1) (i := .iload_n 1) (sr := 0) (j := 1) (by decide +kernel) rfl rfl rfl) ?_
  refine gm_c_virt (k := 1) (ci := 0) (mj := 143) (ix := 200) (pc := 2) (as := [gm_vi l]) (st := []) (d' := d - 1) (bc' := 1) (bs' := 6) (by decide +kernel) (by decide +kernel) (by decide +kernel) (by decide +kernel) (e0k hE (k := 1) (c := 0) (by decide +kernel)).1 (e0k hE (k := 1) (c := 0) (by decide +kernel)).2 (by decide) (by decide +kernel) (show 1 = gm_na 143 by decide +kernel) (fw_c1 fw_si) (show 2 ≤ gm_ml 143 by decide +kernel) (Nat.le_of_ble_eq_true rfl) (by omega) (by omega) (by omega) ?_
  refine nd_143 (i := l) (by omega) (by omega) (by omega) hE hT hN hl (fun c2 => ?_) (fun c2 => ?_)
  · show gm_Wp X LX d _ _ 158 5 _ [] n K _ _ Q
    have c2 : 0 ≤ l ∧ l < N 4 := c2
    refine gm_sz (gm_p_load (pc := 5) (i := .aload_n 0) (sr := 2) (j := 0) (by decide +kernel) rfl rfl rfl) ?_
    refine gm_c_virt (k := 1) (ci := 0) (mj := 24) (ix := 254) (pc := 6) (as := []) (st := []) (d' := d - 1) (bc' := 0) (bs' := 0) (by decide +kernel) (by decide +kernel) (by decide +kernel) (by decide +kernel) (e0k hE (k := 1) (c := 0) (by decide +kernel)).1 (e0k hE (k := 1) (c := 0) (by decide +kernel)).2 (by decide) (by decide +kernel) (show 0 = gm_na 24 by decide +kernel) fw_c0 (show 1 ≤ gm_ml 24 by decide +kernel) (Nat.le_of_ble_eq_true rfl) (by omega) (Nat.zero_le _) (Nat.zero_le _) ?_
    refine en_c24 (by omega) hE hT hN hfw hI (hk.elim (fun hk => by rw [hk]; exact ⟨by decide, by decide⟩) (fun hk => by rw [hk.1]; exact ⟨by decide, by decide⟩)) (fun hz => hk.resolve_left hz) (fun M24 hf24 hI24 h24 he24 => ?_)
    show gm_Wp X LX d _ _ 158 9 _ [] n K _ _ Q
    refine gm_sz (gm_p_load (pc := 9) (i := .aload_n 0) (sr := 2) (j := 0) (by decide +kernel) rfl rfl rfl) ?_
    refine gm_sz (gm_p_load (pc := 10) (i := .iload_n 1) (sr := 0) (j := 1) (by decide +kernel) rfl rfl rfl) ?_
    refine gm_c_virt (k := 1) (ci := 0) (mj := 66) (ix := 257) (pc := 11) (as := [gm_vi l]) (st := []) (d' := d - 1) (bc' := 0) (bs' := 0) (by decide +kernel) (by decide +kernel) (by decide +kernel) (by decide +kernel) (e0k hE (k := 1) (c := 0) (by decide +kernel)).1 (e0k hE (k := 1) (c := 0) (by decide +kernel)).2 (by decide) (by decide +kernel) (show 1 = gm_na 66 by decide +kernel) (fw_c1 fw_si) (show 2 ≤ gm_ml 66 by decide +kernel) (Nat.le_of_ble_eq_true rfl) (by omega) (Nat.zero_le _) (Nat.zero_le _) ?_
    refine wt_c66 (by omega) hE (ti_fr (W := [(206, some 2), (206, some 3), (206, some 4), (206, some 5), (206, some 6), (206, some 7), (206, some 8), (200, some 6), (204, none), (205, none), (220, some 3), (221, none), (1, some 15)]) hT (fr_t fr_0 hf24 (by decide)) (by decide) (by decide +kernel)) hN c2 he24.1 rfl (OUTR_b (he24.2 l c2.1 c2.2) (rL l c2.1 c2.2).2.2.2.1.1) (fun v11 => ?_) (fun v11 => ?_)
    · show gm_Wp X LX d _ _ 158 14 _ [gm_vi 1] n K _ _ Q
      refine fw_iftd (cc := .ne) (pc := 14) (off := 14) (by decide +kernel) (by decide) ⟨by decide, by decide⟩ (by decide) ?_
      refine gm_sz (gm_p_load (pc := 28) (i := .aload_n 0) (sr := 2) (j := 0) (by decide +kernel) rfl rfl rfl) ?_
      refine gm_sz (fw_gr (pc := 29) (ix := 40) (ci := 0) (j := 7) (r := 42) (by decide +kernel) (e0k hE (k := 1) (c := 0) (by decide +kernel)) (by decide +kernel) (by decide +kernel) (e0r hE (k := 1) (j := 7) (r := 42) (by decide +kernel))) ?_
      refine gm_sz (gm_p_load (pc := 32) (i := .aload_n 0) (sr := 2) (j := 0) (by decide +kernel) rfl rfl rfl) ?_
      refine gm_sz (fw_gr (pc := 33) (ix := 23) (ci := 0) (j := 3) (r := 3) (by decide +kernel) (e0k hE (k := 1) (c := 0) (by decide +kernel)) (by decide +kernel) (by decide +kernel) (e0r hE (k := 1) (j := 3) (r := 3) (by decide +kernel))) ?_
      refine gm_c_virt (k := 42) (ci := 3) (mj := 154) (ix := 243) (pc := 36) (as := [gm_vr 3]) (st := []) (d' := d - 1) (bc' := 0) (bs' := 0) (by decide +kernel) (by decide +kernel) (by decide +kernel) (by decide +kernel) (e0k hE (k := 42) (c := 3) (by decide +kernel)).1 (e0k hE (k := 42) (c := 3) (by decide +kernel)).2 (by decide) (by decide +kernel) (show 1 = gm_na 154 by decide +kernel) (fw_c1 fw_sr) (show 2 ≤ gm_ml 154 by decide +kernel) (Nat.le_of_ble_eq_true rfl) (by omega) (Nat.zero_le _) (Nat.zero_le _) ?_
      refine rem_c154 (by omega) hE (ti_fr (W := [(206, some 2), (206, some 3), (206, some 4), (206, some 5), (206, some 6), (206, some 7), (206, some 8), (200, some 6), (204, none), (205, none), (220, some 3), (221, none), (1, some 15)]) hT (fr_t fr_0 hf24 (by decide)) (by decide) (by decide +kernel)) hN (his_w (W := [(206, some 2), (206, some 3), (206, some 4), (206, some 5), (206, some 6), (206, some 7), (206, some 8), (200, some 6), (204, none), (205, none), (220, some 3), (221, none), (1, some 15)]) hH (fr_t fr_0 hf24 (by decide)) (by decide)) (fun p36 M36 hp36 hk36 hs36 ht36 hx36 => ?_)
      show gm_Wp X LX d _ _ 158 39 _ [] n K _ _ Q
      refine gm_sz (gm_p_load (pc := 39) (i := .aload_n 0) (sr := 2) (j := 0) (by decide +kernel) rfl rfl rfl) ?_
      refine gm_sz (fw_gr (pc := 40) (ix := 23) (ci := 0) (j := 3) (r := 3) (by decide +kernel) (e0k hE (k := 1) (c := 0) (by decide +kernel)) (by decide +kernel) (by decide +kernel) (e0r (e0h hE (v := R 3 8) hp36) (k := 1) (j := 3) (r := 3) (by decide +kernel))) ?_
      refine gm_sz (gm_p_load (pc := 43) (i := .iload_n 1) (sr := 0) (j := 1) (by decide +kernel) rfl rfl rfl) ?_
      refine gm_sz (gm_p_load (pc := 44) (i := .aload_n 0) (sr := 2) (j := 0) (by decide +kernel) rfl rfl rfl) ?_
      refine gm_sz (fw_gr (pc := 45) (ix := 23) (ci := 0) (j := 3) (r := 3) (by decide +kernel) (e0k hE (k := 1) (c := 0) (by decide +kernel)) (by decide +kernel) (by decide +kernel) (e0r (e0h hE (v := R 3 8) hp36) (k := 1) (j := 3) (r := 3) (by decide +kernel))) ?_
      refine gm_sz (fw_gr (pc := 48) (ix := 203) (ci := 1) (j := 12) (r := 10) (by decide +kernel) (e0k hE (k := 3) (c := 1) (by decide +kernel)) (by decide +kernel) (by decide +kernel) (e0r (e0h hE (v := R 3 8) hp36) (k := 3) (j := 12) (r := 10) (by decide +kernel))) ?_
      refine gm_sz (gm_p_load (pc := 51) (i := .iload_n 1) (sr := 0) (j := 1) (by decide +kernel) rfl rfl rfl) ?_
      refine gm_sz (gm_p_const (pc := 52) (i := .iconst 1) (v := gm_vi 1) (by decide +kernel) (by decide +kernel)) ?_
      refine gm_c_virt (k := 10) (ci := 2) (mj := 10) (ix := 186) (pc := 53) (as := [gm_vi l, gm_vi 1]) (st := [gm_vi l, gm_vr 3]) (d' := d - 1) (bc' := 0) (bs' := 0) (by decide +kernel) (by decide +kernel) (by decide +kernel) (by decide +kernel) (e0k hE (k := 10) (c := 2) (by decide +kernel)).1 (e0k hE (k := 10) (c := 2) (by decide +kernel)).2 (by decide) (by decide +kernel) (show 2 = gm_na 10 by decide +kernel) (fw_c2 fw_si fw_si) (show 3 ≤ gm_ml 10 by decide +kernel) (Nat.le_of_ble_eq_true rfl) (by omega) (Nat.zero_le _) (Nat.zero_le _) ?_
      refine rw_get (s := N 4) (w := 7) (x := N (119 + (l * 7 + 1))) (e0k (e0h hE (v := R 3 8) hp36) (k := 10) (c := 2) (by decide +kernel)) (e0a (e0h hE (v := R 3 8) hp36) (k := 11) (q := (0, 168)) (by decide +kernel)) (e0r (e0h hE (v := R 3 8) hp36) (k := 10) (j := 2) (r := 11) (by decide +kernel)) (by decide) ((hx36 _ _ (by omega)).trans ((fr_c hf24 (by decide)).trans (ti_let hT))) ((hx36 _ _ (by omega)).trans ((fr_c hf24 (by decide)).trans (hT.1 (10, 1, 7) (by decide)))) ⟨by omega, by omega⟩ ⟨by omega, by omega⟩ ⟨by omega, by omega⟩ ⟨by omega, by omega⟩ ((hx36 _ _ (by omega)).trans ((fr_c hf24 (by decide)).trans (ti_aL hT (by omega) (by omega)))) ?_
      show gm_Wp X LX d _ _ 158 56 _ [gm_vi (N (119 + (l * 7 + 1))), gm_vi l, gm_vr 3] n K _ _ Q
      refine gm_c_virt (k := 3) (ci := 1) (mj := 159) (ix := 266) (pc := 56) (as := [gm_vi l, gm_vi (N (119 + (l * 7 + 1)))]) (st := []) (d' := d - 1) (bc' := 0) (bs' := 0) (by decide +kernel) (by decide +kernel) (by decide +kernel) (by decide +kernel) (e0k hE (k := 3) (c := 1) (by decide +kernel)).1 (e0k hE (k := 3) (c := 1) (by decide +kernel)).2 (by decide) (by decide +kernel) (show 2 = gm_na 159 by decide +kernel) (fw_c2 fw_si fw_si) (show 3 ≤ gm_ml 159 by decide +kernel) (Nat.le_of_ble_eq_true rfl) (by omega) (Nat.zero_le _) (Nat.zero_le _) ?_
      refine cs_opn (by omega) (e0h hE (v := R 3 8) hp36) ht36.1 (by rw [ti_let ht36]; exact c2) (by rw [ti_let ht36]; omega) (by rw [ti_ope ht36]; exact logi_lt hN hg c2 v11.2.1) ?_
      show gm_Wp X LX d _ _ 158 59 _ [] n K _ _ Q
      refine gm_sz (gm_p_load (pc := 59) (i := .aload_n 0) (sr := 2) (j := 0) (by decide +kernel) rfl rfl rfl) ?_
      refine gm_sz (fw_gr (pc := 60) (ix := 23) (ci := 0) (j := 3) (r := 3) (by decide +kernel) (e0k hE (k := 1) (c := 0) (by decide +kernel)) (by decide +kernel) (by decide +kernel) (e0r (e0h hE (v := R 3 8) hp36) (k := 1) (j := 3) (r := 3) (by decide +kernel))) ?_
      refine gm_sz (fw_gi (pc := 63) (ix := 269) (ci := 1) (j := 6) (x := N 9) (by decide +kernel) (e0k hE (k := 3) (c := 1) (by decide +kernel)) (by decide +kernel) (by decide +kernel) ((fr_c cs_op_fr (by decide)).trans ((hx36 _ _ (by omega)).trans ((fr_c hf24 (by decide)).trans (ti_now hT))))) ?_
      refine gm_sz (gm_p_load (pc := 66) (i := .aload_n 0) (sr := 2) (j := 0) (by decide +kernel) rfl rfl rfl) ?_
      refine gm_sz (fw_gr (pc := 67) (ix := 23) (ci := 0) (j := 3) (r := 3) (by decide +kernel) (e0k hE (k := 1) (c := 0) (by decide +kernel)) (by decide +kernel) (by decide +kernel) (e0r (e0h hE (v := R 3 8) hp36) (k := 1) (j := 3) (r := 3) (by decide +kernel))) ?_
      refine gm_sz (fw_gr (pc := 70) (ix := 203) (ci := 1) (j := 12) (r := 10) (by decide +kernel) (e0k hE (k := 3) (c := 1) (by decide +kernel)) (by decide +kernel) (by decide +kernel) (e0r (e0h hE (v := R 3 8) hp36) (k := 3) (j := 12) (r := 10) (by decide +kernel))) ?_
      refine gm_sz (gm_p_load (pc := 73) (i := .iload_n 1) (sr := 0) (j := 1) (by decide +kernel) rfl rfl rfl) ?_
      refine gm_sz (gm_p_const (pc := 74) (i := .iconst 3) (v := gm_vi 3) (by decide +kernel) (by decide +kernel)) ?_
      refine gm_c_virt (k := 10) (ci := 2) (mj := 10) (ix := 186) (pc := 75) (as := [gm_vi l, gm_vi 3]) (st := [gm_vi (N 9)]) (d' := d - 1) (bc' := 0) (bs' := 0) (by decide +kernel) (by decide +kernel) (by decide +kernel) (by decide +kernel) (e0k hE (k := 10) (c := 2) (by decide +kernel)).1 (e0k hE (k := 10) (c := 2) (by decide +kernel)).2 (by decide) (by decide +kernel) (show 2 = gm_na 10 by decide +kernel) (fw_c2 fw_si fw_si) (show 3 ≤ gm_ml 10 by decide +kernel) (Nat.le_of_ble_eq_true rfl) (by omega) (Nat.zero_le _) (Nat.zero_le _) ?_
      refine rw_get (s := N 4) (w := 7) (x := N (119 + (l * 7 + 3))) (e0k (e0h hE (v := R 3 8) hp36) (k := 10) (c := 2) (by decide +kernel)) (e0a (e0h hE (v := R 3 8) hp36) (k := 11) (q := (0, 168)) (by decide +kernel)) (e0r (e0h hE (v := R 3 8) hp36) (k := 10) (j := 2) (r := 11) (by decide +kernel)) (by decide) ((fr_c cs_op_fr (by decide)).trans ((hx36 _ _ (by omega)).trans ((fr_c hf24 (by decide)).trans (ti_let hT)))) ((fr_c cs_op_fr (by decide)).trans ((hx36 _ _ (by omega)).trans ((fr_c hf24 (by decide)).trans (hT.1 (10, 1, 7) (by decide))))) ⟨by omega, by omega⟩ ⟨by omega, by omega⟩ ⟨by omega, by omega⟩ ⟨by omega, by omega⟩ ((cs_op_y (by omega)).trans ((hx36 _ _ (by omega)).trans ((fr_c hf24 (by decide)).trans (ti_aL hT (by omega) (by omega))))) ?_
      show gm_Wp X LX d _ _ 158 78 _ [gm_vi (N (119 + (l * 7 + 3))), gm_vi (N 9)] n K _ _ Q
      refine gm_sz (gm_p_bin (pc := 78) (i := .isub) (f := fun x y => x - y) (by decide +kernel) rfl) ?_
      have hl24 : 0 ≤ l ∧ l < 24 := ⟨c2.1, by omega⟩
      have ho9 := logi_lt hN hg c2 v11.2.1
      have n9 : cs (cs_op M36 l (N (119 + (l * 7 + 1)))) 3 = nopn N l (N (119 + (l * 7 + 1))) := cs_op_n ht36.2.1 hl24 ho9
      refine gm_r_int (pc := 79) (by decide +kernel) (Or.inl (by decide +kernel)) ?_
      have e9 : (N 9) - (N (119 + (l * 7 + 3))) = N 9 - (N (119 + (l * 7 + 3))) := rfl
      exact hq c2 _ _ p36 M24 (cs_op M36 l (N (119 + (l * 7 + 1)))) (he24.2 l c2.1 c2.2) v11 hf24 hI24 h24 he24 hp36 ⟨hk36.1, (((fr_c cs_op_fr (by decide)).trans rfl)).trans hk36.2⟩ (his_w (W := [(11, none), (14, some 3), (15, none)]) hs36 (fr_t fr_0 cs_op_fr (by decide)) (by decide)) (cst_fr (W := [(11, none), (14, some 3), (15, none)]) ht36.1 (fr_t fr_0 cs_op_fr (by decide)) (by decide +kernel)) n9 (fun x j hx h11 h14 h15 => (cs_op_fr x j (by intro hm; simp at hm; omega) (by intro hm; simp at hm; omega)).trans (hx36 x j hx))
    · show gm_Wp X LX d _ _ 158 14 _ [gm_vi 0] n K _ _ Q
      refine fw_iffd (cc := .ne) (pc := 14) (off := 14) (by decide +kernel) (by decide) ⟨by decide, by decide⟩ (by decide) ?_
      exact gm_throw (ik := 261) (is := 263) (ic := 265) (x := 2) (id := 38) (lw := true) (by decide +kernel) (by decide +kernel) (by decide +kernel) (by decide +kernel) (by decide +kernel) (by decide +kernel) (by decide +kernel) (by decide +kernel) (Nat.le_of_ble_eq_true rfl) (by omega) (by omega) (by omega) (q2 c2 _ _ _ (he24.2 l c2.1 c2.2) v11 hf24 hI24 h24 he24)
  · show Q (.inr 3) n K _ _
    have c2 : ¬ (0 ≤ l ∧ l < N 4) := c2
    exact (q3 (by omega))
end AC13
end
/-! 7a24.c14rn -/
section
/-! THE CLASS: heats, speeds and floods made anew (laid by wip/core/c14.py). -/
/-- the draws -/
noncomputable def hnum (s : Int) : Nat → Int
  | 0 => s
  | k + 1 => (1103515245 * hnum s k) + 12345
theorem and_b {x : Int} : 0 ≤ gm_and x 32767 ∧ gm_and x 32767 ≤ 32767 := by
  have h : (Int32.ofInt x &&& Int32.ofInt 32767).toBitVec = (Int32.ofInt x).toBitVec &&& 32767#32 := rfl
  have h2 : gm_and x 32767 = ((Int32.ofInt x).toBitVec &&& 32767#32).toInt := rfl
  rw [h2]
  have h3 : ((Int32.ofInt x).toBitVec &&& 32767#32).toNat ≤ 32767 := by
    rw [BitVec.toNat_and]
    exact Nat.and_le_right
  rw [BitVec.toInt_eq_toNat_of_lt (by omega)]
  exact ⟨by omega, by omega⟩
/-- the bits behind the sixteenth: a sign shifted in makes no odds -/
theorem and_sh {x : Int} : gm_and (gm_ushr x 16) 32767 = gm_and (gm_shr x 16) 32767 := by
  have e1 : gm_and (gm_ushr x 16) 32767 = ((bI (gm_ushr x 16)) &&& 32767#32).toInt := rfl
  have e2 : gm_and (gm_shr x 16) 32767 = ((bI (gm_shr x 16)) &&& 32767#32).toInt := rfl
  have e3 : bI (gm_ushr x 16) = (bI x) >>> 16 := by
    unfold gm_ushr
    rw [bI_toInt]
    show (Int32.ofInt x).toBitVec >>> (((Int32.ofInt 16).toUInt32 &&& Int32.toUInt32 31).toBitVec % 32#32) = _
    rw [show ((Int32.ofInt 16).toUInt32 &&& Int32.toUInt32 31).toBitVec % 32#32 = 16#32 by decide, BitVec.ushiftRight_eq']
    rfl
  have e4 : bI (gm_shr x 16) = (bI x).sshiftRight 16 := by
    unfold gm_shr
    rw [bI_toInt]
    show (Int32.ofInt x).toBitVec.sshiftRight' ((Int32.ofInt 16 &&& 31).toBitVec.smod 32#32) = _
    rw [show (Int32.ofInt 16 &&& 31).toBitVec.smod 32#32 = 16#32 by decide, BitVec.sshiftRight_eq']
    rfl
  rw [e1, e2, e3, e4]
  congr 1
  apply BitVec.eq_of_getLsbD_eq
  intro i hi
  rw [BitVec.getLsbD_and, BitVec.getLsbD_and, BitVec.getLsbD_ushiftRight, BitVec.getLsbD_sshiftRight]
  by_cases h : i < 15
  · have h1 : ¬ 32 ≤ i := by omega
    have h2 : 16 + i < 32 := by omega
    simp [h1, h2]
  · have h3 : (32767#32).getLsbD i = false := by
      have h32 : i < 32 := hi
      have : i = 15 ∨ i = 16 ∨ i = 17 ∨ i = 18 ∨ i = 19 ∨ i = 20 ∨ i = 21 ∨ i = 22 ∨ i = 23 ∨ i = 24 ∨ i = 25 ∨ i = 26 ∨ i = 27 ∨ i = 28 ∨ i = 29 ∨ i = 30 ∨ i = 31 := by omega
      rcases this with rfl | rfl | rfl | rfl | rfl | rfl | rfl | rfl | rfl | rfl | rfl | rfl | rfl | rfl | rfl | rfl | rfl <;> decide
    rw [h3, Bool.and_false, Bool.and_false]
/-- HEAT -/
noncomputable def hts (s y : Int) : Int := gm_and (gm_shr (hnum s (y.toNat + 1)) 16) 32767 % 10
theorem hts_b {s y : Int} : 0 ≤ hts s y ∧ hts s y ≤ 9 := by
  unfold hts
  exact ⟨by omega, by omega⟩
/-- speeds, those beside the valley 0 -/
noncomputable def spd (N : Int → Int) (l r : Int) : Int := if l < N 0 ∧ r < N 1 then nsp N l r else 0
theorem spd_b {N : Int → Int} (hN : NR N) (hS : NS N) {l r : Int} (h0 : 0 ≤ l) : 0 ≤ spd N l r ∧ spd N l r ≤ 20 := by
  have a2 := hN.2.1.1
  unfold spd
  split
  · rename_i h
    exact rsp_b hS ⟨h0, h.1⟩ (N 2).toNat (by omega)
  · exact ⟨Int.le_refl _, by decide⟩
/-- the speeds in the midst: s sections done, of the next LANES ahead of l, and of l ROWS ahead of r0 -/
noncomputable def SP2 (N : Int → Int) (s : Nat) (l r0 : Int) (M : gm_M) : Prop := ∀ l2 r, 0 ≤ l2 → l2 < 6 → 0 ≤ r → r < 99 → M 202 (l2 * 99 + r) = if l2 < N 0 ∧ r < N 1 then (if l2 < l ∨ (l2 = l ∧ r < r0) then rsp N l2 r (s + 1) else rsp N l2 r s) else 0
section SP14
variable {N : Int → Int} {M M2 : gm_M} {s : Nat} {l r0 : Int}
/-- ahead of the section's ROW nothing changes -/
theorem sp2_f (h : SP2 N s l 0 M) {f : Int} (hf : N (15 + 7 * (s : Int)) = f) : SP2 N s l f M := by
  intro l2 r a b c e
  rw [h l2 r a b c e]
  by_cases h1 : l2 < N 0 ∧ r < N 1
  · rw [if_pos h1, if_pos h1]
    by_cases h2 : l2 < l
    · rw [if_pos (Or.inl h2), if_pos (Or.inl h2)]
    · rw [if_neg (by omega)]
      by_cases h3 : l2 = l ∧ r < f
      · rw [if_pos (Or.inr h3)]
        show _ = if N (15 + 7 * (s : Int)) ≤ r then _ else rsp N l2 r s
        rw [hf, if_neg (by omega)]
      · rw [if_neg (by omega)]
  · rw [if_neg h1, if_neg h1]
theorem sp2_r (h : SP2 N s l r0 M) (hl : 0 ≤ l ∧ l < 6) (hr : 0 ≤ r0 ∧ r0 < 99) (hl0 : l < N 0) (hr1 : r0 < N 1) (hf : N (15 + 7 * (s : Int)) ≤ r0) {v : Int} (hv : N (15 + 7 * (s : Int) + 1 + l) = v) : SP2 N s l (r0 + 1) (gm_uM M 202 (l * 99 + r0) v) := by
  intro l2 r a b c e
  by_cases h9 : l2 = l ∧ r = r0
  · obtain ⟨rfl, rfl⟩ := h9
    rw [uM_at, if_pos ⟨hl0, hr1⟩, if_pos (Or.inr ⟨rfl, by omega⟩)]
    show v = if N (15 + 7 * (s : Int)) ≤ r then N (15 + 7 * (s : Int) + 1 + l2) else _
    rw [if_pos hf, hv]
  · rw [uM_ne (by omega), h l2 r a b c e]
    by_cases h1 : l2 < N 0 ∧ r < N 1
    · rw [if_pos h1, if_pos h1]
      by_cases h2 : l2 < l ∨ (l2 = l ∧ r < r0)
      · rw [if_pos h2, if_pos (by omega)]
      · rw [if_neg h2, if_neg (by omega)]
    · rw [if_neg h1, if_neg h1]
theorem sp2_x (h : SP2 N s l r0 M) (hr : N 1 ≤ r0) : SP2 N s (l + 1) 0 M := by
  intro l2 r a b c e
  rw [h l2 r a b c e]
  by_cases h1 : l2 < N 0 ∧ r < N 1
  · rw [if_pos h1, if_pos h1]
    by_cases h2 : l2 < l ∨ (l2 = l ∧ r < r0)
    · rw [if_pos h2, if_pos (by omega)]
    · rw [if_neg h2, if_neg (by omega)]
  · rw [if_neg h1, if_neg h1]
theorem sp2_n (h : SP2 N s l 0 M) (hl : N 0 ≤ l) : SP2 N (s + 1) 0 0 M := by
  intro l2 r a b c e
  rw [h l2 r a b c e]
  by_cases h1 : l2 < N 0 ∧ r < N 1
  · rw [if_pos h1, if_pos h1, if_pos (by omega), if_neg (by omega)]
  · rw [if_neg h1, if_neg h1]
theorem sp2_z (h : ∀ j, 0 ≤ j → j < 594 → M 202 j = 0) : SP2 N 0 0 0 M := by
  intro l2 r a b c e
  rw [h _ (by omega) (by omega)]
  by_cases h1 : l2 < N 0 ∧ r < N 1
  · rw [if_pos h1, if_neg (by omega)]
    rfl
  · rw [if_neg h1]
theorem sp2_d (h : SP2 N s 0 0 M) (hs : (N 2).toNat = s) : ∀ l2 r, 0 ≤ l2 → l2 < 6 → 0 ≤ r → r < 99 → M 202 (l2 * 99 + r) = spd N l2 r := by
  intro l2 r a b c e
  rw [h l2 r a b c e]
  unfold spd nsp
  rw [hs]
  by_cases h1 : l2 < N 0 ∧ r < N 1
  · rw [if_pos h1, if_pos h1, if_neg (by omega)]
  · rw [if_neg h1, if_neg h1]
end SP14
/-- bits -/
theorem n8 {f : Nat} (h : f < 8) : f = 0 ∨ f = 1 ∨ f = 2 ∨ f = 3 ∨ f = 4 ∨ f = 5 ∨ f = 6 ∨ f = 7 := by omega
theorem sh_8 {k : Nat} (hk : k < 8) : ((Int32.ofInt (k : Int)) &&& 31).toBitVec.smod 32#32 = BitVec.ofNat 32 k := by
  rcases n8 hk with rfl | rfl | rfl | rfl | rfl | rfl | rfl | rfl <;> decide
theorem bI_shr8 {a : Int} {k : Nat} (hk : k < 8) : bI (gm_shr a (k : Int)) = (bI a).sshiftRight k := by
  unfold gm_shr
  rw [bI_toInt]
  show (Int32.ofInt a).toBitVec.sshiftRight' ((Int32.ofInt (k : Int) &&& 31).toBitVec.smod 32#32) = _
  rw [sh_8 hk, BitVec.sshiftRight_eq', BitVec.toNat_ofNat, Nat.mod_eq_of_lt (by omega)]
  rfl
theorem and_1 {x : Int} : gm_and x 1 = 1 ↔ (bI x).getLsbD 0 = true := SB_top (l := []) ⟨by show 1 ≤ 32; decide, fun i v h => by
  cases i with
  | zero => simpa using h
  | succ i => simp at h⟩
theorem bit_8 {b : Int} {f : Nat} (hf : f < 8) : gm_and (gm_shr b (f : Int)) 1 = 1 ↔ (bI b).getLsbD f = true := by
  rw [and_1, bI_shr8 hf, BitVec.getLsbD_sshiftRight]
  have h2 : f < 32 := by omega
  have h3 : ¬ 32 ≤ f := by omega
  simp [h2, h3]
theorem bit_s {k f : Nat} (hk : k < 8) (hf : f < 8) : (bI (gm_shl 1 (k : Int))).getLsbD f = decide (f = k) := by
  rcases n8 hk with rfl | rfl | rfl | rfl | rfl | rfl | rfl | rfl <;> rcases n8 hf with rfl | rfl | rfl | rfl | rfl | rfl | rfl | rfl <;> decide
theorem bit_or {b : Int} {k f : Nat} (hk : k < 8) (hf : f < 8) : gm_and (gm_shr (gm_or b (gm_shl 1 (k : Int))) (f : Int)) 1 = 1 ↔ (gm_and (gm_shr b (f : Int)) 1 = 1 ∨ f = k) := by
  rw [bit_8 hf, bit_8 hf, bI_or, BitVec.getLsbD_or, bit_s hk hf, Bool.or_eq_true, decide_eq_true_eq]
/-- the bits of a year's floods, k of them looked at -/
noncomputable def fbk (N : Int → Int) (k : Nat) (y b : Int) : Prop := gm_ir b ∧ ∀ f : Nat, f < 8 → (gm_and (gm_shr b (f : Int)) 1 = 1 ↔ (f < k ∧ (N (71 + ((f : Int) * 3 + 0))) = y))
section FB14
variable {N : Int → Int} {k : Nat} {y b : Int}
theorem fbk_0 : fbk N 0 y 0 := ⟨⟨by decide, by decide⟩, fun f hf => ⟨fun h => absurd h (fbit_0 hf), fun h => absurd h.1 (Nat.not_lt_zero _)⟩⟩
theorem fbk_y (h : fbk N k y b) (hy : (N (71 + ((k : Int) * 3 + 0))) = y) (hk : k < 8) : fbk N (k + 1) y (gm_or b (gm_shl 1 (k : Int))) := ⟨or_ir, fun f hf => by
  rw [bit_or hk hf, h.2 f hf]
  constructor
  · rintro (h1 | rfl)
    · exact ⟨by omega, h1.2⟩
    · exact ⟨by omega, hy⟩
  · intro h1
    by_cases e : f = k
    · exact Or.inr e
    · exact Or.inl ⟨by omega, h1.2⟩⟩
theorem fbk_n (h : fbk N k y b) (hy : ¬ (N (71 + ((k : Int) * 3 + 0))) = y) : fbk N (k + 1) y b := ⟨h.1, fun f hf => by
  rw [h.2 f hf]
  constructor
  · intro h1
    exact ⟨by omega, h1.2⟩
  · intro h1
    refine ⟨?_, h1.2⟩
    by_cases e : f = k
    · subst e
      exact absurd h1.2 hy
    · omega⟩
theorem fbk_f (h : fbk N k y b) (hk : (k : Int) = N 5) : gm_ir b ∧ fbit N y b := ⟨h.1, fun f hf => by
  rw [h.2 f hf]
  exact ⟨fun a => ⟨by omega, a.2⟩, fun a => ⟨by omega, a.2⟩⟩⟩
end FB14
section RN14
variable {X : Int → Int} {LX d bc bs n : Nat} {K : gm_K} {R : gm_R} {M : gm_M} {Q : gm_Q} {s f v l : Int} {N : Int → Int}
/-- what is told, without what is made of it -/
noncomputable def TQ (N : Int → Int) (M : gm_M) : Prop := CST M ∧ cs M 3 = N
theorem tq_fr {M2 : gm_M} {W : List (Nat × Option Int)} (hT : TQ N M) (h9 : fr W M M2) (hw : W.all (fun w => !(decide (3 ≤ w.1) && decide (w.1 ≤ 15))) = true) (hc : W.all (fun w => cstL.all (fun q => !(q.1 == w.1 && (w.2 == none || w.2 == some q.2.1)))) = true) : TQ N M2 := ⟨cst_fr hT.1 h9 hc, (cs_same fun x j x1 x2 => h9 x j (fun hm => by have := List.all_eq_true.mp hw _ hm; simp at this; omega) (fun hm => by have := List.all_eq_true.mp hw _ hm; simp at this; omega)).trans hT.2⟩
theorem tq_lan (hT : TQ N M) : M 3 0 = N 0 := congrFun hT.2 0
theorem tq_las (hT : TQ N M) : M 3 1 = N 1 := congrFun hT.2 1
theorem tq_see (hT : TQ N M) : M 3 5 = N 13 := congrFun hT.2 13
theorem tq_sec (hT : TQ N M) : M 4 3 = N 2 := congrFun hT.2 2
theorem tq_flo (hT : TQ N M) : M 6 3 = N 5 := congrFun hT.2 5
theorem tq_aS (hT : TQ N M) {j : Int} (h0 : 0 ≤ j) (h1 : j < 56) : M 5 j = N (15 + j) := by
  have e := congrFun hT.2 (15 + j)
  rw [← e]
  unfold cs
  rw [if_neg (show ¬ 15 + j < 0 by omega), if_neg (show ¬ 15 + j < 15 by omega), if_pos (show 15 + j < 71 by omega)]
  show M 5 j = M 5 _
  congr 1
  omega
theorem tq_aF (hT : TQ N M) {j : Int} (h0 : 0 ≤ j) (h1 : j < 24) : M 7 j = N (71 + j) := by
  have e := congrFun hT.2 (71 + j)
  rw [← e]
  unfold cs
  rw [if_neg (show ¬ 71 + j < 0 by omega), if_neg (show ¬ 71 + j < 15 by omega), if_neg (show ¬ 71 + j < 71 by omega), if_pos (show 71 + j < 95 by omega)]
  show M 7 j = M 7 _
  congr 1
  omega
theorem rh_l (hE : E0 n K R) (hT : TQ N M) (hN : NR N) (hq : ∀ M2, fr [(201, none)] M M2 → (∀ y, 0 ≤ y → y < 300 → M2 201 y = hts (N 13) y) → Q (.inl none) n K R M2) : ∀ (u k : Nat) (M1 : gm_M), k + u = 300 → fr [(201, none)] M M1 → (∀ y, 0 ≤ y → y < (k : Int) → M1 201 y = hts (N 13) y) → gm_Wp X LX d bc bs 6 10 [some (gm_vr 200), some (gm_vi (hnum (N 13) k)), some (gm_vi (k : Int))] [] n K R M1 Q := by
  intro u
  induction u with
  | zero =>
    intro k M1 hk hf hy
    refine gm_sz (gm_p_load (pc := 10) (i := .iload_n 2) (sr := 0) (j := 2) (by decide +kernel) rfl rfl rfl) ?_
    refine gm_sz (gm_p_const (pc := 11) (i := .sipush 300) (v := gm_vi 300) (by decide +kernel) (by decide +kernel)) ?_
    refine fw_ict (cc := .ge) (pc := 14) (off := 35) (by decide +kernel) (by decide) ⟨by omega, by omega⟩ ⟨by decide, by decide⟩ (show 300 ≤ (k : Int) by omega) ?_
    exact gm_r_void (pc := 49) (by decide +kernel) (by decide +kernel) (hq M1 hf (fun y y0 y1 => hy y y0 (by omega)))
  | succ u ih =>
    intro k M1 hk hf hy
    refine gm_sz (gm_p_load (pc := 10) (i := .iload_n 2) (sr := 0) (j := 2) (by decide +kernel) rfl rfl rfl) ?_
    refine gm_sz (gm_p_const (pc := 11) (i := .sipush 300) (v := gm_vi 300) (by decide +kernel) (by decide +kernel)) ?_
    refine fw_icf (cc := .ge) (pc := 14) (off := 35) (by decide +kernel) (by decide) ⟨by omega, by omega⟩ ⟨by decide, by decide⟩ (show ¬ 300 ≤ (k : Int) by omega) ?_
    refine gm_sz (gm_p_ldci (pc := 17) (i := .ldc 56) (ix := 56) (v := 1103515245) (by decide +kernel) (Or.inl rfl) (by decide +kernel)) ?_
    refine gm_sz (gm_p_load (pc := 19) (i := .iload_n 1) (sr := 0) (j := 1) (by decide +kernel) rfl rfl rfl) ?_
    refine gm_sz (gm_p_bin (pc := 20) (i := .imul) (f := fun x y => x * y) (by decide +kernel) rfl) ?_
    refine gm_sz (gm_p_const (pc := 21) (i := .sipush 12345) (v := gm_vi 12345) (by decide +kernel) (by decide +kernel)) ?_
    refine gm_sz (gm_p_bin (pc := 24) (i := .iadd) (f := fun x y => x + y) (by decide +kernel) rfl) ?_
    refine gm_sz (gm_p_stor (pc := 25) (i := .istore_n 1) (sr := 0) (j := 1) (by decide +kernel) rfl (show 2 ≤ _ from Nat.le_of_ble_eq_true rfl) rfl) ?_
    refine gm_sz (gm_p_load (pc := 26) (i := .aload_n 0) (sr := 2) (j := 0) (by decide +kernel) rfl rfl rfl) ?_
    refine gm_sz (fw_gr (pc := 27) (ix := 9) (ci := 4) (j := 1) (r := 201) (by decide +kernel) (e0k hE (k := 200) (c := 4) (by decide +kernel)) (by decide +kernel) (by decide +kernel) (e0r hE (k := 200) (j := 1) (r := 201) (by decide +kernel))) ?_
    refine gm_sz (gm_p_load (pc := 30) (i := .iload_n 2) (sr := 0) (j := 2) (by decide +kernel) rfl rfl rfl) ?_
    refine gm_sz (gm_p_load (pc := 31) (i := .iload_n 1) (sr := 0) (j := 1) (by decide +kernel) rfl rfl rfl) ?_
    refine gm_sz (gm_p_const (pc := 32) (i := .bipush 16) (v := gm_vi 16) (by decide +kernel) (by decide +kernel)) ?_
    refine gm_sz (gm_p_bin (pc := 34) (i := .iushr) (f := gm_ushr) (by decide +kernel) rfl) ?_
    refine gm_sz (gm_p_const (pc := 35) (i := .sipush 32767) (v := gm_vi 32767) (by decide +kernel) (by decide +kernel)) ?_
    refine gm_sz (gm_p_bin (pc := 38) (i := .iand) (f := gm_and) (by decide +kernel) rfl) ?_
    have hb9 := and_b (x := gm_ushr ((1103515245 * (hnum (N 13) k)) + 12345) 16)
    refine gm_sz (gm_p_const (pc := 39) (i := .bipush 10) (v := gm_vi 10) (by decide +kernel) (by decide +kernel)) ?_
    refine gm_sz (gm_p_rem (pc := 41) (by decide +kernel) (by decide)) ?_
    rw [fw_rem (a := gm_and (gm_ushr ((1103515245 * (hnum (N 13) k)) + 12345) 16) 32767) (b := 10) (by omega) (by omega) (by decide)]
    refine gm_sz (fw_is (pc := 42) (k := 201) (len := 300) (e0 := (k : Int)) (x := (gm_and (gm_ushr ((1103515245 * (hnum (N 13) k)) + 12345) 16) 32767) % 10) (M' := gm_uM M1 201 (k : Int) ((gm_and (gm_ushr ((1103515245 * (hnum (N 13) k)) + 12345) 16) 32767) % 10)) (by decide +kernel) (e0a hE (k := 201) (q := (0, 300)) (by decide +kernel)).1 (e0a hE (k := 201) (q := (0, 300)) (by decide +kernel)).2 (by decide) ⟨by omega, by omega⟩ rfl) ?_
    refine gm_sz (gm_p_iinc (pc := 43) (j := 2) (z := 1) (by decide +kernel) rfl) ?_
    refine gm_sz (gm_p_goto (pc := 46) (off := (-36)) (by decide +kernel) (by decide)) ?_
    refine ih (k + 1) _ (by omega) (fr_p (fr_t fr_0 hf (by decide)) (Or.inl (by decide))) (fun y y0 y1 => ?_)
    by_cases e : y = (k : Int)
    · subst e
      rw [uM_at]
      unfold hts
      rw [show ((k : Int)).toNat = k from Int.toNat_natCast k, ← and_sh]
      rfl
    · exact (uM_ne (fun hh => e hh.2)).trans (hy y y0 (by omega))
theorem rh_c6 (hE : E0 n K R) (hT : TQ N M) (hN : NR N) (hq : ∀ M2, fr [(201, none)] M M2 → (∀ y, 0 ≤ y → y < 300 → M2 201 y = hts (N 13) y) → Q (.inl none) n K R M2) : gm_Wp X LX d bc bs 6 0 (gm_ent 6 [gm_vr 200]) [] n K R M Q := by
  refine gm_sz (gm_p_load (pc := 0) (i := .aload_n 0) (sr := 2) (j := 0) (by decide +kernel) rfl rfl rfl) ?_
  refine gm_sz (fw_gr (pc := 1) (ix := 34) (ci := 4) (j := 0) (r := 3) (by decide +kernel) (e0k hE (k := 200) (c := 4) (by decide +kernel)) (by decide +kernel) (by decide +kernel) (e0r hE (k := 200) (j := 0) (r := 3) (by decide +kernel))) ?_
  refine gm_sz (fw_gi (pc := 4) (ix := 50) (ci := 1) (j := 5) (x := N 13) (by decide +kernel) (e0k hE (k := 3) (c := 1) (by decide +kernel)) (by decide +kernel) (by decide +kernel) (tq_see hT)) ?_
  refine gm_sz (gm_p_stor (pc := 7) (i := .istore_n 1) (sr := 0) (j := 1) (by decide +kernel) rfl (show 2 ≤ _ from Nat.le_of_ble_eq_true rfl) rfl) ?_
  refine gm_sz (gm_p_const (pc := 8) (i := .iconst 0) (v := gm_vi 0) (by decide +kernel) (by decide +kernel)) ?_
  refine gm_sz (gm_p_stor (pc := 9) (i := .istore_n 2) (sr := 0) (j := 2) (by decide +kernel) rfl (show 3 ≤ _ from Nat.le_of_ble_eq_true rfl) rfl) ?_
  exact rh_l hE hT hN hq 300 0 M rfl fr_0 (fun y y0 y1 => absurd y1 (by omega))
theorem rs_r (hE : E0 n K R) (hT : TQ N M) (hN : NR N) {k : Nat} (hk : (k : Int) < N 2) (hl : 0 ≤ l ∧ l < N 0 ∧ l < 6) (hf0 : 0 ≤ f) (hf1 : N (15 + 7 * (k : Int)) ≤ f) (hv : N (15 + 7 * (k : Int) + 1 + l) = v) {z2 : Option gm_V} (hq : ∀ M2 r, fr [(202, none)] M M2 → N 1 ≤ r → SP2 N k l r M2 → gm_Wp X LX d bc bs 7 118 [some (gm_vr 200), some (gm_vi (k : Int)), z2, some (gm_vi l), some (gm_vi v), some (gm_vi r)] [] n K R M2 Q) : ∀ (u : Nat) (r : Int) (M1 : gm_M), (N 1 - r).toNat = u → f ≤ r → r ≤ 99 → fr [(202, none)] M M1 → SP2 N k l r M1 → gm_Wp X LX d bc bs 7 79 [some (gm_vr 200), some (gm_vi (k : Int)), z2, some (gm_vi l), some (gm_vi v), some (gm_vi r)] [] n K R M1 Q := by
  have b1 := hN.1.2.1
  intro u
  induction u with
  | zero =>
    intro r M1 hu hfr hr9 hf hs
    refine gm_sz (gm_p_load (pc := 79) (i := .iload 5) (sr := 0) (j := 5) (by decide +kernel) rfl rfl rfl) ?_
    refine gm_sz (gm_p_load (pc := 81) (i := .aload_n 0) (sr := 2) (j := 0) (by decide +kernel) rfl rfl rfl) ?_
    refine gm_sz (fw_gr (pc := 82) (ix := 34) (ci := 4) (j := 0) (r := 3) (by decide +kernel) (e0k hE (k := 200) (c := 4) (by decide +kernel)) (by decide +kernel) (by decide +kernel) (e0r hE (k := 200) (j := 0) (r := 3) (by decide +kernel))) ?_
    refine gm_sz (fw_gi (pc := 85) (ix := 85) (ci := 1) (j := 1) (x := N 1) (by decide +kernel) (e0k hE (k := 3) (c := 1) (by decide +kernel)) (by decide +kernel) (by decide +kernel) ((fr_c hf (by decide)).trans (tq_las hT))) ?_
    refine fw_ict (cc := .ge) (pc := 88) (off := 30) (by decide +kernel) (by decide) ⟨by omega, by omega⟩ ⟨by omega, by omega⟩ (show (N 1) ≤ r by omega) ?_
    exact hq M1 r hf (by omega) hs
  | succ u ih =>
    intro r M1 hu hfr hr9 hf hs
    refine gm_sz (gm_p_load (pc := 79) (i := .iload 5) (sr := 0) (j := 5) (by decide +kernel) rfl rfl rfl) ?_
    refine gm_sz (gm_p_load (pc := 81) (i := .aload_n 0) (sr := 2) (j := 0) (by decide +kernel) rfl rfl rfl) ?_
    refine gm_sz (fw_gr (pc := 82) (ix := 34) (ci := 4) (j := 0) (r := 3) (by decide +kernel) (e0k hE (k := 200) (c := 4) (by decide +kernel)) (by decide +kernel) (by decide +kernel) (e0r hE (k := 200) (j := 0) (r := 3) (by decide +kernel))) ?_
    refine gm_sz (fw_gi (pc := 85) (ix := 85) (ci := 1) (j := 1) (x := N 1) (by decide +kernel) (e0k hE (k := 3) (c := 1) (by decide +kernel)) (by decide +kernel) (by decide +kernel) ((fr_c hf (by decide)).trans (tq_las hT))) ?_
    refine fw_icf (cc := .ge) (pc := 88) (off := 30) (by decide +kernel) (by decide) ⟨by omega, by omega⟩ ⟨by omega, by omega⟩ (show ¬ (N 1) ≤ r by omega) ?_
    refine gm_sz (gm_p_load (pc := 91) (i := .iload 5) (sr := 0) (j := 5) (by decide +kernel) rfl rfl rfl) ?_
    refine gm_sz (gm_p_const (pc := 93) (i := .bipush 99) (v := gm_vi 99) (by decide +kernel) (by decide +kernel)) ?_
    refine fw_icf (cc := .ge) (pc := 95) (off := 23) (by decide +kernel) (by decide) ⟨by omega, by omega⟩ ⟨by decide, by decide⟩ (show ¬ 99 ≤ r by omega) ?_
    refine gm_sz (gm_p_load (pc := 98) (i := .aload_n 0) (sr := 2) (j := 0) (by decide +kernel) rfl rfl rfl) ?_
    refine gm_sz (fw_gr (pc := 99) (ix := 15) (ci := 4) (j := 2) (r := 202) (by decide +kernel) (e0k hE (k := 200) (c := 4) (by decide +kernel)) (by decide +kernel) (by decide +kernel) (e0r hE (k := 200) (j := 2) (r := 202) (by decide +kernel))) ?_
    refine gm_sz (gm_p_load (pc := 102) (i := .iload_n 3) (sr := 0) (j := 3) (by decide +kernel) rfl rfl rfl) ?_
    refine gm_sz (gm_p_const (pc := 103) (i := .bipush 99) (v := gm_vi 99) (by decide +kernel) (by decide +kernel)) ?_
    refine gm_sz (gm_p_bin (pc := 105) (i := .imul) (f := fun x y => x * y) (by decide +kernel) rfl) ?_
    refine gm_sz (gm_p_load (pc := 106) (i := .iload 5) (sr := 0) (j := 5) (by decide +kernel) rfl rfl rfl) ?_
    refine gm_sz (gm_p_bin (pc := 108) (i := .iadd) (f := fun x y => x + y) (by decide +kernel) rfl) ?_
    refine gm_sz (gm_p_load (pc := 109) (i := .iload 4) (sr := 0) (j := 4) (by decide +kernel) rfl rfl rfl) ?_
    refine gm_sz (fw_is (pc := 111) (k := 202) (len := 594) (e0 := (l * 99) + r) (x := v) (M' := gm_uM M1 202 ((l * 99) + r) v) (by decide +kernel) (e0a hE (k := 202) (q := (0, 594)) (by decide +kernel)).1 (e0a hE (k := 202) (q := (0, 594)) (by decide +kernel)).2 (by decide) ⟨by omega, by omega⟩ rfl) ?_
    refine gm_sz (gm_p_iinc (pc := 112) (j := 5) (z := 1) (by decide +kernel) rfl) ?_
    refine gm_sz (gm_p_goto (pc := 115) (off := (-36)) (by decide +kernel) (by decide)) ?_
    exact ih (r + 1) _ (by omega) (by omega) (by omega) (fr_p (fr_t fr_0 hf (by decide)) (Or.inl (by decide))) (sp2_r hs ⟨hl.1, hl.2.2⟩ ⟨by omega, by omega⟩ hl.2.1 (by omega) (by omega) hv)
theorem rs_n (hd : 1 ≤ d) (hE : E0 n K R) (hT : TQ N M) (hN : NR N) (hS : NS N) {k : Nat} (hk : (k : Int) < N 2) (hf : N (15 + 7 * (k : Int)) = f) (hq : ∀ M2 z4 z5 l, fr [(202, none)] M M2 → N 0 ≤ l → SP2 N k l 0 M2 → gm_Wp X LX d bc bs 7 124 [some (gm_vr 200), some (gm_vi (k : Int)), some (gm_vi f), some (gm_vi l), z4, z5] [] n K R M2 Q) : ∀ (u : Nat) (l : Int) (z4 z5 : Option gm_V) (M1 : gm_M), (N 0 - l).toNat = u → 0 ≤ l → l ≤ 6 → fr [(202, none)] M M1 → SP2 N k l 0 M1 → gm_Wp X LX d bc bs 7 43 [some (gm_vr 200), some (gm_vi (k : Int)), some (gm_vi f), some (gm_vi l), z4, z5] [] n K R M1 Q := by
  have b0 := hN.1.1
  have b2 := hN.2.1.1
  obtain ⟨⟨s0, s1⟩, s2⟩ := hS (k : Int) (by omega) hk
  intro u
  induction u with
  | zero =>
    intro l z4 z5 M1 hu hl hl6 hf1 hs
    refine gm_sz (gm_p_load (pc := 43) (i := .iload_n 3) (sr := 0) (j := 3) (by decide +kernel) rfl rfl rfl) ?_
    refine gm_sz (gm_p_load (pc := 44) (i := .aload_n 0) (sr := 2) (j := 0) (by decide +kernel) rfl rfl rfl) ?_
    refine gm_sz (fw_gr (pc := 45) (ix := 34) (ci := 4) (j := 0) (r := 3) (by decide +kernel) (e0k hE (k := 200) (c := 4) (by decide +kernel)) (by decide +kernel) (by decide +kernel) (e0r hE (k := 200) (j := 0) (r := 3) (by decide +kernel))) ?_
    refine gm_sz (fw_gi (pc := 48) (ix := 82) (ci := 1) (j := 0) (x := N 0) (by decide +kernel) (e0k hE (k := 3) (c := 1) (by decide +kernel)) (by decide +kernel) (by decide +kernel) ((fr_c hf1 (by decide)).trans (tq_lan hT))) ?_
    refine fw_ict (cc := .ge) (pc := 51) (off := 73) (by decide +kernel) (by decide) ⟨by omega, by omega⟩ ⟨by omega, by omega⟩ (show (N 0) ≤ l by omega) ?_
    exact hq M1 _ _ l hf1 (by omega) hs
  | succ u ih =>
    intro l z4 z5 M1 hu hl hl6 hf1 hs
    refine gm_sz (gm_p_load (pc := 43) (i := .iload_n 3) (sr := 0) (j := 3) (by decide +kernel) rfl rfl rfl) ?_
    refine gm_sz (gm_p_load (pc := 44) (i := .aload_n 0) (sr := 2) (j := 0) (by decide +kernel) rfl rfl rfl) ?_
    refine gm_sz (fw_gr (pc := 45) (ix := 34) (ci := 4) (j := 0) (r := 3) (by decide +kernel) (e0k hE (k := 200) (c := 4) (by decide +kernel)) (by decide +kernel) (by decide +kernel) (e0r hE (k := 200) (j := 0) (r := 3) (by decide +kernel))) ?_
    refine gm_sz (fw_gi (pc := 48) (ix := 82) (ci := 1) (j := 0) (x := N 0) (by decide +kernel) (e0k hE (k := 3) (c := 1) (by decide +kernel)) (by decide +kernel) (by decide +kernel) ((fr_c hf1 (by decide)).trans (tq_lan hT))) ?_
    refine fw_icf (cc := .ge) (pc := 51) (off := 73) (by decide +kernel) (by decide) ⟨by omega, by omega⟩ ⟨by omega, by omega⟩ (show ¬ (N 0) ≤ l by omega) ?_
    refine gm_sz (gm_p_load (pc := 54) (i := .iload_n 3) (sr := 0) (j := 3) (by decide +kernel) rfl rfl rfl) ?_
    refine gm_sz (gm_p_const (pc := 55) (i := .bipush 6) (v := gm_vi 6) (by decide +kernel) (by decide +kernel)) ?_
    refine fw_icf (cc := .ge) (pc := 57) (off := 67) (by decide +kernel) (by decide) ⟨by omega, by omega⟩ ⟨by decide, by decide⟩ (show ¬ 6 ≤ l by omega) ?_
    refine gm_sz (gm_p_load (pc := 60) (i := .aload_n 0) (sr := 2) (j := 0) (by decide +kernel) rfl rfl rfl) ?_
    refine gm_sz (fw_gr (pc := 61) (ix := 34) (ci := 4) (j := 0) (r := 3) (by decide +kernel) (e0k hE (k := 200) (c := 4) (by decide +kernel)) (by decide +kernel) (by decide +kernel) (e0r hE (k := 200) (j := 0) (r := 3) (by decide +kernel))) ?_
    refine gm_sz (fw_gr (pc := 64) (ix := 63) (ci := 1) (j := 9) (r := 4) (by decide +kernel) (e0k hE (k := 3) (c := 1) (by decide +kernel)) (by decide +kernel) (by decide +kernel) (e0r hE (k := 3) (j := 9) (r := 4) (by decide +kernel))) ?_
    refine gm_sz (gm_p_load (pc := 67) (i := .iload_n 1) (sr := 0) (j := 1) (by decide +kernel) rfl rfl rfl) ?_
    refine gm_sz (gm_p_const (pc := 68) (i := .iconst 1) (v := gm_vi 1) (by decide +kernel) (by decide +kernel)) ?_
    refine gm_sz (gm_p_load (pc := 69) (i := .iload_n 3) (sr := 0) (j := 3) (by decide +kernel) rfl rfl rfl) ?_
    refine gm_sz (gm_p_bin (pc := 70) (i := .iadd) (f := fun x y => x + y) (by decide +kernel) rfl) ?_
    refine gm_c_virt (k := 4) (ci := 2) (mj := 10) (ix := 73) (pc := 71) (as := [gm_vi (k : Int), gm_vi (1 + l)]) (st := []) (d' := d - 1) (bc' := 0) (bs' := 0) (by decide +kernel) (by decide +kernel) (by decide +kernel) (by decide +kernel) (e0k hE (k := 4) (c := 2) (by decide +kernel)).1 (e0k hE (k := 4) (c := 2) (by decide +kernel)).2 (by decide) (by decide +kernel) (show 2 = gm_na 10 by decide +kernel) (fw_c2 fw_si fw_si) (show 3 ≤ gm_ml 10 by decide +kernel) (Nat.le_of_ble_eq_true rfl) (by omega) (Nat.zero_le _) (Nat.zero_le _) ?_
    refine rw_get (s := N 2) (w := 7) (x := N (15 + ((k : Int) * 7 + (1 + l)))) (e0k hE (k := 4) (c := 2) (by decide +kernel)) (e0a hE (k := 5) (q := (0, 56)) (by decide +kernel)) (e0r hE (k := 4) (j := 2) (r := 5) (by decide +kernel)) (by decide) ((fr_c hf1 (by decide)).trans (tq_sec hT)) ((fr_c hf1 (by decide)).trans (hT.1 (4, 1, 7) (by decide))) ⟨by omega, by omega⟩ ⟨by omega, by omega⟩ ⟨by omega, by omega⟩ ⟨by omega, by omega⟩ ((fr_c hf1 (by decide)).trans (tq_aS hT (by omega) (by omega))) ?_
    show gm_Wp X LX d _ _ 7 74 _ [gm_vi (N (15 + ((k : Int) * 7 + (1 + l))))] n K _ _ Q
    refine gm_sz (gm_p_stor (pc := 74) (i := .istore 4) (sr := 0) (j := 4) (by decide +kernel) rfl (show 5 ≤ _ from Nat.le_of_ble_eq_true rfl) rfl) ?_
    refine gm_sz (gm_p_load (pc := 76) (i := .iload_n 2) (sr := 0) (j := 2) (by decide +kernel) rfl rfl rfl) ?_
    refine gm_sz (gm_p_stor (pc := 77) (i := .istore 5) (sr := 0) (j := 5) (by decide +kernel) rfl (show 6 ≤ _ from Nat.le_of_ble_eq_true rfl) rfl) ?_
    have e9 : N (15 + 7 * (k : Int) + 1 + l) = N (15 + ((k : Int) * 7 + (1 + l))) := congrArg N (by omega)
    refine rs_r hE (tq_fr hT hf1 (by decide) (by decide +kernel)) hN hk ⟨by omega, by omega, by omega⟩ (f := f) (by omega) (by omega) e9 (fun M2 r hf2 hr hs2 => ?_) (N 1 - f).toNat f M1 rfl (Int.le_refl _) (by omega) fr_0 (sp2_f hs hf)
    refine gm_sz (gm_p_iinc (pc := 118) (j := 3) (z := 1) (by decide +kernel) rfl) ?_
    refine gm_sz (gm_p_goto (pc := 121) (off := (-78)) (by decide +kernel) (by decide)) ?_
    exact ih (l + 1) _ _ M2 (by omega) (by omega) (by omega) (fr_t hf1 hf2 (by decide)) (sp2_x hs2 hr)
theorem rs_s (hd : 1 ≤ d) (hE : E0 n K R) (hT : TQ N M) (hN : NR N) (hS : NS N) (hq : ∀ M2, fr [(202, none)] M M2 → (∀ l2 r, 0 ≤ l2 → l2 < 6 → 0 ≤ r → r < 99 → M2 202 (l2 * 99 + r) = spd N l2 r) → Q (.inl none) n K R M2) : ∀ (u k : Nat) (z2 z3 z4 z5 : Option gm_V) (M1 : gm_M), (k : Int) + (u : Int) = N 2 → fr [(202, none)] M M1 → SP2 N k 0 0 M1 → gm_Wp X LX d bc bs 7 10 [some (gm_vr 200), some (gm_vi (k : Int)), z2, z3, z4, z5] [] n K R M1 Q := by
  have b2 := hN.2.1.1
  intro u
  induction u with
  | zero =>
    intro k z2 z3 z4 z5 M1 hu hf hs
    refine gm_sz (gm_p_load (pc := 10) (i := .iload_n 1) (sr := 0) (j := 1) (by decide +kernel) rfl rfl rfl) ?_
    refine gm_sz (gm_p_load (pc := 11) (i := .aload_n 0) (sr := 2) (j := 0) (by decide +kernel) rfl rfl rfl) ?_
    refine gm_sz (fw_gr (pc := 12) (ix := 34) (ci := 4) (j := 0) (r := 3) (by decide +kernel) (e0k hE (k := 200) (c := 4) (by decide +kernel)) (by decide +kernel) (by decide +kernel) (e0r hE (k := 200) (j := 0) (r := 3) (by decide +kernel))) ?_
    refine gm_sz (fw_gr (pc := 15) (ix := 63) (ci := 1) (j := 9) (r := 4) (by decide +kernel) (e0k hE (k := 3) (c := 1) (by decide +kernel)) (by decide +kernel) (by decide +kernel) (e0r hE (k := 3) (j := 9) (r := 4) (by decide +kernel))) ?_
    refine gm_c_virt (k := 4) (ci := 2) (mj := 9) (ix := 67) (pc := 18) (as := []) (st := [gm_vi (k : Int)]) (d' := d - 1) (bc' := 0) (bs' := 0) (by decide +kernel) (by decide +kernel) (by decide +kernel) (by decide +kernel) (e0k hE (k := 4) (c := 2) (by decide +kernel)).1 (e0k hE (k := 4) (c := 2) (by decide +kernel)).2 (by decide) (by decide +kernel) (show 0 = gm_na 9 by decide +kernel) fw_c0 (show 1 ≤ gm_ml 9 by decide +kernel) (Nat.le_of_ble_eq_true rfl) (by omega) (Nat.zero_le _) (Nat.zero_le _) ?_
    refine rw_size (s := N 2) (e0k hE (k := 4) (c := 2) (by decide +kernel)) ((fr_c hf (by decide)).trans (tq_sec hT)) ?_
    show gm_Wp X LX d _ _ 7 21 _ [gm_vi (N 2), gm_vi (k : Int)] n K _ _ Q
    refine fw_ict (cc := .ge) (pc := 21) (off := 109) (by decide +kernel) (by decide) ⟨by omega, by omega⟩ ⟨by omega, by omega⟩ (show (N 2) ≤ (k : Int) by omega) ?_
    exact gm_r_void (pc := 130) (by decide +kernel) (by decide +kernel) (hq M1 hf (sp2_d hs (by omega)))
  | succ u ih =>
    intro k z2 z3 z4 z5 M1 hu hf hs
    obtain ⟨⟨s0, s1⟩, s2⟩ := hS (k : Int) (by omega) (by omega)
    have e0 : N (15 + 7 * (k : Int)) = N (15 + ((k : Int) * 7 + 0)) := congrArg N (by omega)
    rw [e0] at s0 s1
    refine gm_sz (gm_p_load (pc := 10) (i := .iload_n 1) (sr := 0) (j := 1) (by decide +kernel) rfl rfl rfl) ?_
    refine gm_sz (gm_p_load (pc := 11) (i := .aload_n 0) (sr := 2) (j := 0) (by decide +kernel) rfl rfl rfl) ?_
    refine gm_sz (fw_gr (pc := 12) (ix := 34) (ci := 4) (j := 0) (r := 3) (by decide +kernel) (e0k hE (k := 200) (c := 4) (by decide +kernel)) (by decide +kernel) (by decide +kernel) (e0r hE (k := 200) (j := 0) (r := 3) (by decide +kernel))) ?_
    refine gm_sz (fw_gr (pc := 15) (ix := 63) (ci := 1) (j := 9) (r := 4) (by decide +kernel) (e0k hE (k := 3) (c := 1) (by decide +kernel)) (by decide +kernel) (by decide +kernel) (e0r hE (k := 3) (j := 9) (r := 4) (by decide +kernel))) ?_
    refine gm_c_virt (k := 4) (ci := 2) (mj := 9) (ix := 67) (pc := 18) (as := []) (st := [gm_vi (k : Int)]) (d' := d - 1) (bc' := 0) (bs' := 0) (by decide +kernel) (by decide +kernel) (by decide +kernel) (by decide +kernel) (e0k hE (k := 4) (c := 2) (by decide +kernel)).1 (e0k hE (k := 4) (c := 2) (by decide +kernel)).2 (by decide) (by decide +kernel) (show 0 = gm_na 9 by decide +kernel) fw_c0 (show 1 ≤ gm_ml 9 by decide +kernel) (Nat.le_of_ble_eq_true rfl) (by omega) (Nat.zero_le _) (Nat.zero_le _) ?_
    refine rw_size (s := N 2) (e0k hE (k := 4) (c := 2) (by decide +kernel)) ((fr_c hf (by decide)).trans (tq_sec hT)) ?_
    show gm_Wp X LX d _ _ 7 21 _ [gm_vi (N 2), gm_vi (k : Int)] n K _ _ Q
    refine fw_icf (cc := .ge) (pc := 21) (off := 109) (by decide +kernel) (by decide) ⟨by omega, by omega⟩ ⟨by omega, by omega⟩ (show ¬ (N 2) ≤ (k : Int) by omega) ?_
    refine gm_sz (gm_p_const (pc := 24) (i := .iconst 0) (v := gm_vi 0) (by decide +kernel) (by decide +kernel)) ?_
    refine gm_sz (gm_p_load (pc := 25) (i := .aload_n 0) (sr := 2) (j := 0) (by decide +kernel) rfl rfl rfl) ?_
    refine gm_sz (fw_gr (pc := 26) (ix := 34) (ci := 4) (j := 0) (r := 3) (by decide +kernel) (e0k hE (k := 200) (c := 4) (by decide +kernel)) (by decide +kernel) (by decide +kernel) (e0r hE (k := 200) (j := 0) (r := 3) (by decide +kernel))) ?_
    refine gm_sz (fw_gr (pc := 29) (ix := 63) (ci := 1) (j := 9) (r := 4) (by decide +kernel) (e0k hE (k := 3) (c := 1) (by decide +kernel)) (by decide +kernel) (by decide +kernel) (e0r hE (k := 3) (j := 9) (r := 4) (by decide +kernel))) ?_
    refine gm_sz (gm_p_load (pc := 32) (i := .iload_n 1) (sr := 0) (j := 1) (by decide +kernel) rfl rfl rfl) ?_
    refine gm_sz (gm_p_const (pc := 33) (i := .iconst 0) (v := gm_vi 0) (by decide +kernel) (by decide +kernel)) ?_
    refine gm_c_virt (k := 4) (ci := 2) (mj := 10) (ix := 73) (pc := 34) (as := [gm_vi (k : Int), gm_vi 0]) (st := [gm_vi 0]) (d' := d - 1) (bc' := 0) (bs' := 0) (by decide +kernel) (by decide +kernel) (by decide +kernel) (by decide +kernel) (e0k hE (k := 4) (c := 2) (by decide +kernel)).1 (e0k hE (k := 4) (c := 2) (by decide +kernel)).2 (by decide) (by decide +kernel) (show 2 = gm_na 10 by decide +kernel) (fw_c2 fw_si fw_si) (show 3 ≤ gm_ml 10 by decide +kernel) (Nat.le_of_ble_eq_true rfl) (by omega) (Nat.zero_le _) (Nat.zero_le _) ?_
    refine rw_get (s := N 2) (w := 7) (x := N (15 + ((k : Int) * 7 + 0))) (e0k hE (k := 4) (c := 2) (by decide +kernel)) (e0a hE (k := 5) (q := (0, 56)) (by decide +kernel)) (e0r hE (k := 4) (j := 2) (r := 5) (by decide +kernel)) (by decide) ((fr_c hf (by decide)).trans (tq_sec hT)) ((fr_c hf (by decide)).trans (hT.1 (4, 1, 7) (by decide))) ⟨by omega, by omega⟩ ⟨by omega, by omega⟩ ⟨by omega, by omega⟩ ⟨by omega, by omega⟩ ((fr_c hf (by decide)).trans (tq_aS hT (by omega) (by omega))) ?_
    show gm_Wp X LX d _ _ 7 37 _ [gm_vi (N (15 + ((k : Int) * 7 + 0))), gm_vi 0] n K _ _ Q
    refine gm_sz (gm_p_max (pc := 37) (ix := 77) (x := 0) (y := N (15 + ((k : Int) * 7 + 0))) (by decide +kernel) (by decide +kernel) (gm_w_id (by omega) (by omega)) (gm_w_id (by omega) (by omega)) (Nat.le_of_ble_eq_true rfl) (by omega)) ?_
    rw [show max 0 (N (15 + ((k : Int) * 7 + 0))) = N (15 + ((k : Int) * 7 + 0)) by omega]
    refine gm_sz (gm_p_stor (pc := 40) (i := .istore_n 2) (sr := 0) (j := 2) (by decide +kernel) rfl (show 3 ≤ _ from Nat.le_of_ble_eq_true rfl) rfl) ?_
    refine gm_sz (gm_p_const (pc := 41) (i := .iconst 0) (v := gm_vi 0) (by decide +kernel) (by decide +kernel)) ?_
    refine gm_sz (gm_p_stor (pc := 42) (i := .istore_n 3) (sr := 0) (j := 3) (by decide +kernel) rfl (show 4 ≤ _ from Nat.le_of_ble_eq_true rfl) rfl) ?_
    refine rs_n hd hE (tq_fr hT hf (by decide) (by decide +kernel)) hN hS (by omega) e0 (fun M2 z4 z5 l hf2 hl hs2 => ?_) (N 0).toNat 0 _ _ M1 (by omega) (Int.le_refl _) (by decide) fr_0 hs
    refine gm_sz (gm_p_iinc (pc := 124) (j := 1) (z := 1) (by decide +kernel) rfl) ?_
    refine gm_sz (gm_p_goto (pc := 127) (off := (-117)) (by decide +kernel) (by decide)) ?_
    exact ih (k + 1) _ _ _ _ M2 (by omega) (fr_t hf hf2 (by decide)) (sp2_n hs2 hl)
theorem rs_c7 (hd : 1 ≤ d) (hE : E0 n K R) (hT : TQ N M) (hN : NR N) (hS : NS N) (hq : ∀ M2, fr [(202, none)] M M2 → (∀ l2 r, 0 ≤ l2 → l2 < 6 → 0 ≤ r → r < 99 → M2 202 (l2 * 99 + r) = spd N l2 r) → Q (.inl none) n K R M2) : gm_Wp X LX d bc bs 7 0 (gm_ent 7 [gm_vr 200]) [] n K R M Q := by
  have b2 := hN.2.1.1
  refine gm_sz (gm_p_load (pc := 0) (i := .aload_n 0) (sr := 2) (j := 0) (by decide +kernel) rfl rfl rfl) ?_
  refine gm_sz (fw_gr (pc := 1) (ix := 15) (ci := 4) (j := 2) (r := 202) (by decide +kernel) (e0k hE (k := 200) (c := 4) (by decide +kernel)) (by decide +kernel) (by decide +kernel) (e0r hE (k := 200) (j := 2) (r := 202) (by decide +kernel))) ?_
  refine gm_sz (gm_p_const (pc := 4) (i := .iconst 0) (v := gm_vi 0) (by decide +kernel) (by decide +kernel)) ?_
  refine gm_c_stat (mj := 8) (ix := 57) (pc := 5) (as := [gm_vr 202, gm_vi 0]) (st := []) (d' := d - 1) (bc' := 0) (bs' := 0) (by decide +kernel) (by decide +kernel) (by decide +kernel) (by decide +kernel) (show 2 = gm_na 8 by decide +kernel) (fw_c2 fw_sr fw_si) (show 2 ≤ gm_ml 8 by decide +kernel) (Nat.le_of_ble_eq_true rfl) (by omega) (Nat.zero_le _) (Nat.zero_le _) ?_
  refine fl_c8 (e0a hE (k := 202) (q := (0, 594)) (by decide +kernel)) (by decide) ?_
  show gm_Wp X LX d _ _ 7 8 _ [] n K _ _ Q
  refine gm_sz (gm_p_const (pc := 8) (i := .iconst 0) (v := gm_vi 0) (by decide +kernel) (by decide +kernel)) ?_
  refine gm_sz (gm_p_stor (pc := 9) (i := .istore_n 1) (sr := 0) (j := 1) (by decide +kernel) rfl (show 2 ≤ _ from Nat.le_of_ble_eq_true rfl) rfl) ?_
  exact rs_s hd hE hT hN hS hq (N 2).toNat 0 _ _ _ _ _ (by omega) (fr_t fr_0 gm_fil_fr (by decide)) (sp2_z (fun j j0 j1 => gm_fil_in j0 j1))
theorem rf_l (hd : 1 ≤ d) (hE : E0 n K R) (hT : TQ N M) (hN : NR N) (hq : ∀ M2, fr [(203, none)] M M2 → (∀ y, 0 ≤ y → y < 300 → gm_ir (M2 203 y) ∧ fbit N y (M2 203 y)) → Q (.inl none) n K R M2) : ∀ (u k : Nat) (z2 : Option gm_V) (M1 : gm_M), (k : Int) + (u : Int) = N 5 → fr [(203, none)] M M1 → (∀ y, 0 ≤ y → y < 300 → fbk N k y (M1 203 y)) → gm_Wp X LX d bc bs 12 10 [some (gm_vr 200), some (gm_vi (k : Int)), z2] [] n K R M1 Q := by
  have b5 := hN.2.1.2.1
  intro u
  induction u with
  | zero =>
    intro k z2 M1 hu hf hb
    refine gm_sz (gm_p_load (pc := 10) (i := .iload_n 1) (sr := 0) (j := 1) (by decide +kernel) rfl rfl rfl) ?_
    refine gm_sz (gm_p_load (pc := 11) (i := .aload_n 0) (sr := 2) (j := 0) (by decide +kernel) rfl rfl rfl) ?_
    refine gm_sz (fw_gr (pc := 12) (ix := 34) (ci := 4) (j := 0) (r := 3) (by decide +kernel) (e0k hE (k := 200) (c := 4) (by decide +kernel)) (by decide +kernel) (by decide +kernel) (e0r hE (k := 200) (j := 0) (r := 3) (by decide +kernel))) ?_
    refine gm_sz (fw_gr (pc := 15) (ix := 88) (ci := 1) (j := 10) (r := 6) (by decide +kernel) (e0k hE (k := 3) (c := 1) (by decide +kernel)) (by decide +kernel) (by decide +kernel) (e0r hE (k := 3) (j := 10) (r := 6) (by decide +kernel))) ?_
    refine gm_c_virt (k := 6) (ci := 2) (mj := 9) (ix := 67) (pc := 18) (as := []) (st := [gm_vi (k : Int)]) (d' := d - 1) (bc' := 0) (bs' := 0) (by decide +kernel) (by decide +kernel) (by decide +kernel) (by decide +kernel) (e0k hE (k := 6) (c := 2) (by decide +kernel)).1 (e0k hE (k := 6) (c := 2) (by decide +kernel)).2 (by decide) (by decide +kernel) (show 0 = gm_na 9 by decide +kernel) fw_c0 (show 1 ≤ gm_ml 9 by decide +kernel) (Nat.le_of_ble_eq_true rfl) (by omega) (Nat.zero_le _) (Nat.zero_le _) ?_
    refine rw_size (s := N 5) (e0k hE (k := 6) (c := 2) (by decide +kernel)) ((fr_c hf (by decide)).trans (tq_flo hT)) ?_
    show gm_Wp X LX d _ _ 12 21 _ [gm_vi (N 5), gm_vi (k : Int)] n K _ _ Q
    refine fw_ict (cc := .ge) (pc := 21) (off := 45) (by decide +kernel) (by decide) ⟨by omega, by omega⟩ ⟨by omega, by omega⟩ (show (N 5) ≤ (k : Int) by omega) ?_
    exact gm_r_void (pc := 66) (by decide +kernel) (by decide +kernel) (hq M1 hf (fun y y0 y1 => fbk_f (hb y y0 y1) (by omega)))
  | succ u ih =>
    intro k z2 M1 hu hf hb
    obtain ⟨⟨f0, f1⟩, -⟩ := hN.2.2.1 (k : Int) (by omega) (by omega)
    have f0 : 0 ≤ N (71 + ((k : Int) * 3 + 0)) := f0
    have f1 : N (71 + ((k : Int) * 3 + 0)) ≤ 299 := f1
    refine gm_sz (gm_p_load (pc := 10) (i := .iload_n 1) (sr := 0) (j := 1) (by decide +kernel) rfl rfl rfl) ?_
    refine gm_sz (gm_p_load (pc := 11) (i := .aload_n 0) (sr := 2) (j := 0) (by decide +kernel) rfl rfl rfl) ?_
    refine gm_sz (fw_gr (pc := 12) (ix := 34) (ci := 4) (j := 0) (r := 3) (by decide +kernel) (e0k hE (k := 200) (c := 4) (by decide +kernel)) (by decide +kernel) (by decide +kernel) (e0r hE (k := 200) (j := 0) (r := 3) (by decide +kernel))) ?_
    refine gm_sz (fw_gr (pc := 15) (ix := 88) (ci := 1) (j := 10) (r := 6) (by decide +kernel) (e0k hE (k := 3) (c := 1) (by decide +kernel)) (by decide +kernel) (by decide +kernel) (e0r hE (k := 3) (j := 10) (r := 6) (by decide +kernel))) ?_
    refine gm_c_virt (k := 6) (ci := 2) (mj := 9) (ix := 67) (pc := 18) (as := []) (st := [gm_vi (k : Int)]) (d' := d - 1) (bc' := 0) (bs' := 0) (by decide +kernel) (by decide +kernel) (by decide +kernel) (by decide +kernel) (e0k hE (k := 6) (c := 2) (by decide +kernel)).1 (e0k hE (k := 6) (c := 2) (by decide +kernel)).2 (by decide) (by decide +kernel) (show 0 = gm_na 9 by decide +kernel) fw_c0 (show 1 ≤ gm_ml 9 by decide +kernel) (Nat.le_of_ble_eq_true rfl) (by omega) (Nat.zero_le _) (Nat.zero_le _) ?_
    refine rw_size (s := N 5) (e0k hE (k := 6) (c := 2) (by decide +kernel)) ((fr_c hf (by decide)).trans (tq_flo hT)) ?_
    show gm_Wp X LX d _ _ 12 21 _ [gm_vi (N 5), gm_vi (k : Int)] n K _ _ Q
    refine fw_icf (cc := .ge) (pc := 21) (off := 45) (by decide +kernel) (by decide) ⟨by omega, by omega⟩ ⟨by omega, by omega⟩ (show ¬ (N 5) ≤ (k : Int) by omega) ?_
    refine gm_sz (gm_p_load (pc := 24) (i := .aload_n 0) (sr := 2) (j := 0) (by decide +kernel) rfl rfl rfl) ?_
    refine gm_sz (fw_gr (pc := 25) (ix := 34) (ci := 4) (j := 0) (r := 3) (by decide +kernel) (e0k hE (k := 200) (c := 4) (by decide +kernel)) (by decide +kernel) (by decide +kernel) (e0r hE (k := 200) (j := 0) (r := 3) (by decide +kernel))) ?_
    refine gm_sz (fw_gr (pc := 28) (ix := 88) (ci := 1) (j := 10) (r := 6) (by decide +kernel) (e0k hE (k := 3) (c := 1) (by decide +kernel)) (by decide +kernel) (by decide +kernel) (e0r hE (k := 3) (j := 10) (r := 6) (by decide +kernel))) ?_
    refine gm_sz (gm_p_load (pc := 31) (i := .iload_n 1) (sr := 0) (j := 1) (by decide +kernel) rfl rfl rfl) ?_
    refine gm_sz (gm_p_const (pc := 32) (i := .iconst 0) (v := gm_vi 0) (by decide +kernel) (by decide +kernel)) ?_
    refine gm_c_virt (k := 6) (ci := 2) (mj := 10) (ix := 73) (pc := 33) (as := [gm_vi (k : Int), gm_vi 0]) (st := []) (d' := d - 1) (bc' := 0) (bs' := 0) (by decide +kernel) (by decide +kernel) (by decide +kernel) (by decide +kernel) (e0k hE (k := 6) (c := 2) (by decide +kernel)).1 (e0k hE (k := 6) (c := 2) (by decide +kernel)).2 (by decide) (by decide +kernel) (show 2 = gm_na 10 by decide +kernel) (fw_c2 fw_si fw_si) (show 3 ≤ gm_ml 10 by decide +kernel) (Nat.le_of_ble_eq_true rfl) (by omega) (Nat.zero_le _) (Nat.zero_le _) ?_
    refine rw_get (s := N 5) (w := 3) (x := N (71 + ((k : Int) * 3 + 0))) (e0k hE (k := 6) (c := 2) (by decide +kernel)) (e0a hE (k := 7) (q := (0, 24)) (by decide +kernel)) (e0r hE (k := 6) (j := 2) (r := 7) (by decide +kernel)) (by decide) ((fr_c hf (by decide)).trans (tq_flo hT)) ((fr_c hf (by decide)).trans (hT.1 (6, 1, 3) (by decide))) ⟨by omega, by omega⟩ ⟨by omega, by omega⟩ ⟨by omega, by omega⟩ ⟨by omega, by omega⟩ ((fr_c hf (by decide)).trans (tq_aF hT (by omega) (by omega))) ?_
    show gm_Wp X LX d _ _ 12 36 _ [gm_vi (N (71 + ((k : Int) * 3 + 0)))] n K _ _ Q
    refine gm_sz (gm_p_stor (pc := 36) (i := .istore_n 2) (sr := 0) (j := 2) (by decide +kernel) rfl (show 3 ≤ _ from Nat.le_of_ble_eq_true rfl) rfl) ?_
    refine gm_sz (gm_p_load (pc := 37) (i := .iload_n 2) (sr := 0) (j := 2) (by decide +kernel) rfl rfl rfl) ?_
    refine fw_iff (cc := .lt) (pc := 38) (off := 22) (by decide +kernel) (by decide) ⟨by omega, by omega⟩ (show ¬ (N (71 + ((k : Int) * 3 + 0))) < 0 by omega) ?_
    refine gm_sz (gm_p_load (pc := 41) (i := .iload_n 2) (sr := 0) (j := 2) (by decide +kernel) rfl rfl rfl) ?_
    refine gm_sz (gm_p_const (pc := 42) (i := .sipush 300) (v := gm_vi 300) (by decide +kernel) (by decide +kernel)) ?_
    refine fw_icf (cc := .ge) (pc := 45) (off := 15) (by decide +kernel) (by decide) ⟨by omega, by omega⟩ ⟨by decide, by decide⟩ (show ¬ 300 ≤ (N (71 + ((k : Int) * 3 + 0))) by omega) ?_
    refine gm_sz (gm_p_load (pc := 48) (i := .aload_n 0) (sr := 2) (j := 0) (by decide +kernel) rfl rfl rfl) ?_
    refine gm_sz (fw_gr (pc := 49) (ix := 18) (ci := 4) (j := 3) (r := 203) (by decide +kernel) (e0k hE (k := 200) (c := 4) (by decide +kernel)) (by decide +kernel) (by decide +kernel) (e0r hE (k := 200) (j := 3) (r := 203) (by decide +kernel))) ?_
    refine gm_sz (gm_p_load (pc := 52) (i := .iload_n 2) (sr := 0) (j := 2) (by decide +kernel) rfl rfl rfl) ?_
    refine gm_sz (gm_p_dup2 (pc := 53) (by decide +kernel) fw_si fw_sr) ?_
    refine gm_sz (fw_ia (pc := 54) (k := 203) (len := 300) (e0 := N (71 + ((k : Int) * 3 + 0))) (x := M1 203 (N (71 + ((k : Int) * 3 + 0)))) (by decide +kernel) (e0a hE (k := 203) (q := (0, 300)) (by decide +kernel)).1 (e0a hE (k := 203) (q := (0, 300)) (by decide +kernel)).2 (by decide) ⟨by omega, by omega⟩ rfl) ?_
    refine gm_sz (gm_p_const (pc := 55) (i := .iconst 1) (v := gm_vi 1) (by decide +kernel) (by decide +kernel)) ?_
    refine gm_sz (gm_p_load (pc := 56) (i := .iload_n 1) (sr := 0) (j := 1) (by decide +kernel) rfl rfl rfl) ?_
    refine gm_sz (gm_p_bin (pc := 57) (i := .ishl) (f := gm_shl) (by decide +kernel) rfl) ?_
    refine gm_sz (gm_p_bin (pc := 58) (i := .ior) (f := gm_or) (by decide +kernel) rfl) ?_
    refine gm_sz (fw_is (pc := 59) (k := 203) (len := 300) (e0 := N (71 + ((k : Int) * 3 + 0))) (x := gm_or (M1 203 (N (71 + ((k : Int) * 3 + 0)))) (gm_shl 1 (k : Int))) (M' := gm_uM M1 203 (N (71 + ((k : Int) * 3 + 0))) (gm_or (M1 203 (N (71 + ((k : Int) * 3 + 0)))) (gm_shl 1 (k : Int)))) (by decide +kernel) (e0a hE (k := 203) (q := (0, 300)) (by decide +kernel)).1 (e0a hE (k := 203) (q := (0, 300)) (by decide +kernel)).2 (by decide) ⟨by omega, by omega⟩ rfl) ?_
    refine gm_sz (gm_p_iinc (pc := 60) (j := 1) (z := 1) (by decide +kernel) rfl) ?_
    refine gm_sz (gm_p_goto (pc := 63) (off := (-53)) (by decide +kernel) (by decide)) ?_
    refine ih (k + 1) _ _ (by omega) (fr_p (fr_t fr_0 hf (by decide)) (Or.inl (by decide))) (fun y y0 y1 => ?_)
    by_cases e : y = N (71 + ((k : Int) * 3 + 0))
    · rw [e, uM_at]
      exact fbk_y (hb _ (by omega) (by omega)) rfl (by omega)
    · rw [uM_ne (fun hh => e hh.2)]
      exact fbk_n (hb y y0 y1) (fun hh => e hh.symm)
theorem rf_c12 (hd : 1 ≤ d) (hE : E0 n K R) (hT : TQ N M) (hN : NR N) (hq : ∀ M2, fr [(203, none)] M M2 → (∀ y, 0 ≤ y → y < 300 → gm_ir (M2 203 y) ∧ fbit N y (M2 203 y)) → Q (.inl none) n K R M2) : gm_Wp X LX d bc bs 12 0 (gm_ent 12 [gm_vr 200]) [] n K R M Q := by
  have b5 := hN.2.1.2.1
  refine gm_sz (gm_p_load (pc := 0) (i := .aload_n 0) (sr := 2) (j := 0) (by decide +kernel) rfl rfl rfl) ?_
  refine gm_sz (fw_gr (pc := 1) (ix := 18) (ci := 4) (j := 3) (r := 203) (by decide +kernel) (e0k hE (k := 200) (c := 4) (by decide +kernel)) (by decide +kernel) (by decide +kernel) (e0r hE (k := 200) (j := 3) (r := 203) (by decide +kernel))) ?_
  refine gm_sz (gm_p_const (pc := 4) (i := .iconst 0) (v := gm_vi 0) (by decide +kernel) (by decide +kernel)) ?_
  refine gm_c_stat (mj := 8) (ix := 57) (pc := 5) (as := [gm_vr 203, gm_vi 0]) (st := []) (d' := d - 1) (bc' := 0) (bs' := 0) (by decide +kernel) (by decide +kernel) (by decide +kernel) (by decide +kernel) (show 2 = gm_na 8 by decide +kernel) (fw_c2 fw_sr fw_si) (show 2 ≤ gm_ml 8 by decide +kernel) (Nat.le_of_ble_eq_true rfl) (by omega) (Nat.zero_le _) (Nat.zero_le _) ?_
  refine fl_c8 (e0a hE (k := 203) (q := (0, 300)) (by decide +kernel)) (by decide) ?_
  show gm_Wp X LX d _ _ 12 8 _ [] n K _ _ Q
  refine gm_sz (gm_p_const (pc := 8) (i := .iconst 0) (v := gm_vi 0) (by decide +kernel) (by decide +kernel)) ?_
  refine gm_sz (gm_p_stor (pc := 9) (i := .istore_n 1) (sr := 0) (j := 1) (by decide +kernel) rfl (show 2 ≤ _ from Nat.le_of_ble_eq_true rfl) rfl) ?_
  refine rf_l hd hE hT hN hq (N 5).toNat 0 _ _ (by omega) (fr_t fr_0 gm_fil_fr (by decide)) (fun y y0 y1 => ?_)
  rw [show gm_fil M 203 ((300 : Nat) : Int) 0 203 y = 0 from gm_fil_in y0 y1]
  exact fbk_0
theorem rn_c5 (hd : 2 ≤ d) (hE : E0 n K R) (hT : TQ N M) (hN : NR N) (hS : NS N) (hq : ∀ M2, fr [(201, none), (202, none), (203, none), (200, some 6)] M M2 → TI N (hts (N 13)) (spd N) M2 → M2 200 6 = 1 → Q (.inl none) n K R M2) : gm_Wp X LX d bc bs 5 0 (gm_ent 5 [gm_vr 200]) [] n K R M Q := by
  refine gm_sz (gm_p_load (pc := 0) (i := .aload_n 0) (sr := 2) (j := 0) (by decide +kernel) rfl rfl rfl) ?_
  refine gm_c_virt (k := 200) (ci := 4) (mj := 6) (ix := 41) (pc := 1) (as := []) (st := []) (d' := d - 1) (bc' := 0) (bs' := 0) (by decide +kernel) (by decide +kernel) (by decide +kernel) (by decide +kernel) (e0k hE (k := 200) (c := 4) (by decide +kernel)).1 (e0k hE (k := 200) (c := 4) (by decide +kernel)).2 (by decide) (by decide +kernel) (show 0 = gm_na 6 by decide +kernel) fw_c0 (show 1 ≤ gm_ml 6 by decide +kernel) (Nat.le_of_ble_eq_true rfl) (by omega) (Nat.zero_le _) (Nat.zero_le _) ?_
  refine rh_c6 hE hT hN (fun M6 hf6 hh6 => ?_)
  show gm_Wp X LX d _ _ 5 4 _ [] n K _ _ Q
  refine gm_sz (gm_p_load (pc := 4) (i := .aload_n 0) (sr := 2) (j := 0) (by decide +kernel) rfl rfl rfl) ?_
  refine gm_c_virt (k := 200) (ci := 4) (mj := 7) (ix := 44) (pc := 5) (as := []) (st := []) (d' := d - 1) (bc' := 0) (bs' := 0) (by decide +kernel) (by decide +kernel) (by decide +kernel) (by decide +kernel) (e0k hE (k := 200) (c := 4) (by decide +kernel)).1 (e0k hE (k := 200) (c := 4) (by decide +kernel)).2 (by decide) (by decide +kernel) (show 0 = gm_na 7 by decide +kernel) fw_c0 (show 1 ≤ gm_ml 7 by decide +kernel) (Nat.le_of_ble_eq_true rfl) (by omega) (Nat.zero_le _) (Nat.zero_le _) ?_
  refine rs_c7 (by omega) hE (tq_fr (W := [(201, none)]) hT (fr_t fr_0 hf6 (by decide)) (by decide) (by decide +kernel)) hN hS (fun M7 hf7 hh7 => ?_)
  show gm_Wp X LX d _ _ 5 8 _ [] n K _ _ Q
  refine gm_sz (gm_p_load (pc := 8) (i := .aload_n 0) (sr := 2) (j := 0) (by decide +kernel) rfl rfl rfl) ?_
  refine gm_c_virt (k := 200) (ci := 4) (mj := 12) (ix := 47) (pc := 9) (as := []) (st := []) (d' := d - 1) (bc' := 0) (bs' := 0) (by decide +kernel) (by decide +kernel) (by decide +kernel) (by decide +kernel) (e0k hE (k := 200) (c := 4) (by decide +kernel)).1 (e0k hE (k := 200) (c := 4) (by decide +kernel)).2 (by decide) (by decide +kernel) (show 0 = gm_na 12 by decide +kernel) fw_c0 (show 1 ≤ gm_ml 12 by decide +kernel) (Nat.le_of_ble_eq_true rfl) (by omega) (Nat.zero_le _) (Nat.zero_le _) ?_
  refine rf_c12 (by omega) hE (tq_fr (W := [(201, none), (202, none)]) hT (fr_t (fr_t fr_0 hf6 (by decide)) hf7 (by decide)) (by decide) (by decide +kernel)) hN (fun M12 hf12 hh12 => ?_)
  show gm_Wp X LX d _ _ 5 12 _ [] n K _ _ Q
  refine gm_sz (gm_p_load (pc := 12) (i := .aload_n 0) (sr := 2) (j := 0) (by decide +kernel) rfl rfl rfl) ?_
  refine gm_sz (gm_p_const (pc := 13) (i := .iconst 1) (v := gm_vi 1) (by decide +kernel) (by decide +kernel)) ?_
  refine gm_sz (fw_pz (pc := 14) (ix := 30) (ci := 4) (j := 6) (M' := gm_uM M12 200 6 1) (by decide +kernel) (e0k hE (k := 200) (c := 4) (by decide +kernel)) (by decide +kernel) (by decide +kernel) (by decide +kernel) (Or.inr rfl) rfl) ?_
  have t9 : TQ N (gm_uM M12 200 6 1) := (tq_fr (W := [(201, none), (202, none), (203, none), (200, some 6)]) hT (fr_p (fr_t (fr_t (fr_t fr_0 hf6 (by decide)) hf7 (by decide)) hf12 (by decide)) (Or.inr (by decide))) (by decide) (by decide +kernel))
  refine gm_r_void (pc := 17) (by decide +kernel) (by decide +kernel) (hq (gm_uM M12 200 6 1) (fr_p (fr_t (fr_t (fr_t fr_0 hf6 (by decide)) hf7 (by decide)) hf12 (by decide)) (Or.inr (by decide))) ⟨t9.1, t9.2, fun y y0 y1 => ?_, fun l r l0 l1 r0 r1 => ?_⟩ uM_at)
  · rw [show (gm_uM M12 200 6 1) 201 y = M6 201 y from (uM_ne (by omega)).trans ((fr_c hf12 (by decide)).trans (fr_c hf7 (by decide))), show (gm_uM M12 200 6 1) 203 y = M12 203 y from uM_ne (by omega)]
    exact ⟨hh6 y y0 y1, hts_b, (hh12 y y0 y1).1, (hh12 y y0 y1).2⟩
  · rw [show (gm_uM M12 200 6 1) 202 (l * 99 + r) = M7 202 (l * 99 + r) from (uM_ne (by omega)).trans (fr_c hf12 (by decide))]
    exact hh7 l r l0 l1 r0 r1
theorem fg_c62 (hE : E0 n K R) (q0 : Q (.inl (none)) n K R (gm_uM M 42 2 0)) : gm_Wp X LX d bc bs 62 0 (gm_ent 62 [gm_vr 42]) [] n K R M Q := by
  refine gm_sz (gm_p_load (pc := 0) (i := .aload_n 0) (sr := 2) (j := 0) (by decide +kernel) rfl rfl rfl) ?_
  refine gm_sz (gm_p_const (pc := 1) (i := .iconst 0) (v := gm_vi 0) (by decide +kernel) (by decide +kernel)) ?_
  refine gm_sz (fw_pi (pc := 2) (ix := 21) (ci := 3) (j := 2) (M' := gm_uM M 42 2 0) (by decide +kernel) (e0k hE (k := 42) (c := 3) (by decide +kernel)) (by decide +kernel) (by decide +kernel) (by decide +kernel) rfl) ?_
  exact gm_r_void (pc := 5) (by decide +kernel) (by decide +kernel) q0
theorem fw_c61 (hd : 3 ≤ d) (hE : E0 n K R) (hT : TQ N M) (hN : NR N) (hS : NS N) (hq : ∀ M2, fr [(201, none), (202, none), (203, none), (200, some 6), (42, some 2), (1, some 15)] M M2 → TI N (hts (N 13)) (spd N) M2 → M2 200 6 = 1 → M2 42 2 = 0 → M2 1 15 = 0 → Q (.inl none) n K R M2) : gm_Wp X LX d bc bs 61 0 (gm_ent 61 [gm_vr 1]) [] n K R M Q := by
  refine gm_sz (gm_p_load (pc := 0) (i := .aload_n 0) (sr := 2) (j := 0) (by decide +kernel) rfl rfl rfl) ?_
  refine gm_sz (fw_gr (pc := 1) (ix := 49) (ci := 0) (j := 8) (r := 200) (by decide +kernel) (e0k hE (k := 1) (c := 0) (by decide +kernel)) (by decide +kernel) (by decide +kernel) (e0r hE (k := 1) (j := 8) (r := 200) (by decide +kernel))) ?_
  refine gm_c_virt (k := 200) (ci := 4) (mj := 5) (ix := 154) (pc := 4) (as := []) (st := []) (d' := d - 1) (bc' := 0) (bs' := 0) (by decide +kernel) (by decide +kernel) (by decide +kernel) (by decide +kernel) (e0k hE (k := 200) (c := 4) (by decide +kernel)).1 (e0k hE (k := 200) (c := 4) (by decide +kernel)).2 (by decide) (by decide +kernel) (show 0 = gm_na 5 by decide +kernel) fw_c0 (show 1 ≤ gm_ml 5 by decide +kernel) (Nat.le_of_ble_eq_true rfl) (by omega) (Nat.zero_le _) (Nat.zero_le _) ?_
  refine rn_c5 (by omega) hE hT hN hS (fun M5 hf5 ht5 h56 => ?_)
  show gm_Wp X LX d _ _ 61 7 _ [] n K _ _ Q
  refine gm_sz (gm_p_load (pc := 7) (i := .aload_n 0) (sr := 2) (j := 0) (by decide +kernel) rfl rfl rfl) ?_
  refine gm_sz (fw_gr (pc := 8) (ix := 40) (ci := 0) (j := 7) (r := 42) (by decide +kernel) (e0k hE (k := 1) (c := 0) (by decide +kernel)) (by decide +kernel) (by decide +kernel) (e0r hE (k := 1) (j := 7) (r := 42) (by decide +kernel))) ?_
  refine gm_c_virt (k := 42) (ci := 3) (mj := 62) (ix := 157) (pc := 11) (as := []) (st := []) (d' := d - 1) (bc' := 0) (bs' := 0) (by decide +kernel) (by decide +kernel) (by decide +kernel) (by decide +kernel) (e0k hE (k := 42) (c := 3) (by decide +kernel)).1 (e0k hE (k := 42) (c := 3) (by decide +kernel)).2 (by decide) (by decide +kernel) (show 0 = gm_na 62 by decide +kernel) fw_c0 (show 1 ≤ gm_ml 62 by decide +kernel) (Nat.le_of_ble_eq_true rfl) (by omega) (Nat.zero_le _) (Nat.zero_le _) ?_
  refine fg_c62 hE ?_
  show gm_Wp X LX d _ _ 61 14 _ [] n K _ _ Q
  refine gm_sz (gm_p_load (pc := 14) (i := .aload_n 0) (sr := 2) (j := 0) (by decide +kernel) rfl rfl rfl) ?_
  refine gm_sz (gm_p_const (pc := 15) (i := .iconst 0) (v := gm_vi 0) (by decide +kernel) (by decide +kernel)) ?_
  refine gm_sz (fw_pz (pc := 16) (ix := 101) (ci := 0) (j := 15) (M' := gm_uM (gm_uM M5 42 2 0) 1 15 0) (by decide +kernel) (e0k hE (k := 1) (c := 0) (by decide +kernel)) (by decide +kernel) (by decide +kernel) (by decide +kernel) (Or.inl rfl) rfl) ?_
  refine gm_r_void (pc := 19) (by decide +kernel) (by decide +kernel) (hq (gm_uM (gm_uM M5 42 2 0) 1 15 0) (fr_p (fr_p (fr_t fr_0 hf5 (by decide)) (Or.inr (by decide))) (Or.inr (by decide))) (ti_fr (W := [(42, some 2), (1, some 15)]) ht5 (fr_p (fr_p fr_0 (Or.inr (by decide))) (Or.inr (by decide))) (by decide) (by decide +kernel)) ((uM_ne (by omega)).trans ((uM_ne (by omega)).trans h56)) ((uM_ne (by omega)).trans uM_at) uM_at)
end RN14
end
