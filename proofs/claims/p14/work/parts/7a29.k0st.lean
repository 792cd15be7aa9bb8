/-! WHAT A TEXT OF A LAW TELLS, by tokens: its lines, each condition as steps behind one another. -/
section KS0
variable (f : Int → Int) (e : Int)
noncomputable def s_fc (b : Int) : Int := tif (tx_is f e b wo_lane) 0 (tif (tx_is f e b wo_row) 1 (tif (tx_is f e b wo_year) 2 (tif (tx_is f e b wo_heat) 3 (tif (tx_is f e b wo_speed) 4 (tif (tx_is f e b wo_person) 5 (tif (tx_is f e b wo_age) 6 7))))))
noncomputable def s_pt (b : Int) : Int × Int := tif (tx_k f e b = 258) (10, tx_v f e 3 b) (s_fc f e b, 0)
noncomputable def s_sum : Nat → Int → List (Int × Int)
  | 0, _ => []
  | t + 1, b => s_pt f e b :: tif (tx_k f e (tx_n f e b) = 43) (s_sum t (tx_n f e (tx_n f e b))) []
noncomputable def s_atm (SA SC : Int → List lst) (b : Int) : List lst :=
  tif (tx_is f e b wo_not) (SA (tx_n f e b) ++ [(14, false, [], [])])
    (tif (tx_k f e b = 40) (SC (tx_n f e b))
      (tif (tx_is f e b wo_side) [(8, false, [], [])] (tif (tx_is f e b wo_first) [(9, false, [], [])]
        [(0, decide (tx_k f e (g_sum f e 400 b).2 = 62), s_sum f e 400 b, s_sum f e 400 (tx_n f e (g_sum f e 400 b).2))])))
noncomputable def s_all (A : Int → Bool × Int) (SA : Int → List lst) : Nat → Bool → Int → List lst
  | 0, _, _ => []
  | t + 1, fst, b => SA b ++ ((if fst = true then [] else [(15, false, [], [])]) ++ tif (tx_is f e (A b).2 wo_and) (s_all A SA t false (tx_n f e (A b).2)) [])
noncomputable def s_cnd (A : Int → Bool × Int) (SA : Int → List lst) : Nat → Bool → Int → List lst
  | 0, _, _ => []
  | t + 1, fst, b => s_all f e A SA 400 true b ++ ((if fst = true then [] else [(16, false, [], [])]) ++ tif (tx_is f e (g_all f e A 400 b).2 wo_or) (s_cnd A SA t false (tx_n f e (g_all f e A 400 b).2)) [])
noncomputable def s_at : Nat → Int → List lst
  | 0 => s_atm f e (fun _ => []) (fun _ => [])
  | k + 1 => s_atm f e (s_at k) (fun b => s_cnd f e (g_at f e k) (s_at k) 400 true b)
noncomputable def s_cd (k : Nat) (b : Int) : List lst := s_cnd f e (g_at f e k) (s_at f e k) 400 true b
noncomputable def s_if (b : Int) : Option (List lst) := tif (tx_is f e b wo_if) (some (s_cd f e 6 (tx_n f e b))) none
noncomputable def s_line (b : Int) : lln := tif (tx_is f e b wo_open) (2, 0, s_if f e (tx_n f e b)) (tif (tx_is f e b wo_fast) (0, tx_v f e 3 (tx_n f e b), s_if f e (tx_n f e (tx_n f e b))) (1, tx_v f e 3 (tx_n f e b), s_if f e (tx_n f e (tx_n f e b))))
noncomputable def s_txt : Nat → Int → List lln
  | 0, _ => []
  | t + 1, b => s_line f e b :: tif (tx_k f e (g_line f e b).2 = 256) [] (tif (tx_k f e (g_line f e b).2 = 59) (s_txt t (tx_n f e (g_line f e b).2)) [])
/-- the law that is told -/
noncomputable def s_law : List lln := tif (tx_k f e (tx_g f e 0) = 256) [] (s_txt f e 12 (tx_g f e 0))
end KS0
section KS1
variable {f : Int → Int} {e b : Int} {A A2 : Int → Bool × Int} {SA SC : Int → List lst} {t : Nat}
theorem s_sum1 (h2 : ¬ tx_k f e (tx_n f e b) = 43) : s_sum f e (t + 1) b = [s_pt f e b] := by
  show s_pt f e b :: tif _ _ _ = _
  rw [tif_f h2]
theorem s_sum2 (h2 : tx_k f e (tx_n f e b) = 43) : s_sum f e (t + 1) b = s_pt f e b :: s_sum f e t (tx_n f e (tx_n f e b)) := by
  show s_pt f e b :: tif _ _ _ = _
  rw [tif_t h2]
theorem s_a1 (h : tx_is f e b wo_not) : s_atm f e SA SC b = SA (tx_n f e b) ++ [(14, false, [], [])] := tif_t h
theorem s_a3 (h : ¬ tx_is f e b wo_not) (h0 : tx_k f e b = 40) : s_atm f e SA SC b = SC (tx_n f e b) := by
  unfold s_atm
  rw [tif_f h, tif_t h0]
theorem s_a5 (h : ¬ tx_is f e b wo_not) (h0 : ¬ tx_k f e b = 40) (h1 : tx_is f e b wo_side) : s_atm f e SA SC b = [(8, false, [], [])] := by
  unfold s_atm
  rw [tif_f h, tif_f h0, tif_t h1]
theorem s_a6 (h : ¬ tx_is f e b wo_not) (h0 : ¬ tx_k f e b = 40) (h1 : ¬ tx_is f e b wo_side) (h2 : tx_is f e b wo_first) : s_atm f e SA SC b = [(9, false, [], [])] := by
  unfold s_atm
  rw [tif_f h, tif_f h0, tif_f h1, tif_t h2]
theorem s_a8 (h : ¬ tx_is f e b wo_not) (h0 : ¬ tx_k f e b = 40) (h1 : ¬ tx_is f e b wo_side) (h2 : ¬ tx_is f e b wo_first) {g : Bool} (hg : decide (tx_k f e (g_sum f e 400 b).2 = 62) = g) : s_atm f e SA SC b = [(0, g, s_sum f e 400 b, s_sum f e 400 (tx_n f e (g_sum f e 400 b).2))] := by
  unfold s_atm
  rw [tif_f h, tif_f h0, tif_f h1, tif_f h2, hg]
theorem s_l1 {fst : Bool} (h : ¬ tx_is f e (A b).2 wo_and) : s_all f e A SA (t + 1) fst b = SA b ++ (if fst = true then [] else [(15, false, [], [])]) := by
  show SA b ++ ((if fst = true then [] else [(15, false, [], [])]) ++ tif _ _ _) = _
  rw [tif_f h, List.append_nil]
theorem s_l2 {fst : Bool} (h : tx_is f e (A b).2 wo_and) : s_all f e A SA (t + 1) fst b = SA b ++ ((if fst = true then [] else [(15, false, [], [])]) ++ s_all f e A SA t false (tx_n f e (A b).2)) := by
  show SA b ++ ((if fst = true then [] else [(15, false, [], [])]) ++ tif _ _ _) = _
  rw [tif_t h]
theorem s_d1 {fst : Bool} (h : ¬ tx_is f e (g_all f e A 400 b).2 wo_or) : s_cnd f e A SA (t + 1) fst b = s_all f e A SA 400 true b ++ (if fst = true then [] else [(16, false, [], [])]) := by
  show s_all f e A SA 400 true b ++ ((if fst = true then [] else [(16, false, [], [])]) ++ tif _ _ _) = _
  rw [tif_f h, List.append_nil]
theorem s_d2 {fst : Bool} (h : tx_is f e (g_all f e A 400 b).2 wo_or) : s_cnd f e A SA (t + 1) fst b = s_all f e A SA 400 true b ++ ((if fst = true then [] else [(16, false, [], [])]) ++ s_cnd f e A SA t false (tx_n f e (g_all f e A 400 b).2)) := by
  show s_all f e A SA 400 true b ++ ((if fst = true then [] else [(16, false, [], [])]) ++ tif _ _ _) = _
  rw [tif_t h]
theorem s_f1 (h : tx_is f e b wo_if) : s_if f e b = some (s_cd f e 6 (tx_n f e b)) := tif_t h
theorem s_f0 (h : ¬ tx_is f e b wo_if) : s_if f e b = none := tif_f h
theorem s_n1 (h : tx_is f e b wo_open) : s_line f e b = (2, 0, s_if f e (tx_n f e b)) := tif_t h
theorem s_n2 (h : tx_is f e b wo_fast) : s_line f e b = (0, tx_v f e 3 (tx_n f e b), s_if f e (tx_n f e (tx_n f e b))) := by
  unfold s_line
  rw [tif_f (g_ex h (by decide)), tif_t h]
theorem s_n3 (h : tx_is f e b wo_slow) : s_line f e b = (1, tx_v f e 3 (tx_n f e b), s_if f e (tx_n f e (tx_n f e b))) := by
  unfold s_line
  rw [tif_f (g_ex h (by decide)), tif_f (g_ex h (by decide))]
theorem s_t1 (h2 : tx_k f e (g_line f e b).2 = 256) : s_txt f e (t + 1) b = [s_line f e b] := by
  show s_line f e b :: tif _ _ _ = _
  rw [tif_t h2]
theorem s_t3 (h2 : ¬ tx_k f e (g_line f e b).2 = 256) (h3 : tx_k f e (g_line f e b).2 = 59) : s_txt f e (t + 1) b = s_line f e b :: s_txt f e t (tx_n f e (g_line f e b).2) := by
  show s_line f e b :: tif _ _ _ = _
  rw [tif_f h2, tif_t h3]
theorem scds_1 {k : Int} (h : k = 14 ∨ k = 15 ∨ k = 16 ∨ k = 8 ∨ k = 9) : scds [(k, false, [], [])] = [if k = 14 then -15 else if k = 15 then -16 else if k = 16 then -17 else -2 - k] := by
  rcases h with rfl | rfl | rfl | rfl | rfl <;> rfl
theorem scds_c {g : Bool} {x y : List (Int × Int)} : scds [(0, g, x, y)] = x.map pcd ++ ([-12] ++ (y.map pcd ++ [if g = true then -14 else -13])) := by
  show scd (0, g, x, y) ++ [] = _
  rw [List.append_nil]
  rfl
theorem srds_1 {k : Int} (h : k = 14 ∨ k = 15 ∨ k = 16 ∨ k = 8 ∨ k = 9) : srds [(k, false, [], [])] = [(k, 0)] := by
  rcases h with rfl | rfl | rfl | rfl | rfl <;> rfl
theorem srds_c {g : Bool} {x y : List (Int × Int)} : srds [(0, g, x, y)] = rpt x ++ (rpt y ++ [(if g = true then 13 else 12, 0)]) := by
  show srd (0, g, x, y) ++ [] = _
  rw [List.append_nil]
  rfl
/-- a word is as long as it is -/
theorem tx_nw {l : List Int} (h1 : b ≤ e) (h : tx_is f e b l) : b + (l.length : Int) ≤ tx_n f e b := by
  obtain ⟨a1, a2, -⟩ := tx_sb (f := f) h1
  obtain ⟨c1, -, -⟩ := tx_gb (f := f) (e := e) (p := tx_s f e b) a2
  have := h.2.1
  unfold tx_n
  omega
theorem s_fcb : 0 ≤ s_fc f e b ∧ s_fc f e b ≤ 7 := by
  unfold s_fc tif
  repeat' split
  all_goals decide
theorem s_ptw (h : g_pt f e b) : pwf (s_pt f e b) := by
  unfold s_pt
  by_cases h1 : tx_k f e b = 258
  · rw [tif_t h1]
    have a1 := tx_vb (f := f) (e := e) (m := 3) (b := b) (by decide)
    have a2 := tx_v9 (f := f) (e := e) (b := b)
    refine Or.inr ⟨rfl, ?_, a2⟩
    show 0 ≤ tx_v f e 3 b
    rcases h with h | h
    · have := h.2
      omega
    · have := g_fk h
      omega
  · rw [tif_f h1]
    exact Or.inl ⟨s_fcb, rfl⟩
theorem s_sumw : ∀ t b, 0 ≤ b → b ≤ e → (g_sum f e t b).1 = true → (∀ p ∈ s_sum f e t b, pwf p) ∧ ¬ s_sum f e t b = [] ∧ ((s_sum f e t b).length : Int) ≤ (g_sum f e t b).2 - b := by
  intro t
  induction t with
  | zero => exact fun b _ _ h => by cases h
  | succ t ih =>
    intro b h0 h1 h
    obtain ⟨a1, a2, a3⟩ := tx_nb (f := f) h1
    by_cases hp : g_pt f e b
    · have a3 := a3 (g_pk hp)
      have w := s_ptw hp
      by_cases h2 : tx_k f e (tx_n f e b) = 43
      · rw [g_sum2 hp h2] at h ⊢
        rw [s_sum2 h2]
        obtain ⟨c1, c2, c3⟩ := tx_nb (f := f) a2
        obtain ⟨i1, i2, i3⟩ := ih _ (by omega) c2 h
        refine ⟨fun p hm => ?_, (fun hn => by cases hn), ?_⟩
        · rcases List.mem_cons.mp hm with rfl | hm
          · exact w
          · exact i1 p hm
        · rw [List.length_cons]
          omega
      · rw [g_sum1 hp h2, s_sum1 h2]
        refine ⟨fun p hm => ?_, (fun hn => by cases hn), ?_⟩
        · rcases List.mem_cons.mp hm with rfl | hm
          · exact w
          · cases hm
        · show ((1 : Nat) : Int) ≤ tx_n f e b - b
          omega
    · rw [g_sum0 hp] at h
      cases h
/-- what is said of steps: how many codes, how high they lie -/
def s_ok (e : Int) (A : Int → Bool × Int) (SA : Int → List lst) (B : Nat) : Prop := ∀ b, 0 ≤ b → b ≤ e → (A b).1 = true → ((scds (SA b)).length : Int) ≤ (A b).2 - b + 1 ∧ ∀ h : Nat, shg (h + B) (SA b) h (h + 1)
theorem s_atm_ok {ok : Prop} {BA BC B : Nat} (iA : g_in e A) (iC : g_in e A2) (hA : ok → s_ok e A SA BA) (hC : ok → s_ok e A2 SC BC) (hB : 1 ≤ B ∧ (ok → BA ≤ B ∧ BC ≤ B)) : s_ok e (g_atm f e A A2 ok) (s_atm f e SA SC) B := by
  intro b h0 h1 ht
  obtain ⟨n1, n2, n3⟩ := tx_nb (f := f) h1
  by_cases h : tx_is f e b wo_not
  · by_cases h2 : ok
    · rw [g_a1 h h2] at ht ⊢
      rw [s_a1 h]
      have nw := tx_nw h1 h
      have nw : b + 3 ≤ tx_n f e b := nw
      obtain ⟨l1, l2⟩ := hA h2 _ (by omega) n2 ht
      refine ⟨?_, fun k => shg_app _ _ (shg_mono (by have := (hB.2 h2).1; omega) _ _ (l2 k)) ?_⟩
      · rw [scds_app, scds_1 (Or.inl rfl), List.length_append]
        show (((scds (SA (tx_n f e b))).length + 1 : Nat) : Int) ≤ _
        omega
      · exact Or.inr (Or.inl ⟨rfl, by omega, rfl⟩)
    · rw [g_a0 (Or.inl h) h2] at ht
      cases ht
  · by_cases h4 : tx_k f e b = 40
    · by_cases h2 : ok
      · have n3 := n3 (tx_kne (f := f) (by omega))
        by_cases h5 : (A2 (tx_n f e b)).1 = true
        · by_cases h6 : tx_k f e (A2 (tx_n f e b)).2 = 41
          · rw [g_a3 h h4 h2 h5 h6, s_a3 h h4]
            obtain ⟨l1, l2⟩ := hC h2 _ (by omega) n2 h5
            obtain ⟨c1, c2, -⟩ := iC _ (by omega) n2
            obtain ⟨m1, -, -⟩ := tx_nb (f := f) c2
            refine ⟨?_, fun k => shg_mono (by have := (hB.2 h2).2; omega) _ _ (l2 k)⟩
            show _ ≤ tx_n f e (A2 (tx_n f e b)).2 - b + 1
            omega
          · rw [g_a4 h h4 h2 h5 h6] at ht
            cases ht
        · rw [g_a2 h h4 h2 h5] at ht
          exact absurd ht h5
      · rw [g_a0 (Or.inr h4) h2] at ht
        cases ht
    · by_cases h5 : tx_is f e b wo_side
      · rw [g_a5 h h4 (Or.inl h5), s_a5 h h4 h5]
        refine ⟨?_, fun k => Or.inl ⟨Or.inr (Or.inl rfl), by omega, rfl⟩⟩
        have := n3 (g_isb h5)
        show ((1 : Nat) : Int) ≤ tx_n f e b - b + 1
        omega
      · by_cases h6 : tx_is f e b wo_first
        · rw [g_a5 h h4 (Or.inr h6), s_a6 h h4 h5 h6]
          refine ⟨?_, fun k => Or.inl ⟨Or.inr (Or.inr rfl), by omega, rfl⟩⟩
          have := n3 (g_isb h6)
          show ((1 : Nat) : Int) ≤ tx_n f e b - b + 1
          omega
        · by_cases h7 : (g_sum f e 400 b).1 = true
          · by_cases h8 : tx_k f e (g_sum f e 400 b).2 = 60 ∨ tx_k f e (g_sum f e 400 b).2 = 62
            · rw [g_a8 h h4 h5 h6 h7 h8] at ht ⊢
              rw [s_a8 h h4 h5 h6 rfl]
              obtain ⟨c1, c2, -⟩ := g_sum_in (f := f) 400 b h0 h1
              obtain ⟨m1, m2, m3⟩ := tx_nb (f := f) c2
              have m3 := m3 (tx_kne (f := f) (by omega))
              obtain ⟨u1, u2, u3⟩ := s_sumw (f := f) 400 b h0 h1 h7
              obtain ⟨v1, v2, v3⟩ := s_sumw (f := f) 400 _ (by omega) m2 ht
              refine ⟨?_, fun k => Or.inl ⟨Or.inl ⟨rfl, u1, v1, u2, v2⟩, by omega, rfl⟩⟩
              rw [scds_c]
              simp only [List.length_append, List.length_map, List.length_cons, List.length_nil]
              omega
            · rw [g_a7 h h4 h5 h6 h7 h8] at ht
              cases ht
          · rw [g_a6 h h4 h5 h6 h7] at ht
            exact absurd ht h7
theorem s_all_f {B : Nat} (iA : g_in e A) (hA : s_ok e A SA B) : ∀ t b, 0 ≤ b → b ≤ e → (g_all f e A t b).1 = true → ((scds (s_all f e A SA t false b)).length : Int) ≤ (g_all f e A t b).2 - b + 2 ∧ ∀ h : Nat, shg (h + B + 1) (s_all f e A SA t false b) (h + 1) (h + 1) := by
  intro t
  induction t with
  | zero => exact fun b _ _ _ => ⟨by show ((0 : Nat) : Int) ≤ b - b + 2; omega, fun h => rfl⟩
  | succ t ih =>
    intro b h0 h1 ht
    by_cases h : (A b).1 = true
    · obtain ⟨l1, l2⟩ := hA b h0 h1 h
      obtain ⟨a1, a2, -⟩ := iA b h0 h1
      have en : ∀ k : Nat, shg (k + B + 1) [((15 : Int), false, ([] : List (Int × Int)), ([] : List (Int × Int)))] (k + 1 + 1) (k + 1) := fun k => Or.inr (Or.inr ⟨Or.inl rfl, by omega, rfl⟩)
      by_cases h2 : tx_is f e (A b).2 wo_and
      · rw [g_l2 h h2] at ht ⊢
        rw [s_l2 h2, if_neg (by decide)]
        obtain ⟨c1, c2, -⟩ := tx_nb (f := f) a2
        have nw := tx_nw a2 h2
        have nw : (A b).2 + 3 ≤ tx_n f e (A b).2 := nw
        obtain ⟨i1, i2⟩ := ih _ (by omega) c2 ht
        refine ⟨?_, fun k => shg_app _ _ ?_ (shg_app _ _ (en k) (i2 k))⟩
        · rw [scds_app, scds_app, scds_1 (Or.inr (Or.inl rfl)), List.length_append, List.length_append]
          show (((scds (SA b)).length + (1 + (scds (s_all f e A SA t false (tx_n f e (A b).2))).length) : Nat) : Int) ≤ _
          omega
        · have := l2 (k + 1)
          exact shg_mono (by omega) _ _ this
      · rw [g_l1 h h2, s_l1 h2, if_neg (by decide)]
        refine ⟨?_, fun k => shg_app _ _ ?_ (en k)⟩
        · rw [scds_app, scds_1 (Or.inr (Or.inl rfl)), List.length_append]
          show (((scds (SA b)).length + 1 : Nat) : Int) ≤ (A b).2 - b + 2
          omega
        · have := l2 (k + 1)
          exact shg_mono (by omega) _ _ this
    · rw [g_l0 h] at ht
      exact absurd ht h
theorem s_all_ok {B : Nat} (iA : g_in e A) (hA : s_ok e A SA B) : s_ok e (g_all f e A 400) (s_all f e A SA 400 true) (B + 1) := by
  intro b h0 h1 ht
  by_cases h : (A b).1 = true
  · obtain ⟨l1, l2⟩ := hA b h0 h1 h
    obtain ⟨a1, a2, -⟩ := iA b h0 h1
    by_cases h2 : tx_is f e (A b).2 wo_and
    · rw [g_l2 (t := 399) h h2] at ht ⊢
      rw [s_l2 (t := 399) h2, if_pos rfl, List.nil_append]
      obtain ⟨c1, c2, -⟩ := tx_nb (f := f) a2
      have nw := tx_nw a2 h2
      have nw : (A b).2 + 3 ≤ tx_n f e (A b).2 := nw
      obtain ⟨i1, i2⟩ := s_all_f iA hA 399 _ (by omega) c2 ht
      refine ⟨?_, fun k => shg_app _ _ (shg_mono (by omega) _ _ (l2 k)) (i2 k)⟩
      rw [scds_app, List.length_append]
      omega
    · rw [g_l1 (t := 399) h h2, s_l1 (t := 399) h2, if_pos rfl, List.append_nil]
      exact ⟨l1, fun k => shg_mono (by omega) _ _ (l2 k)⟩
  · rw [g_l0 (t := 399) h] at ht
    exact absurd ht h
theorem s_cnd_f {B : Nat} (iA : g_in e A) (hA : s_ok e A SA B) : ∀ t b, 0 ≤ b → b ≤ e → (g_cnd f e A t b).1 = true → (((scds (s_cnd f e A SA t false b)).length : Int) ≤ (g_cnd f e A t b).2 - b + 2 ∧ ∀ h : Nat, shg (h + B + 2) (s_cnd f e A SA t false b) (h + 1) (h + 1)) ∧ ((scds (s_cnd f e A SA t true b)).length : Int) ≤ (g_cnd f e A t b).2 - b + 1 ∧ ∀ h : Nat, shg (h + B + 2) (s_cnd f e A SA t true b) h (h + 1) := by
  intro t
  induction t with
  | zero => exact fun b _ _ h => by cases h
  | succ t ih =>
    intro b h0 h1 ht
    by_cases h : (g_all f e A 400 b).1 = true
    · obtain ⟨l1, l2⟩ := s_all_ok (f := f) iA hA b h0 h1 h
      obtain ⟨a1, a2, -⟩ := g_all_in (f := f) iA 400 b h0 h1
      have en : ∀ k : Nat, shg (k + B + 2) [((16 : Int), false, ([] : List (Int × Int)), ([] : List (Int × Int)))] (k + 1 + 1) (k + 1) := fun k => Or.inr (Or.inr ⟨Or.inr rfl, by omega, rfl⟩)
      by_cases h2 : tx_is f e (g_all f e A 400 b).2 wo_or
      · rw [g_d2 h h2] at ht ⊢
        rw [s_d2 h2, s_d2 h2, if_neg (by decide), if_pos rfl, List.nil_append]
        obtain ⟨c1, c2, -⟩ := tx_nb (f := f) a2
        have nw := tx_nw a2 h2
        have nw : (g_all f e A 400 b).2 + 2 ≤ tx_n f e (g_all f e A 400 b).2 := nw
        obtain ⟨⟨i1, i2⟩, -, -⟩ := ih _ (by omega) c2 ht
        refine ⟨⟨?_, fun k => shg_app _ _ ?_ (shg_app _ _ (en k) (i2 k))⟩, ?_, fun k => shg_app _ _ (shg_mono (by omega) _ _ (l2 k)) (i2 k)⟩
        · rw [scds_app, scds_app, scds_1 (Or.inr (Or.inr (Or.inl rfl))), List.length_append, List.length_append]
          show (((scds (s_all f e A SA 400 true b)).length + (1 + (scds (s_cnd f e A SA t false (tx_n f e (g_all f e A 400 b).2))).length) : Nat) : Int) ≤ _
          omega
        · have := l2 (k + 1)
          exact shg_mono (by omega) _ _ this
        · rw [scds_app, List.length_append]
          omega
      · rw [g_d1 h h2, s_d1 h2, s_d1 h2, if_neg (by decide), if_pos rfl, List.append_nil]
        refine ⟨⟨?_, fun k => shg_app _ _ ?_ (en k)⟩, l1, fun k => shg_mono (by omega) _ _ (l2 k)⟩
        · rw [scds_app, scds_1 (Or.inr (Or.inr (Or.inl rfl))), List.length_append]
          show (((scds (s_all f e A SA 400 true b)).length + 1 : Nat) : Int) ≤ (g_all f e A 400 b).2 - b + 2
          omega
        · have := l2 (k + 1)
          exact shg_mono (by omega) _ _ this
    · rw [g_d0 h] at ht
      exact absurd ht h
theorem s_cnd_ok {B : Nat} (iA : g_in e A) (hA : s_ok e A SA B) : s_ok e (g_cnd f e A 400) (fun b => s_cnd f e A SA 400 true b) (B + 2) := fun b h0 h1 ht => (s_cnd_f iA hA 400 b h0 h1 ht).2
theorem s_at_ok : ∀ k : Nat, s_ok e (g_at f e k) (s_at f e k) (1 + 2 * k) := by
  intro k
  induction k with
  | zero => exact s_atm_ok (BA := 0) (BC := 0) g_no_in g_no_in (fun h => h.elim) (fun h => h.elim) ⟨by decide, fun h => h.elim⟩
  | succ k ih => exact s_atm_ok (g_at_in k) (g_cnd_in (g_at_in k) 400) (fun _ => ih) (fun _ => s_cnd_ok (g_at_in k) ih) ⟨by omega, fun _ => ⟨by omega, by omega⟩⟩
theorem s_cd_ok (k : Nat) : s_ok e (g_cd f e k) (s_cd f e k) (3 + 2 * k) := by
  have h := s_cnd_ok (f := f) (g_at_in k) (s_at_ok (f := f) (e := e) k)
  intro b h0 h1 ht
  obtain ⟨a, c⟩ := h b h0 h1 ht
  exact ⟨a, fun h => shg_mono (by omega) _ _ (c h)⟩
end KS1
