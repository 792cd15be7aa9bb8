/-! 7a29.k0st -/
section
/-! WHAT A TEXT OF A LAW TELLS, by tokens: its lines, each condition as steps behind one another. -/
section KS0
variable (f : Int → Int) (e : Int)
noncomputable def s_fc (b : Int) : Int := tif (tx_is f e b wo_lane) 0 (tif (tx_is f e b wo_row) 1 (tif (tx_is f e b wo_year) 2 (tif (tx_is f e b wo_heat) 3 (tif (tx_is f e b wo_speed) 4 (tif (tx_is f e b wo_person) 5 (tif (tx_is f e b wo_age) 6 7))))))
noncomputable def s_pt (b : Int) : Int × Int := tif (tx_k f e b = 258) (10, tx_v f e 3 b) (s_fc f e b, 0)
noncomputable def s_sum : Nat → Int → List (Int × Int)
  | 0, _ => []
  | t + 1, b => s_pt f e b :: tif (tx_k f e (tx_n f e b) = 43) (s_sum t (tx_n f e (tx_n f e b))) []
noncomputable def s_atm (SA SC : Int → List lst) (b : Int) : List lst :=
  tif (tx_is f e b wo_not) (SA (tx_n f e b) ++ [(14, false, [], [])])
    (tif (tx_k f e b = 40) (SC (tx_n f e b))
      (tif (tx_is f e b wo_side) [(8, false, [], [])] (tif (tx_is f e b wo_first) [(9, false, [], [])]
        [(0, decide (tx_k f e (g_sum f e 400 b).2 = 62), s_sum f e 400 b, s_sum f e 400 (tx_n f e (g_sum f e 400 b).2))])))
noncomputable def s_all (A : Int → Bool × Int) (SA : Int → List lst) : Nat → Bool → Int → List lst
  | 0, _, _ => []
  | t + 1, fst, b => SA b ++ ((if fst = true then [] else [(15, false, [], [])]) ++ tif (tx_is f e (A b).2 wo_and) (s_all A SA t false (tx_n f e (A b).2)) [])
noncomputable def s_cnd (A : Int → Bool × Int) (SA : Int → List lst) : Nat → Bool → Int → List lst
  | 0, _, _ => []
  | t + 1, fst, b => s_all f e A SA 400 true b ++ ((if fst = true then [] else [(16, false, [], [])]) ++ tif (tx_is f e (g_all f e A 400 b).2 wo_or) (s_cnd A SA t false (tx_n f e (g_all f e A 400 b).2)) [])
noncomputable def s_at : Nat → Int → List lst
  | 0 => s_atm f e (fun _ => []) (fun _ => [])
  | k + 1 => s_atm f e (s_at k) (fun b => s_cnd f e (g_at f e k) (s_at k) 400 true b)
noncomputable def s_cd (k : Nat) (b : Int) : List lst := s_cnd f e (g_at f e k) (s_at f e k) 400 true b
noncomputable def s_if (b : Int) : Option (List lst) := tif (tx_is f e b wo_if) (some (s_cd f e 6 (tx_n f e b))) none
noncomputable def s_line (b : Int) : lln := tif (tx_is f e b wo_open) (2, 0, s_if f e (tx_n f e b)) (tif (tx_is f e b wo_fast) (0, tx_v f e 3 (tx_n f e b), s_if f e (tx_n f e (tx_n f e b))) (1, tx_v f e 3 (tx_n f e b), s_if f e (tx_n f e (tx_n f e b))))
noncomputable def s_txt : Nat → Int → List lln
  | 0, _ => []
  | t + 1, b => s_line f e b :: tif (tx_k f e (g_line f e b).2 = 256) [] (tif (tx_k f e (g_line f e b).2 = 59) (s_txt t (tx_n f e (g_line f e b).2)) [])
/-- the law that is told -/
noncomputable def s_law : List lln := tif (tx_k f e (tx_g f e 0) = 256) [] (s_txt f e 12 (tx_g f e 0))
end KS0
section KS1
variable {f : Int → Int} {e b : Int} {A A2 : Int → Bool × Int} {SA SC : Int → List lst} {t : Nat}
theorem s_sum1 (h2 : ¬ tx_k f e (tx_n f e b) = 43) : s_sum f e (t + 1) b = [s_pt f e b] := by
  show s_pt f e b :: tif _ _ _ = _
  rw [tif_f h2]
theorem s_sum2 (h2 : tx_k f e (tx_n f e b) = 43) : s_sum f e (t + 1) b = s_pt f e b :: s_sum f e t (tx_n f e (tx_n f e b)) := by
  show s_pt f e b :: tif _ _ _ = _
  rw [tif_t h2]
theorem s_a1 (h : tx_is f e b wo_not) : s_atm f e SA SC b = SA (tx_n f e b) ++ [(14, false, [], [])] := tif_t h
theorem s_a3 (h : ¬ tx_is f e b wo_not) (h0 : tx_k f e b = 40) : s_atm f e SA SC b = SC (tx_n f e b) := by
  unfold s_atm
  rw [tif_f h, tif_t h0]
theorem s_a5 (h : ¬ tx_is f e b wo_not) (h0 : ¬ tx_k f e b = 40) (h1 : tx_is f e b wo_side) : s_atm f e SA SC b = [(8, false, [], [])] := by
  unfold s_atm
  rw [tif_f h, tif_f h0, tif_t h1]
theorem s_a6 (h : ¬ tx_is f e b wo_not) (h0 : ¬ tx_k f e b = 40) (h1 : ¬ tx_is f e b wo_side) (h2 : tx_is f e b wo_first) : s_atm f e SA SC b = [(9, false, [], [])] := by
  unfold s_atm
  rw [tif_f h, tif_f h0, tif_f h1, tif_t h2]
theorem s_a8 (h : ¬ tx_is f e b wo_not) (h0 : ¬ tx_k f e b = 40) (h1 : ¬ tx_is f e b wo_side) (h2 : ¬ tx_is f e b wo_first) {g : Bool} (hg : decide (tx_k f e (g_sum f e 400 b).2 = 62) = g) : s_atm f e SA SC b = [(0, g, s_sum f e 400 b, s_sum f e 400 (tx_n f e (g_sum f e 400 b).2))] := by
  unfold s_atm
  rw [tif_f h, tif_f h0, tif_f h1, tif_f h2, hg]
theorem s_l1 {fst : Bool} (h : ¬ tx_is f e (A b).2 wo_and) : s_all f e A SA (t + 1) fst b = SA b ++ (if fst = true then [] else [(15, false, [], [])]) := by
  show SA b ++ ((if fst = true then [] else [(15, false, [], [])]) ++ tif _ _ _) = _
  rw [tif_f h, List.append_nil]
theorem s_l2 {fst : Bool} (h : tx_is f e (A b).2 wo_and) : s_all f e A SA (t + 1) fst b = SA b ++ ((if fst = true then [] else [(15, false, [], [])]) ++ s_all f e A SA t false (tx_n f e (A b).2)) := by
  show SA b ++ ((if fst = true then [] else [(15, false, [], [])]) ++ tif _ _ _) = _
  rw [tif_t h]
theorem s_d1 {fst : Bool} (h : ¬ tx_is f e (g_all f e A 400 b).2 wo_or) : s_cnd f e A SA (t + 1) fst b = s_all f e A SA 400 true b ++ (if fst = true then [] else [(16, false, [], [])]) := by
  show s_all f e A SA 400 true b ++ ((if fst = true then [] else [(16, false, [], [])]) ++ tif _ _ _) = _
  rw [tif_f h, List.append_nil]
theorem s_d2 {fst : Bool} (h : tx_is f e (g_all f e A 400 b).2 wo_or) : s_cnd f e A SA (t + 1) fst b = s_all f e A SA 400 true b ++ ((if fst = true then [] else [(16, false, [], [])]) ++ s_cnd f e A SA t false (tx_n f e (g_all f e A 400 b).2)) := by
  show s_all f e A SA 400 true b ++ ((if fst = true then [] else [(16, false, [], [])]) ++ tif _ _ _) = _
  rw [tif_t h]
theorem s_f1 (h : tx_is f e b wo_if) : s_if f e b = some (s_cd f e 6 (tx_n f e b)) := tif_t h
theorem s_f0 (h : ¬ tx_is f e b wo_if) : s_if f e b = none := tif_f h
theorem s_n1 (h : tx_is f e b wo_open) : s_line f e b = (2, 0, s_if f e (tx_n f e b)) := tif_t h
theorem s_n2 (h : tx_is f e b wo_fast) : s_line f e b = (0, tx_v f e 3 (tx_n f e b), s_if f e (tx_n f e (tx_n f e b))) := by
  unfold s_line
  rw [tif_f (g_ex h (by decide)), tif_t h]
theorem s_n3 (h : tx_is f e b wo_slow) : s_line f e b = (1, tx_v f e 3 (tx_n f e b), s_if f e (tx_n f e (tx_n f e b))) := by
  unfold s_line
  rw [tif_f (g_ex h (by decide)), tif_f (g_ex h (by decide))]
theorem s_t1 (h2 : tx_k f e (g_line f e b).2 = 256) : s_txt f e (t + 1) b = [s_line f e b] := by
  show s_line f e b :: tif _ _ _ = _
  rw [tif_t h2]
theorem s_t3 (h2 : ¬ tx_k f e (g_line f e b).2 = 256) (h3 : tx_k f e (g_line f e b).2 = 59) : s_txt f e (t + 1) b = s_line f e b :: s_txt f e t (tx_n f e (g_line f e b).2) := by
  show s_line f e b :: tif _ _ _ = _
  rw [tif_f h2, tif_t h3]
theorem scds_1 {k : Int} (h : k = 14 ∨ k = 15 ∨ k = 16 ∨ k = 8 ∨ k = 9) : scds [(k, false, [], [])] = [if k = 14 then -15 else if k = 15 then -16 else if k = 16 then -17 else -2 - k] := by
  rcases h with rfl | rfl | rfl | rfl | rfl <;> rfl
theorem scds_c {g : Bool} {x y : List (Int × Int)} : scds [(0, g, x, y)] = x.map pcd ++ ([-12] ++ (y.map pcd ++ [if g = true then -14 else -13])) := by
  show scd (0, g, x, y) ++ [] = _
  rw [List.append_nil]
  rfl
theorem srds_1 {k : Int} (h : k = 14 ∨ k = 15 ∨ k = 16 ∨ k = 8 ∨ k = 9) : srds [(k, false, [], [])] = [(k, 0)] := by
  rcases h with rfl | rfl | rfl | rfl | rfl <;> rfl
theorem srds_c {g : Bool} {x y : List (Int × Int)} : srds [(0, g, x, y)] = rpt x ++ (rpt y ++ [(if g = true then 13 else 12, 0)]) := by
  show srd (0, g, x, y) ++ [] = _
  rw [List.append_nil]
  rfl
/-- a word is as long as it is -/
theorem tx_nw {l : List Int} (h1 : b ≤ e) (h : tx_is f e b l) : b + (l.length : Int) ≤ tx_n f e b := by
  obtain ⟨a1, a2, -⟩ := tx_sb (f := f) h1
  obtain ⟨c1, -, -⟩ := tx_gb (f := f) (e := e) (p := tx_s f e b) a2
  have := h.2.1
  unfold tx_n
  omega
theorem s_fcb : 0 ≤ s_fc f e b ∧ s_fc f e b ≤ 7 := by
  unfold s_fc tif
  repeat' split
  all_goals decide
theorem s_ptw (h : g_pt f e b) : pwf (s_pt f e b) := by
  unfold s_pt
  by_cases h1 : tx_k f e b = 258
  · rw [tif_t h1]
    have a1 := tx_vb (f := f) (e := e) (m := 3) (b := b) (by decide)
    have a2 := tx_v9 (f := f) (e := e) (b := b)
    refine Or.inr ⟨rfl, ?_, a2⟩
    show 0 ≤ tx_v f e 3 b
    rcases h with h | h
    · have := h.2
      omega
    · have := g_fk h
      omega
  · rw [tif_f h1]
    exact Or.inl ⟨s_fcb, rfl⟩
theorem s_sumw : ∀ t b, 0 ≤ b → b ≤ e → (g_sum f e t b).1 = true → (∀ p ∈ s_sum f e t b, pwf p) ∧ ¬ s_sum f e t b = [] ∧ ((s_sum f e t b).length : Int) ≤ (g_sum f e t b).2 - b := by
  intro t
  induction t with
  | zero => exact fun b _ _ h => by cases h
  | succ t ih =>
    intro b h0 h1 h
    obtain ⟨a1, a2, a3⟩ := tx_nb (f := f) h1
    by_cases hp : g_pt f e b
    · have a3 := a3 (g_pk hp)
      have w := s_ptw hp
      by_cases h2 : tx_k f e (tx_n f e b) = 43
      · rw [g_sum2 hp h2] at h ⊢
        rw [s_sum2 h2]
        obtain ⟨c1, c2, c3⟩ := tx_nb (f := f) a2
        obtain ⟨i1, i2, i3⟩ := ih _ (by omega) c2 h
        refine ⟨fun p hm => ?_, (fun hn => by cases hn), ?_⟩
        · rcases List.mem_cons.mp hm with rfl | hm
          · exact w
          · exact i1 p hm
        · rw [List.length_cons]
          omega
      · rw [g_sum1 hp h2, s_sum1 h2]
        refine ⟨fun p hm => ?_, (fun hn => by cases hn), ?_⟩
        · rcases List.mem_cons.mp hm with rfl | hm
          · exact w
          · cases hm
        · show ((1 : Nat) : Int) ≤ tx_n f e b - b
          omega
    · rw [g_sum0 hp] at h
      cases h
/-- what is said of steps: how many codes, how high they lie -/
noncomputable def s_ok (e : Int) (A : Int → Bool × Int) (SA : Int → List lst) (B : Nat) : Prop := ∀ b, 0 ≤ b → b ≤ e → (A b).1 = true → ((scds (SA b)).length : Int) ≤ (A b).2 - b + 1 ∧ ∀ h : Nat, shg (h + B) (SA b) h (h + 1)
theorem s_atm_ok {ok : Prop} {BA BC B : Nat} (iA : g_in e A) (iC : g_in e A2) (hA : ok → s_ok e A SA BA) (hC : ok → s_ok e A2 SC BC) (hB : 1 ≤ B ∧ (ok → BA ≤ B ∧ BC ≤ B)) : s_ok e (g_atm f e A A2 ok) (s_atm f e SA SC) B := by
  intro b h0 h1 ht
  obtain ⟨n1, n2, n3⟩ := tx_nb (f := f) h1
  by_cases h : tx_is f e b wo_not
  · by_cases h2 : ok
    · rw [g_a1 h h2] at ht ⊢
      rw [s_a1 h]
      have nw := tx_nw h1 h
      have nw : b + 3 ≤ tx_n f e b := nw
      obtain ⟨l1, l2⟩ := hA h2 _ (by omega) n2 ht
      refine ⟨?_, fun k => shg_app _ _ (shg_mono (by have := (hB.2 h2).1; omega) _ _ (l2 k)) ?_⟩
      · rw [scds_app, scds_1 (Or.inl rfl), List.length_append]
        show (((scds (SA (tx_n f e b))).length + 1 : Nat) : Int) ≤ _
        omega
      · exact Or.inr (Or.inl ⟨rfl, by omega, rfl⟩)
    · rw [g_a0 (Or.inl h) h2] at ht
      cases ht
  · by_cases h4 : tx_k f e b = 40
    · by_cases h2 : ok
      · have n3 := n3 (tx_kne (f := f) (by omega))
        by_cases h5 : (A2 (tx_n f e b)).1 = true
        · by_cases h6 : tx_k f e (A2 (tx_n f e b)).2 = 41
          · rw [g_a3 h h4 h2 h5 h6, s_a3 h h4]
            obtain ⟨l1, l2⟩ := hC h2 _ (by omega) n2 h5
            obtain ⟨c1, c2, -⟩ := iC _ (by omega) n2
            obtain ⟨m1, -, -⟩ := tx_nb (f := f) c2
            refine ⟨?_, fun k => shg_mono (by have := (hB.2 h2).2; omega) _ _ (l2 k)⟩
            show _ ≤ tx_n f e (A2 (tx_n f e b)).2 - b + 1
            omega
          · rw [g_a4 h h4 h2 h5 h6] at ht
            cases ht
        · rw [g_a2 h h4 h2 h5] at ht
          exact absurd ht h5
      · rw [g_a0 (Or.inr h4) h2] at ht
        cases ht
    · by_cases h5 : tx_is f e b wo_side
      · rw [g_a5 h h4 (Or.inl h5), s_a5 h h4 h5]
        refine ⟨?_, fun k => Or.inl ⟨Or.inr (Or.inl rfl), by omega, rfl⟩⟩
        have := n3 (g_isb h5)
        show ((1 : Nat) : Int) ≤ tx_n f e b - b + 1
        omega
      · by_cases h6 : tx_is f e b wo_first
        · rw [g_a5 h h4 (Or.inr h6), s_a6 h h4 h5 h6]
          refine ⟨?_, fun k => Or.inl ⟨Or.inr (Or.inr rfl), by omega, rfl⟩⟩
          have := n3 (g_isb h6)
          show ((1 : Nat) : Int) ≤ tx_n f e b - b + 1
          omega
        · by_cases h7 : (g_sum f e 400 b).1 = true
          · by_cases h8 : tx_k f e (g_sum f e 400 b).2 = 60 ∨ tx_k f e (g_sum f e 400 b).2 = 62
            · rw [g_a8 h h4 h5 h6 h7 h8] at ht ⊢
              rw [s_a8 h h4 h5 h6 rfl]
              obtain ⟨c1, c2, -⟩ := g_sum_in (f := f) 400 b h0 h1
              obtain ⟨m1, m2, m3⟩ := tx_nb (f := f) c2
              have m3 := m3 (tx_kne (f := f) (by omega))
              obtain ⟨u1, u2, u3⟩ := s_sumw (f := f) 400 b h0 h1 h7
              obtain ⟨v1, v2, v3⟩ := s_sumw (f := f) 400 _ (by omega) m2 ht
              refine ⟨?_, fun k => Or.inl ⟨Or.inl ⟨rfl, u1, v1, u2, v2⟩, by omega, rfl⟩⟩
              rw [scds_c]
              simp only [List.length_append, List.length_map, List.length_cons, List.length_nil]
              omega
            · rw [g_a7 h h4 h5 h6 h7 h8] at ht
              cases ht
          · rw [g_a6 h h4 h5 h6 h7] at ht
            exact absurd ht h7
theorem s_all_f {B : Nat} (iA : g_in e A) (hA : s_ok e A SA B) : ∀ t b, 0 ≤ b → b ≤ e → (g_all f e A t b).1 = true → ((scds (s_all f e A SA t false b)).length : Int) ≤ (g_all f e A t b).2 - b + 2 ∧ ∀ h : Nat, shg (h + B + 1) (s_all f e A SA t false b) (h + 1) (h + 1) := by
  intro t
  induction t with
  | zero => exact fun b _ _ _ => ⟨by show ((0 : Nat) : Int) ≤ b - b + 2; omega, fun h => rfl⟩
  | succ t ih =>
    intro b h0 h1 ht
    by_cases h : (A b).1 = true
    · obtain ⟨l1, l2⟩ := hA b h0 h1 h
      obtain ⟨a1, a2, -⟩ := iA b h0 h1
      have en : ∀ k : Nat, shg (k + B + 1) [((15 : Int), false, ([] : List (Int × Int)), ([] : List (Int × Int)))] (k + 1 + 1) (k + 1) := fun k => Or.inr (Or.inr ⟨Or.inl rfl, by omega, rfl⟩)
      by_cases h2 : tx_is f e (A b).2 wo_and
      · rw [g_l2 h h2] at ht ⊢
        rw [s_l2 h2, if_neg (by decide)]
        obtain ⟨c1, c2, -⟩ := tx_nb (f := f) a2
        have nw := tx_nw a2 h2
        have nw : (A b).2 + 3 ≤ tx_n f e (A b).2 := nw
        obtain ⟨i1, i2⟩ := ih _ (by omega) c2 ht
        refine ⟨?_, fun k => shg_app _ _ ?_ (shg_app _ _ (en k) (i2 k))⟩
        · rw [scds_app, scds_app, scds_1 (Or.inr (Or.inl rfl)), List.length_append, List.length_append]
          show (((scds (SA b)).length + (1 + (scds (s_all f e A SA t false (tx_n f e (A b).2))).length) : Nat) : Int) ≤ _
          omega
        · have := l2 (k + 1)
          exact shg_mono (by omega) _ _ this
      · rw [g_l1 h h2, s_l1 h2, if_neg (by decide)]
        refine ⟨?_, fun k => shg_app _ _ ?_ (en k)⟩
        · rw [scds_app, scds_1 (Or.inr (Or.inl rfl)), List.length_append]
          show (((scds (SA b)).length + 1 : Nat) : Int) ≤ (A b).2 - b + 2
          omega
        · have := l2 (k + 1)
          exact shg_mono (by omega) _ _ this
    · rw [g_l0 h] at ht
      exact absurd ht h
theorem s_all_ok {B : Nat} (iA : g_in e A) (hA : s_ok e A SA B) : s_ok e (g_all f e A 400) (s_all f e A SA 400 true) (B + 1) := by
  intro b h0 h1 ht
  by_cases h : (A b).1 = true
  · obtain ⟨l1, l2⟩ := hA b h0 h1 h
    obtain ⟨a1, a2, -⟩ := iA b h0 h1
    by_cases h2 : tx_is f e (A b).2 wo_and
    · rw [g_l2 (t := 399) h h2] at ht ⊢
      rw [s_l2 (t := 399) h2, if_pos rfl, List.nil_append]
      obtain ⟨c1, c2, -⟩ := tx_nb (f := f) a2
      have nw := tx_nw a2 h2
      have nw : (A b).2 + 3 ≤ tx_n f e (A b).2 := nw
      obtain ⟨i1, i2⟩ := s_all_f iA hA 399 _ (by omega) c2 ht
      refine ⟨?_, fun k => shg_app _ _ (shg_mono (by omega) _ _ (l2 k)) (i2 k)⟩
      rw [scds_app, List.length_append]
      omega
    · rw [g_l1 (t := 399) h h2, s_l1 (t := 399) h2, if_pos rfl, List.append_nil]
      exact ⟨l1, fun k => shg_mono (by omega) _ _ (l2 k)⟩
  · rw [g_l0 (t := 399) h] at ht
    exact absurd ht h
theorem s_cnd_f {B : Nat} (iA : g_in e A) (hA : s_ok e A SA B) : ∀ t b, 0 ≤ b → b ≤ e → (g_cnd f e A t b).1 = true → (((scds (s_cnd f e A SA t false b)).length : Int) ≤ (g_cnd f e A t b).2 - b + 2 ∧ ∀ h : Nat, shg (h + B + 2) (s_cnd f e A SA t false b) (h + 1) (h + 1)) ∧ ((scds (s_cnd f e A SA t true b)).length : Int) ≤ (g_cnd f e A t b).2 - b + 1 ∧ ∀ h : Nat, shg (h + B + 2) (s_cnd f e A SA t true b) h (h + 1) := by
  intro t
  induction t with
  | zero => exact fun b _ _ h => by cases h
  | succ t ih =>
    intro b h0 h1 ht
    by_cases h : (g_all f e A 400 b).1 = true
    · obtain ⟨l1, l2⟩ := s_all_ok (f := f) iA hA b h0 h1 h
      obtain ⟨a1, a2, -⟩ := g_all_in (f := f) iA 400 b h0 h1
      have en : ∀ k : Nat, shg (k + B + 2) [((16 : Int), false, ([] : List (Int × Int)), ([] : List (Int × Int)))] (k + 1 + 1) (k + 1) := fun k => Or.inr (Or.inr ⟨Or.inr rfl, by omega, rfl⟩)
      by_cases h2 : tx_is f e (g_all f e A 400 b).2 wo_or
      · rw [g_d2 h h2] at ht ⊢
        rw [s_d2 h2, s_d2 h2, if_neg (by decide), if_pos rfl, List.nil_append]
        obtain ⟨c1, c2, -⟩ := tx_nb (f := f) a2
        have nw := tx_nw a2 h2
        have nw : (g_all f e A 400 b).2 + 2 ≤ tx_n f e (g_all f e A 400 b).2 := nw
        obtain ⟨⟨i1, i2⟩, -, -⟩ := ih _ (by omega) c2 ht
        refine ⟨⟨?_, fun k => shg_app _ _ ?_ (shg_app _ _ (en k) (i2 k))⟩, ?_, fun k => shg_app _ _ (shg_mono (by omega) _ _ (l2 k)) (i2 k)⟩
        · rw [scds_app, scds_app, scds_1 (Or.inr (Or.inr (Or.inl rfl))), List.length_append, List.length_append]
          show (((scds (s_all f e A SA 400 true b)).length + (1 + (scds (s_cnd f e A SA t false (tx_n f e (g_all f e A 400 b).2))).length) : Nat) : Int) ≤ _
          omega
        · have := l2 (k + 1)
          exact shg_mono (by omega) _ _ this
        · rw [scds_app, List.length_append]
          omega
      · rw [g_d1 h h2, s_d1 h2, s_d1 h2, if_neg (by decide), if_pos rfl, List.append_nil]
        refine ⟨⟨?_, fun k => shg_app _ _ ?_ (en k)⟩, l1, fun k => shg_mono (by omega) _ _ (l2 k)⟩
        · rw [scds_app, scds_1 (Or.inr (Or.inr (Or.inl rfl))), List.length_append]
          show (((scds (s_all f e A SA 400 true b)).length + 1 : Nat) : Int) ≤ (g_all f e A 400 b).2 - b + 2
          omega
        · have := l2 (k + 1)
          exact shg_mono (by omega) _ _ this
    · rw [g_d0 h] at ht
      exact absurd ht h
theorem s_cnd_ok {B : Nat} (iA : g_in e A) (hA : s_ok e A SA B) : s_ok e (g_cnd f e A 400) (fun b => s_cnd f e A SA 400 true b) (B + 2) := fun b h0 h1 ht => (s_cnd_f iA hA 400 b h0 h1 ht).2
theorem s_at_ok : ∀ k : Nat, s_ok e (g_at f e k) (s_at f e k) (1 + 2 * k) := by
  intro k
  induction k with
  | zero => exact s_atm_ok (BA := 0) (BC := 0) g_no_in g_no_in (fun h => h.elim) (fun h => h.elim) ⟨by decide, fun h => h.elim⟩
  | succ k ih => exact s_atm_ok (g_at_in k) (g_cnd_in (g_at_in k) 400) (fun _ => ih) (fun _ => s_cnd_ok (g_at_in k) ih) ⟨by omega, fun _ => ⟨by omega, by omega⟩⟩
theorem s_cd_ok (k : Nat) : s_ok e (g_cd f e k) (s_cd f e k) (3 + 2 * k) := by
  have h := s_cnd_ok (f := f) (g_at_in k) (s_at_ok (f := f) (e := e) k)
  intro b h0 h1 ht
  obtain ⟨a, c⟩ := h b h0 h1 ht
  exact ⟨a, fun h => shg_mono (by omega) _ _ (c h)⟩
end KS1
end
/-! 7a30.k1cl -/
section
/-! THE CLASS'S READER OF A LAW, with the codes that it lays down (laid by wip/core/k1.py out of p5's texts). -/
/-- the codes laid down so far -/
noncomputable def ctl (Lc : List Int) (us lc : Int) (D C : Int → Int) : Prop := us = (Lc.length : Int) ∧ ctk us lc D C ∧ ∀ (i : Nat) (v : Int), Lc[i]? = some v → C (i : Int) = v
theorem klen {Lc E : List Int} {us u2 lc lc2 : Int} {D D2 C C2 : Int → Int} (k : ctl (Lc ++ E) u2 lc2 D2 C2) (h : ctl Lc us lc D C) : u2 = us + (E.length : Int) := by
  have e1 := k.1
  rw [List.length_append] at e1
  have e2 := h.1
  omega
theorem ctl_put {Lc : List Int} {us lc x : Int} {D C : Int → Int} (h : ctl Lc us lc D C) (h4 : us < 400) (hx : gm_ir x) : ctl (Lc ++ [x]) (us + 1) lc D (fun z => if z = us then x else C z) := by
  obtain ⟨e1, ⟨⟨⟨u1, u2⟩, u3⟩, u4, u5⟩, e2⟩ := h
  refine ⟨?_, ⟨⟨⟨by omega, by omega⟩, u3⟩, u4, fun j h1 h2 => ?_⟩, fun i v hi => ?_⟩
  · rw [List.length_append]
    show us + 1 = ((Lc.length + 1 : Nat) : Int)
    omega
  · show gm_ir (if j = us then x else C j)
    split
    · exact hx
    · exact u5 j h1 h2
  · show (if (i : Int) = us then x else C (i : Int)) = v
    by_cases hl : i < Lc.length
    · rw [if_neg (by omega)]
      rw [List.getElem?_append_left hl] at hi
      exact e2 i v hi
    · rw [List.getElem?_append_right (by omega)] at hi
      have h0 : i - Lc.length = 0 := by
        cases hk : i - Lc.length with
        | zero => rfl
        | succ k => rw [hk] at hi; simp at hi
      rw [h0] at hi
      rw [if_pos (by omega)]
      simpa using hi
/-- a method of one number that says whether G stands at the token; E: what codes it lays down -/
noncomputable def cA2 (X : Int → Int) (LX n : Nat) (K : gm_K) (R : gm_R) (M : gm_M) (e lc : Int) (D : Int → Int) (mi : Nat) (vs : List gm_V) (G : Int → Bool × Int) (E : Int → List Int) (dn : Nat) : Prop := ∀ (d bc bs : Nat) (b us : Int) (C : Int → Int) (Lc : List Int) (Q : gm_Q), dn ≤ d → 0 ≤ b ∧ b ≤ e → us + 2 ≤ b → ctl Lc us lc D C → (∀ us2 C2, ctl (Lc ++ E b) us2 lc D C2 → (G b).1 = true → Q (.inl (some (gm_vi 1))) n K R (ct M e (G b).2 (-1) us2 lc D C2)) → (∀ us2 C2, ctk us2 lc D C2 → ¬ (G b).1 = true → Q (.inl (some (gm_vi 0))) n K R (ct M e (G b).2 (G b).2 us2 lc D C2)) → gm_Wp X LX d bc bs mi 0 (gm_ent mi vs) [] n K R (ct M e b (-1) us lc D C) Q
section KL
variable {X : Int → Int} {LX d bc bs n : Nat} {K : gm_K} {R : gm_R} {M : gm_M} {Q : gm_Q} {e b w us lc x : Int} {D C : Int → Int} {Lc : List Int}
theorem kx_c99 (hE : tx_E n K R M e) (hok : ctl Lc us lc D C) (h4 : us < 400) (hx : gm_ir x) (hq : ∀ C2, ctl (Lc ++ [x]) (us + 1) lc D C2 → Q (.inl none) n K R (ct M e b w (us + 1) lc D C2)) : gm_Wp X LX d bc bs 99 0 (gm_ent 99 [gm_vr 215, gm_vi x]) [] n K R (ct M e b w us lc D C) Q := by
  obtain ⟨⟨⟨u1, u2⟩, u3⟩, u4, u5⟩ := id hok.2.1
  refine gm_sz (gm_p_load (pc := 0) (i := .aload_n 0) (sr := 2) (j := 0) (by decide +kernel) rfl rfl rfl) ?_
  refine gm_sz (fw_gi (pc := 1) (ix := 24) (ci := 9) (j := 4) (x := us) (by decide +kernel) (tE215c hE) (by decide +kernel) (by decide +kernel) rfl) ?_
  refine gm_sz (gm_p_load (pc := 4) (i := .aload_n 0) (sr := 2) (j := 0) (by decide +kernel) rfl rfl rfl) ?_
  refine gm_sz (fw_gr (pc := 5) (ix := 20) (ci := 9) (j := 3) (r := 219) (by decide +kernel) (tE215c hE) (by decide +kernel) (by decide +kernel) (tEr hE).2.2.2.1) ?_
  refine gm_sz (fw_al (pc := 8) (k := 219) (len := 400) (by decide +kernel) (tE219 hE).1 (tE219 hE).2 (by decide)) ?_
  refine fw_icf (cc := .ge) (pc := 9) (off := 23) (by decide +kernel) (by decide) ⟨by omega, by omega⟩ ⟨by decide, by decide⟩ (show ¬ 400 ≤ us by omega) ?_
  refine gm_sz (gm_p_load (pc := 12) (i := .aload_n 0) (sr := 2) (j := 0) (by decide +kernel) rfl rfl rfl) ?_
  refine gm_sz (fw_gr (pc := 13) (ix := 20) (ci := 9) (j := 3) (r := 219) (by decide +kernel) (tE215c hE) (by decide +kernel) (by decide +kernel) (tEr hE).2.2.2.1) ?_
  refine gm_sz (gm_p_load (pc := 16) (i := .aload_n 0) (sr := 2) (j := 0) (by decide +kernel) rfl rfl rfl) ?_
  refine gm_sz (fw_gi (pc := 17) (ix := 24) (ci := 9) (j := 4) (x := us) (by decide +kernel) (tE215c hE) (by decide +kernel) (by decide +kernel) rfl) ?_
  refine gm_sz (gm_p_load (pc := 20) (i := .iload_n 1) (sr := 0) (j := 1) (by decide +kernel) rfl rfl rfl) ?_
  refine gm_sz (fw_is (pc := 21) (k := 219) (len := 400) (e0 := us) (x := x) (M' := ct M e b w us lc D (fun z => if z = us then x else C z)) (by decide +kernel) (tE219 hE).1 (tE219 hE).2 (by decide) ⟨by omega, by omega⟩ ct_C) ?_
  refine gm_sz (gm_p_load (pc := 22) (i := .aload_n 0) (sr := 2) (j := 0) (by decide +kernel) rfl rfl rfl) ?_
  refine gm_sz (gm_p_dup (pc := 23) (by decide +kernel) fw_sr) ?_
  refine gm_sz (fw_gi (pc := 24) (ix := 24) (ci := 9) (j := 4) (x := us) (by decide +kernel) (tE215c hE) (by decide +kernel) (by decide +kernel) rfl) ?_
  refine gm_sz (gm_p_const (pc := 27) (i := .iconst 1) (v := gm_vi 1) (by decide +kernel) (by decide +kernel)) ?_
  refine gm_sz (gm_p_bin (pc := 28) (i := .iadd) (f := fun x y => x + y) (by decide +kernel) rfl) ?_
  refine gm_sz (fw_pi (pc := 29) (ix := 24) (ci := 9) (j := 4) (M' := ct M e b w (us + 1) lc D (fun z => if z = us then x else C z)) (by decide +kernel) (tE215c hE) (by decide +kernel) (by decide +kernel) (by decide +kernel) ct_us) ?_
  exact gm_r_void (pc := 32) (by decide +kernel) (by decide +kernel) (hq _ (ctl_put hok h4 hx))

theorem kx_c101 (hd : 6 ≤ d) (hE : tx_E n K R M e) (hb : 0 ≤ b ∧ b ≤ e) (h1 : ∀ c, c = -2 - s_fc (M 2) e b → g_fact (M 2) e b → Q (.inl (some (gm_vi c))) n K R (ct M e b w us lc D C)) (h0 : ¬ g_fact (M 2) e b → Q (.inl (some (gm_vi (-1)))) n K R (ct M e b w us lc D C)) : gm_Wp X LX d bc bs 101 0 (gm_ent 101 [gm_vr 215]) [] n K R (ct M e b w us lc D C) Q := by
  obtain ⟨-, he0, he4⟩ := tEe hE
  refine gm_sz (gm_p_load (pc := 0) (i := .aload_n 0) (sr := 2) (j := 0) (by decide +kernel) rfl rfl rfl) ?_
  refine gm_sz (fw_gr (pc := 1) (ix := 47) (ci := 9) (j := 0) (r := 216) (by decide +kernel) (tE215c hE) (by decide +kernel) (by decide +kernel) (tEr hE).2.1) ?_
  refine gm_sz (gm_p_ldcs (pc := 4) (i := .ldc 122) (ix := 122) (id := 7) (by decide +kernel) (Or.inl rfl) (by decide +kernel)) ?_
  refine gm_c_virt (k := 216) (ci := 8) (mj := 81) (ix := 84) (pc := 6) (as := [gm_vo 7]) (st := []) (d' := d - 1) (bc' := 0) (bs' := 0) (by decide +kernel) (by decide +kernel) (by decide +kernel) (by decide +kernel) (tE216c hE).1 (tE216c hE).2 (by decide) (by decide +kernel) (show 1 = gm_na 81 by decide +kernel) (fw_c1 fw_so) (show 2 ≤ gm_ml 81 by decide +kernel) (Nat.le_of_ble_eq_true rfl) (by omega) (Nat.zero_le _) (Nat.zero_le _) ?_
  refine tx_c81 (by omega) hE (by decide) (show tx_o 7 = wo_lane by decide +kernel) hb (fun j1 => ?_) (fun j1 => ?_)
  · show gm_Wp X LX d _ _ 101 9 _ [gm_vi 1] n K R _ Q
    have j1 : tx_is (M 2) e b wo_lane := j1
    refine fw_iffd (cc := .eq) (pc := 9) (off := 6) (by decide +kernel) (by decide) ⟨by decide, by decide⟩ (by decide) ?_
    refine gm_sz (gm_p_const (pc := 12) (i := .bipush (-2)) (v := gm_vi (-2)) (by decide +kernel) (by decide +kernel)) ?_
    exact gm_r_int (pc := 14) (by decide +kernel) (Or.inl (by decide +kernel)) (h1 _ (by unfold s_fc; rw [tif_t j1]; rfl) (Or.inl j1))
  · show gm_Wp X LX d _ _ 101 9 _ [gm_vi 0] n K R _ Q
    have j1 : ¬ tx_is (M 2) e b wo_lane := j1
    refine fw_iftd (cc := .eq) (pc := 9) (off := 6) (by decide +kernel) (by decide) ⟨by decide, by decide⟩ (by decide) ?_
    refine gm_sz (gm_p_load (pc := 15) (i := .aload_n 0) (sr := 2) (j := 0) (by decide +kernel) rfl rfl rfl) ?_
    refine gm_sz (fw_gr (pc := 16) (ix := 47) (ci := 9) (j := 0) (r := 216) (by decide +kernel) (tE215c hE) (by decide +kernel) (by decide +kernel) (tEr hE).2.1) ?_
    refine gm_sz (gm_p_ldcs (pc := 19) (i := .ldc 124) (ix := 124) (id := 8) (by decide +kernel) (Or.inl rfl) (by decide +kernel)) ?_
    refine gm_c_virt (k := 216) (ci := 8) (mj := 81) (ix := 84) (pc := 21) (as := [gm_vo 8]) (st := []) (d' := d - 1) (bc' := 0) (bs' := 0) (by decide +kernel) (by decide +kernel) (by decide +kernel) (by decide +kernel) (tE216c hE).1 (tE216c hE).2 (by decide) (by decide +kernel) (show 1 = gm_na 81 by decide +kernel) (fw_c1 fw_so) (show 2 ≤ gm_ml 81 by decide +kernel) (Nat.le_of_ble_eq_true rfl) (by omega) (Nat.zero_le _) (Nat.zero_le _) ?_
    refine tx_c81 (by omega) hE (by decide) (show tx_o 8 = wo_row by decide +kernel) hb (fun j2 => ?_) (fun j2 => ?_)
    · show gm_Wp X LX d _ _ 101 24 _ [gm_vi 1] n K R _ Q
      have j2 : tx_is (M 2) e b wo_row := j2
      refine fw_iffd (cc := .eq) (pc := 24) (off := 6) (by decide +kernel) (by decide) ⟨by decide, by decide⟩ (by decide) ?_
      refine gm_sz (gm_p_const (pc := 27) (i := .bipush (-3)) (v := gm_vi (-3)) (by decide +kernel) (by decide +kernel)) ?_
      exact gm_r_int (pc := 29) (by decide +kernel) (Or.inl (by decide +kernel)) (h1 _ (by unfold s_fc; rw [tif_f j1, tif_t j2]; rfl) (Or.inr (Or.inl j2)))
    · show gm_Wp X LX d _ _ 101 24 _ [gm_vi 0] n K R _ Q
      have j2 : ¬ tx_is (M 2) e b wo_row := j2
      refine fw_iftd (cc := .eq) (pc := 24) (off := 6) (by decide +kernel) (by decide) ⟨by decide, by decide⟩ (by decide) ?_
      refine gm_sz (gm_p_load (pc := 30) (i := .aload_n 0) (sr := 2) (j := 0) (by decide +kernel) rfl rfl rfl) ?_
      refine gm_sz (fw_gr (pc := 31) (ix := 47) (ci := 9) (j := 0) (r := 216) (by decide +kernel) (tE215c hE) (by decide +kernel) (by decide +kernel) (tEr hE).2.1) ?_
      refine gm_sz (gm_p_ldcs (pc := 34) (i := .ldc 126) (ix := 126) (id := 9) (by decide +kernel) (Or.inl rfl) (by decide +kernel)) ?_
      refine gm_c_virt (k := 216) (ci := 8) (mj := 81) (ix := 84) (pc := 36) (as := [gm_vo 9]) (st := []) (d' := d - 1) (bc' := 0) (bs' := 0) (by decide +kernel) (by decide +kernel) (by decide +kernel) (by decide +kernel) (tE216c hE).1 (tE216c hE).2 (by decide) (by decide +kernel) (show 1 = gm_na 81 by decide +kernel) (fw_c1 fw_so) (show 2 ≤ gm_ml 81 by decide +kernel) (Nat.le_of_ble_eq_true rfl) (by omega) (Nat.zero_le _) (Nat.zero_le _) ?_
      refine tx_c81 (by omega) hE (by decide) (show tx_o 9 = wo_year by decide +kernel) hb (fun j3 => ?_) (fun j3 => ?_)
      · show gm_Wp X LX d _ _ 101 39 _ [gm_vi 1] n K R _ Q
        have j3 : tx_is (M 2) e b wo_year := j3
        refine fw_iffd (cc := .eq) (pc := 39) (off := 6) (by decide +kernel) (by decide) ⟨by decide, by decide⟩ (by decide) ?_
        refine gm_sz (gm_p_const (pc := 42) (i := .bipush (-4)) (v := gm_vi (-4)) (by decide +kernel) (by decide +kernel)) ?_
        exact gm_r_int (pc := 44) (by decide +kernel) (Or.inl (by decide +kernel)) (h1 _ (by unfold s_fc; rw [tif_f j1, tif_f j2, tif_t j3]; rfl) (Or.inr (Or.inr (Or.inl j3))))
      · show gm_Wp X LX d _ _ 101 39 _ [gm_vi 0] n K R _ Q
        have j3 : ¬ tx_is (M 2) e b wo_year := j3
        refine fw_iftd (cc := .eq) (pc := 39) (off := 6) (by decide +kernel) (by decide) ⟨by decide, by decide⟩ (by decide) ?_
        refine gm_sz (gm_p_load (pc := 45) (i := .aload_n 0) (sr := 2) (j := 0) (by decide +kernel) rfl rfl rfl) ?_
        refine gm_sz (fw_gr (pc := 46) (ix := 47) (ci := 9) (j := 0) (r := 216) (by decide +kernel) (tE215c hE) (by decide +kernel) (by decide +kernel) (tEr hE).2.1) ?_
        refine gm_sz (gm_p_ldcs (pc := 49) (i := .ldc 128) (ix := 128) (id := 10) (by decide +kernel) (Or.inl rfl) (by decide +kernel)) ?_
        refine gm_c_virt (k := 216) (ci := 8) (mj := 81) (ix := 84) (pc := 51) (as := [gm_vo 10]) (st := []) (d' := d - 1) (bc' := 0) (bs' := 0) (by decide +kernel) (by decide +kernel) (by decide +kernel) (by decide +kernel) (tE216c hE).1 (tE216c hE).2 (by decide) (by decide +kernel) (show 1 = gm_na 81 by decide +kernel) (fw_c1 fw_so) (show 2 ≤ gm_ml 81 by decide +kernel) (Nat.le_of_ble_eq_true rfl) (by omega) (Nat.zero_le _) (Nat.zero_le _) ?_
        refine tx_c81 (by omega) hE (by decide) (show tx_o 10 = wo_heat by decide +kernel) hb (fun j4 => ?_) (fun j4 => ?_)
        · show gm_Wp X LX d _ _ 101 54 _ [gm_vi 1] n K R _ Q
          have j4 : tx_is (M 2) e b wo_heat := j4
          refine fw_iffd (cc := .eq) (pc := 54) (off := 6) (by decide +kernel) (by decide) ⟨by decide, by decide⟩ (by decide) ?_
          refine gm_sz (gm_p_const (pc := 57) (i := .bipush (-5)) (v := gm_vi (-5)) (by decide +kernel) (by decide +kernel)) ?_
          exact gm_r_int (pc := 59) (by decide +kernel) (Or.inl (by decide +kernel)) (h1 _ (by unfold s_fc; rw [tif_f j1, tif_f j2, tif_f j3, tif_t j4]; rfl) (Or.inr (Or.inr (Or.inr (Or.inl j4)))))
        · show gm_Wp X LX d _ _ 101 54 _ [gm_vi 0] n K R _ Q
          have j4 : ¬ tx_is (M 2) e b wo_heat := j4
          refine fw_iftd (cc := .eq) (pc := 54) (off := 6) (by decide +kernel) (by decide) ⟨by decide, by decide⟩ (by decide) ?_
          refine gm_sz (gm_p_load (pc := 60) (i := .aload_n 0) (sr := 2) (j := 0) (by decide +kernel) rfl rfl rfl) ?_
          refine gm_sz (fw_gr (pc := 61) (ix := 47) (ci := 9) (j := 0) (r := 216) (by decide +kernel) (tE215c hE) (by decide +kernel) (by decide +kernel) (tEr hE).2.1) ?_
          refine gm_sz (gm_p_ldcs (pc := 64) (i := .ldc 130) (ix := 130) (id := 11) (by decide +kernel) (Or.inl rfl) (by decide +kernel)) ?_
          refine gm_c_virt (k := 216) (ci := 8) (mj := 81) (ix := 84) (pc := 66) (as := [gm_vo 11]) (st := []) (d' := d - 1) (bc' := 0) (bs' := 0) (by decide +kernel) (by decide +kernel) (by decide +kernel) (by decide +kernel) (tE216c hE).1 (tE216c hE).2 (by decide) (by decide +kernel) (show 1 = gm_na 81 by decide +kernel) (fw_c1 fw_so) (show 2 ≤ gm_ml 81 by decide +kernel) (Nat.le_of_ble_eq_true rfl) (by omega) (Nat.zero_le _) (Nat.zero_le _) ?_
          refine tx_c81 (by omega) hE (by decide) (show tx_o 11 = wo_speed by decide +kernel) hb (fun j5 => ?_) (fun j5 => ?_)
          · show gm_Wp X LX d _ _ 101 69 _ [gm_vi 1] n K R _ Q
            have j5 : tx_is (M 2) e b wo_speed := j5
            refine fw_iffd (cc := .eq) (pc := 69) (off := 6) (by decide +kernel) (by decide) ⟨by decide, by decide⟩ (by decide) ?_
            refine gm_sz (gm_p_const (pc := 72) (i := .bipush (-6)) (v := gm_vi (-6)) (by decide +kernel) (by decide +kernel)) ?_
            exact gm_r_int (pc := 74) (by decide +kernel) (Or.inl (by decide +kernel)) (h1 _ (by unfold s_fc; rw [tif_f j1, tif_f j2, tif_f j3, tif_f j4, tif_t j5]; rfl) (Or.inr (Or.inr (Or.inr (Or.inr (Or.inl j5))))))
          · show gm_Wp X LX d _ _ 101 69 _ [gm_vi 0] n K R _ Q
            have j5 : ¬ tx_is (M 2) e b wo_speed := j5
            refine fw_iftd (cc := .eq) (pc := 69) (off := 6) (by decide +kernel) (by decide) ⟨by decide, by decide⟩ (by decide) ?_
            refine gm_sz (gm_p_load (pc := 75) (i := .aload_n 0) (sr := 2) (j := 0) (by decide +kernel) rfl rfl rfl) ?_
            refine gm_sz (fw_gr (pc := 76) (ix := 47) (ci := 9) (j := 0) (r := 216) (by decide +kernel) (tE215c hE) (by decide +kernel) (by decide +kernel) (tEr hE).2.1) ?_
            refine gm_sz (gm_p_ldcs (pc := 79) (i := .ldc 132) (ix := 132) (id := 12) (by decide +kernel) (Or.inl rfl) (by decide +kernel)) ?_
            refine gm_c_virt (k := 216) (ci := 8) (mj := 81) (ix := 84) (pc := 81) (as := [gm_vo 12]) (st := []) (d' := d - 1) (bc' := 0) (bs' := 0) (by decide +kernel) (by decide +kernel) (by decide +kernel) (by decide +kernel) (tE216c hE).1 (tE216c hE).2 (by decide) (by decide +kernel) (show 1 = gm_na 81 by decide +kernel) (fw_c1 fw_so) (show 2 ≤ gm_ml 81 by decide +kernel) (Nat.le_of_ble_eq_true rfl) (by omega) (Nat.zero_le _) (Nat.zero_le _) ?_
            refine tx_c81 (by omega) hE (by decide) (show tx_o 12 = wo_person by decide +kernel) hb (fun j6 => ?_) (fun j6 => ?_)
            · show gm_Wp X LX d _ _ 101 84 _ [gm_vi 1] n K R _ Q
              have j6 : tx_is (M 2) e b wo_person := j6
              refine fw_iffd (cc := .eq) (pc := 84) (off := 6) (by decide +kernel) (by decide) ⟨by decide, by decide⟩ (by decide) ?_
              refine gm_sz (gm_p_const (pc := 87) (i := .bipush (-7)) (v := gm_vi (-7)) (by decide +kernel) (by decide +kernel)) ?_
              exact gm_r_int (pc := 89) (by decide +kernel) (Or.inl (by decide +kernel)) (h1 _ (by unfold s_fc; rw [tif_f j1, tif_f j2, tif_f j3, tif_f j4, tif_f j5, tif_t j6]; rfl) (Or.inr (Or.inr (Or.inr (Or.inr (Or.inr (Or.inl j6)))))))
            · show gm_Wp X LX d _ _ 101 84 _ [gm_vi 0] n K R _ Q
              have j6 : ¬ tx_is (M 2) e b wo_person := j6
              refine fw_iftd (cc := .eq) (pc := 84) (off := 6) (by decide +kernel) (by decide) ⟨by decide, by decide⟩ (by decide) ?_
              refine gm_sz (gm_p_load (pc := 90) (i := .aload_n 0) (sr := 2) (j := 0) (by decide +kernel) rfl rfl rfl) ?_
              refine gm_sz (fw_gr (pc := 91) (ix := 47) (ci := 9) (j := 0) (r := 216) (by decide +kernel) (tE215c hE) (by decide +kernel) (by decide +kernel) (tEr hE).2.1) ?_
              refine gm_sz (gm_p_ldcs (pc := 94) (i := .ldc 134) (ix := 134) (id := 13) (by decide +kernel) (Or.inl rfl) (by decide +kernel)) ?_
              refine gm_c_virt (k := 216) (ci := 8) (mj := 81) (ix := 84) (pc := 96) (as := [gm_vo 13]) (st := []) (d' := d - 1) (bc' := 0) (bs' := 0) (by decide +kernel) (by decide +kernel) (by decide +kernel) (by decide +kernel) (tE216c hE).1 (tE216c hE).2 (by decide) (by decide +kernel) (show 1 = gm_na 81 by decide +kernel) (fw_c1 fw_so) (show 2 ≤ gm_ml 81 by decide +kernel) (Nat.le_of_ble_eq_true rfl) (by omega) (Nat.zero_le _) (Nat.zero_le _) ?_
              refine tx_c81 (by omega) hE (by decide) (show tx_o 13 = wo_age by decide +kernel) hb (fun j7 => ?_) (fun j7 => ?_)
              · show gm_Wp X LX d _ _ 101 99 _ [gm_vi 1] n K R _ Q
                have j7 : tx_is (M 2) e b wo_age := j7
                refine fw_iffd (cc := .eq) (pc := 99) (off := 6) (by decide +kernel) (by decide) ⟨by decide, by decide⟩ (by decide) ?_
                refine gm_sz (gm_p_const (pc := 102) (i := .bipush (-8)) (v := gm_vi (-8)) (by decide +kernel) (by decide +kernel)) ?_
                exact gm_r_int (pc := 104) (by decide +kernel) (Or.inl (by decide +kernel)) (h1 _ (by unfold s_fc; rw [tif_f j1, tif_f j2, tif_f j3, tif_f j4, tif_f j5, tif_f j6, tif_t j7]; rfl) (Or.inr (Or.inr (Or.inr (Or.inr (Or.inr (Or.inr (Or.inl j7))))))))
              · show gm_Wp X LX d _ _ 101 99 _ [gm_vi 0] n K R _ Q
                have j7 : ¬ tx_is (M 2) e b wo_age := j7
                refine fw_iftd (cc := .eq) (pc := 99) (off := 6) (by decide +kernel) (by decide) ⟨by decide, by decide⟩ (by decide) ?_
                refine gm_sz (gm_p_load (pc := 105) (i := .aload_n 0) (sr := 2) (j := 0) (by decide +kernel) rfl rfl rfl) ?_
                refine gm_sz (fw_gr (pc := 106) (ix := 47) (ci := 9) (j := 0) (r := 216) (by decide +kernel) (tE215c hE) (by decide +kernel) (by decide +kernel) (tEr hE).2.1) ?_
                refine gm_sz (gm_p_ldcs (pc := 109) (i := .ldc 136) (ix := 136) (id := 14) (by decide +kernel) (Or.inl rfl) (by decide +kernel)) ?_
                refine gm_c_virt (k := 216) (ci := 8) (mj := 81) (ix := 84) (pc := 111) (as := [gm_vo 14]) (st := []) (d' := d - 1) (bc' := 0) (bs' := 0) (by decide +kernel) (by decide +kernel) (by decide +kernel) (by decide +kernel) (tE216c hE).1 (tE216c hE).2 (by decide) (by decide +kernel) (show 1 = gm_na 81 by decide +kernel) (fw_c1 fw_so) (show 2 ≤ gm_ml 81 by decide +kernel) (Nat.le_of_ble_eq_true rfl) (by omega) (Nat.zero_le _) (Nat.zero_le _) ?_
                refine tx_c81 (by omega) hE (by decide) (show tx_o 14 = wo_deep by decide +kernel) hb (fun j8 => ?_) (fun j8 => ?_)
                · show gm_Wp X LX d _ _ 101 114 _ [gm_vi 1] n K R _ Q
                  have j8 : tx_is (M 2) e b wo_deep := j8
                  refine fw_iffd (cc := .eq) (pc := 114) (off := 8) (by decide +kernel) (by decide) ⟨by decide, by decide⟩ (by decide) ?_
                  refine gm_sz (gm_p_const (pc := 117) (i := .bipush (-9)) (v := gm_vi (-9)) (by decide +kernel) (by decide +kernel)) ?_
                  refine gm_sz (gm_p_goto (pc := 119) (off := 4) (by decide +kernel) (by decide)) ?_
                  exact gm_r_int (pc := 123) (by decide +kernel) (Or.inl (by decide +kernel)) (h1 _ (by unfold s_fc; rw [tif_f j1, tif_f j2, tif_f j3, tif_f j4, tif_f j5, tif_f j6, tif_f j7]; rfl) (Or.inr (Or.inr (Or.inr (Or.inr (Or.inr (Or.inr (Or.inr (j8)))))))))
                · show gm_Wp X LX d _ _ 101 114 _ [gm_vi 0] n K R _ Q
                  have j8 : ¬ tx_is (M 2) e b wo_deep := j8
                  refine fw_iftd (cc := .eq) (pc := 114) (off := 8) (by decide +kernel) (by decide) ⟨by decide, by decide⟩ (by decide) ?_
                  refine gm_sz (gm_p_const (pc := 122) (i := .iconst (-1)) (v := gm_vi (-1)) (by decide +kernel) (by decide +kernel)) ?_
                  exact gm_r_int (pc := 123) (by decide +kernel) (Or.inl (by decide +kernel)) (h0 fun hh => by rcases hh with hh | hh | hh | hh | hh | hh | hh | hh <;> contradiction)

theorem kx_s100 (hd : 8 ≤ d) (hE : tx_E n K R M e) : ∀ (t : Nat) (i b us : Int) (C : Int → Int) (Lc : List Int) (z : Option gm_V), i + t = 400 → 0 ≤ i → 0 ≤ b ∧ b ≤ e → us + 2 ≤ b → ctl Lc us lc D C → (∀ us2 C2, ctl (Lc ++ (s_sum (M 2) e t b).map pcd) us2 lc D C2 → (g_sum (M 2) e t b).1 = true → Q (.inl (some (gm_vi 1))) n K R (ct M e (g_sum (M 2) e t b).2 (-1) us2 lc D C2)) → (∀ us2 C2, ctk us2 lc D C2 → ¬ (g_sum (M 2) e t b).1 = true → Q (.inl (some (gm_vi 0))) n K R (ct M e (g_sum (M 2) e t b).2 (g_sum (M 2) e t b).2 us2 lc D C2)) → gm_Wp X LX d bc bs 100 2 [some (gm_vr 215), some (gm_vi i), z] [] n K R (ct M e b (-1) us lc D C) Q := by
  obtain ⟨-, he0, he4⟩ := tEe hE
  intro t
  induction t with
  | zero =>
    intro i b us C Lc z hit hi0 hb hu hok h1 h0
    refine gm_sz (gm_p_load (pc := 2) (i := .iload_n 1) (sr := 0) (j := 1) (by decide +kernel) rfl rfl rfl) ?_
    refine gm_sz (gm_p_const (pc := 3) (i := .sipush 400) (v := gm_vi 400) (by decide +kernel) (by decide +kernel)) ?_
    refine fw_ict (cc := .ge) (pc := 6) (off := 83) (by decide +kernel) (by decide) ⟨by omega, by omega⟩ ⟨by decide, by decide⟩ (show 400 ≤ i by omega) ?_
    refine gm_sz (gm_p_load (pc := 89) (i := .aload_n 0) (sr := 2) (j := 0) (by decide +kernel) rfl rfl rfl) ?_
    refine gm_sz (fw_gr (pc := 90) (ix := 47) (ci := 9) (j := 0) (r := 216) (by decide +kernel) (tE215c hE) (by decide +kernel) (by decide +kernel) (tEr hE).2.1) ?_
    refine gm_c_virt (k := 216) (ci := 8) (mj := 93) (ix := 51) (pc := 93) (as := []) (st := []) (d' := d - 1) (bc' := 0) (bs' := 0) (by decide +kernel) (by decide +kernel) (by decide +kernel) (by decide +kernel) (tE216c hE).1 (tE216c hE).2 (by decide) (by decide +kernel) (show 0 = gm_na 93 by decide +kernel) fw_c0 (show 1 ≤ gm_ml 93 by decide +kernel) (Nat.le_of_ble_eq_true rfl) (by omega) (Nat.zero_le _) (Nat.zero_le _) ?_
    refine tx_c93 hE hb ?_
    show gm_Wp X LX d _ _ 100 96 _ [gm_vi 0] n K R _ Q
    exact gm_r_int (pc := 96) (by decide +kernel) (Or.inr ⟨(by decide +kernel), Or.inl rfl⟩) (h0 us C hok.2.1 (fun h => by cases h))
  | succ t ih =>
    intro i b us C Lc z hit hi0 hb hu hok h1 h0
    have hkb := tx_kc (f := M 2) (e := e) (b := b) (fun h => tEb hE hb.1 (by omega))
    have hvb := tx_vb (f := M 2) (e := e) (m := 3) (b := b) (by decide)
    have hgb := tx_nb (f := M 2) hb.2
    have hgk := tx_kc (f := M 2) (e := e) (b := tx_n (M 2) e b) (fun h => tEb hE (by omega) (by omega))
    refine gm_sz (gm_p_load (pc := 2) (i := .iload_n 1) (sr := 0) (j := 1) (by decide +kernel) rfl rfl rfl) ?_
    refine gm_sz (gm_p_const (pc := 3) (i := .sipush 400) (v := gm_vi 400) (by decide +kernel) (by decide +kernel)) ?_
    refine fw_icf (cc := .ge) (pc := 6) (off := 83) (by decide +kernel) (by decide) ⟨by omega, by omega⟩ ⟨by decide, by decide⟩ (show ¬ 400 ≤ i by omega) ?_
    refine gm_sz (gm_p_load (pc := 9) (i := .aload_n 0) (sr := 2) (j := 0) (by decide +kernel) rfl rfl rfl) ?_
    refine gm_sz (fw_gr (pc := 10) (ix := 47) (ci := 9) (j := 0) (r := 216) (by decide +kernel) (tE215c hE) (by decide +kernel) (by decide +kernel) (tEr hE).2.1) ?_
    refine gm_sz (fw_gi (pc := 13) (ix := 102) (ci := 8) (j := 6) (x := tx_k (M 2) e b) (by decide +kernel) (tE216c hE) (by decide +kernel) (by decide +kernel) rfl) ?_
    refine gm_sz (gm_p_const (pc := 16) (i := .sipush 258) (v := gm_vi 258) (by decide +kernel) (by decide +kernel)) ?_
    refine fw_ic (cc := .ne) (pc := 19) (off := 13) (by decide +kernel) (by decide) ⟨by omega, by omega⟩ ⟨by decide, by decide⟩ (fun j1 => ?_) (fun j1 => ?_)
    · have j1 : ¬ (tx_k (M 2) e b) = 258 := j1
      refine gm_sz (gm_p_load (pc := 32) (i := .aload_n 0) (sr := 2) (j := 0) (by decide +kernel) rfl rfl rfl) ?_
      refine gm_c_virt (k := 215) (ci := 9) (mj := 101) (ix := 119) (pc := 33) (as := []) (st := []) (d' := d - 1) (bc' := 0) (bs' := 0) (by decide +kernel) (by decide +kernel) (by decide +kernel) (by decide +kernel) (tE215c hE).1 (tE215c hE).2 (by decide) (by decide +kernel) (show 0 = gm_na 101 by decide +kernel) fw_c0 (show 1 ≤ gm_ml 101 by decide +kernel) (Nat.le_of_ble_eq_true rfl) (by omega) (Nat.zero_le _) (Nat.zero_le _) ?_
      refine kx_c101 (by omega) hE hb (fun c2 j4 j5 => ?_) (fun j5 => ?_)
      · show gm_Wp X LX d _ _ 100 36 _ [gm_vi c2] n K R _ Q
        have j4 : c2 = -2 - s_fc (M 2) e b := j4
        have j3 := s_fcb (f := M 2) (e := e) (b := b)
        have ep : pcd (s_pt (M 2) e b) = c2 := by
          unfold s_pt
          rw [tif_f j1, j4]
          exact if_neg (by show ¬ s_fc (M 2) e b = 10; omega)
        have kb := hgb.2.2 (tx_kne (f := M 2) (by have := g_fk j5; omega))
        have j5 : g_fact (M 2) e b := j5
        have j5k := g_fk j5
        refine gm_sz (gm_p_stor (pc := 36) (i := .istore_n 2) (sr := 0) (j := 2) (by decide +kernel) rfl (show 3 ≤ _ from Nat.le_of_ble_eq_true rfl) rfl) ?_
        refine gm_sz (gm_p_load (pc := 37) (i := .iload_n 2) (sr := 0) (j := 2) (by decide +kernel) rfl rfl rfl) ?_
        refine gm_sz (gm_p_const (pc := 38) (i := .iconst (-1)) (v := gm_vi (-1)) (by decide +kernel) (by decide +kernel)) ?_
        refine fw_ict (cc := .ne) (pc := 39) (off := 11) (by decide +kernel) (by decide) ⟨by omega, by omega⟩ ⟨by decide, by decide⟩ (show ¬ c2 = (-1) by omega) ?_
        refine gm_sz (gm_p_load (pc := 50) (i := .aload_n 0) (sr := 2) (j := 0) (by decide +kernel) rfl rfl rfl) ?_
        refine gm_sz (gm_p_load (pc := 51) (i := .iload_n 2) (sr := 0) (j := 2) (by decide +kernel) rfl rfl rfl) ?_
        refine gm_c_virt (k := 215) (ci := 9) (mj := 99) (ix := 94) (pc := 52) (as := [gm_vi c2]) (st := []) (d' := d - 1) (bc' := 0) (bs' := 0) (by decide +kernel) (by decide +kernel) (by decide +kernel) (by decide +kernel) (tE215c hE).1 (tE215c hE).2 (by decide) (by decide +kernel) (show 1 = gm_na 99 by decide +kernel) (fw_c1 fw_si) (show 2 ≤ gm_ml 99 by decide +kernel) (Nat.le_of_ble_eq_true rfl) (by omega) (Nat.zero_le _) (Nat.zero_le _) ?_
        refine kx_c99 hE hok (by omega) ⟨by omega, by omega⟩ (fun C7 k8 => ?_)
        show gm_Wp X LX d _ _ 100 55 _ [] n K R _ Q
        refine gm_sz (gm_p_load (pc := 55) (i := .aload_n 0) (sr := 2) (j := 0) (by decide +kernel) rfl rfl rfl) ?_
        refine gm_sz (fw_gr (pc := 56) (ix := 47) (ci := 9) (j := 0) (r := 216) (by decide +kernel) (tE215c hE) (by decide +kernel) (by decide +kernel) (tEr hE).2.1) ?_
        refine gm_c_virt (k := 216) (ci := 8) (mj := 76) (ix := 57) (pc := 59) (as := []) (st := []) (d' := d - 1) (bc' := 0) (bs' := 0) (by decide +kernel) (by decide +kernel) (by decide +kernel) (by decide +kernel) (tE216c hE).1 (tE216c hE).2 (by decide) (by decide +kernel) (show 0 = gm_na 76 by decide +kernel) fw_c0 (show 1 ≤ gm_ml 76 by decide +kernel) (Nat.le_of_ble_eq_true rfl) (by omega) (Nat.zero_le _) (Nat.zero_le _) ?_
        refine tx_c76 (by omega) hE hb ?_
        show gm_Wp X LX d _ _ 100 62 _ [] n K R _ Q
        have g9 : 0 ≤ tx_n (M 2) e b ∧ tx_n (M 2) e b ≤ e := by have := tx_nb (f := M 2) (b := b) hb.2; omega
        refine gm_sz (gm_p_load (pc := 62) (i := .aload_n 0) (sr := 2) (j := 0) (by decide +kernel) rfl rfl rfl) ?_
        refine gm_sz (fw_gr (pc := 63) (ix := 47) (ci := 9) (j := 0) (r := 216) (by decide +kernel) (tE215c hE) (by decide +kernel) (by decide +kernel) (tEr hE).2.1) ?_
        refine gm_sz (fw_gi (pc := 66) (ix := 102) (ci := 8) (j := 6) (x := tx_k (M 2) e (tx_n (M 2) e b)) (by decide +kernel) (tE216c hE) (by decide +kernel) (by decide +kernel) rfl) ?_
        refine gm_sz (gm_p_const (pc := 69) (i := .bipush 43) (v := gm_vi 43) (by decide +kernel) (by decide +kernel)) ?_
        refine fw_ic (cc := .eq) (pc := 71) (off := 5) (by decide +kernel) (by decide) ⟨by omega, by omega⟩ ⟨by decide, by decide⟩ (fun j10 => ?_) (fun j10 => ?_)
        · have j10 : (tx_k (M 2) e (tx_n (M 2) e b)) = 43 := j10
          refine gm_sz (gm_p_load (pc := 76) (i := .aload_n 0) (sr := 2) (j := 0) (by decide +kernel) rfl rfl rfl) ?_
          refine gm_sz (fw_gr (pc := 77) (ix := 47) (ci := 9) (j := 0) (r := 216) (by decide +kernel) (tE215c hE) (by decide +kernel) (by decide +kernel) (tEr hE).2.1) ?_
          refine gm_c_virt (k := 216) (ci := 8) (mj := 76) (ix := 57) (pc := 80) (as := []) (st := []) (d' := d - 1) (bc' := 0) (bs' := 0) (by decide +kernel) (by decide +kernel) (by decide +kernel) (by decide +kernel) (tE216c hE).1 (tE216c hE).2 (by decide) (by decide +kernel) (show 0 = gm_na 76 by decide +kernel) fw_c0 (show 1 ≤ gm_ml 76 by decide +kernel) (Nat.le_of_ble_eq_true rfl) (by omega) (Nat.zero_le _) (Nat.zero_le _) ?_
          refine tx_c76 (by omega) hE g9 ?_
          show gm_Wp X LX d _ _ 100 83 _ [] n K R _ Q
          have g11 : 0 ≤ tx_n (M 2) e (tx_n (M 2) e b) ∧ tx_n (M 2) e (tx_n (M 2) e b) ≤ e := by have := tx_nb (f := M 2) (b := tx_n (M 2) e b) g9.2; omega
          refine gm_sz (gm_p_iinc (pc := 83) (j := 1) (z := 1) (by decide +kernel) rfl) ?_
          refine gm_sz (gm_p_goto (pc := 86) (off := (-84)) (by decide +kernel) (by decide)) ?_
          rw [g_sum2 (Or.inr j5) (by omega)] at h1 h0
          have nb9 := tx_nb (f := M 2) (e := e) (b := tx_n (M 2) e b) (by omega)
          rw [s_sum2 (by omega), List.map_cons, ep, List.append_cons] at h1
          exact ih (i + 1) _ _ _ _ _ (by omega) (by omega) g11 (by omega) k8 h1 h0
        · have j10 : ¬ (tx_k (M 2) e (tx_n (M 2) e b)) = 43 := j10
          refine gm_sz (gm_p_const (pc := 74) (i := .iconst 1) (v := gm_vi 1) (by decide +kernel) (by decide +kernel)) ?_
          rw [g_sum1 (Or.inr j5) (by omega), s_sum1 (by omega), List.map_cons, List.map_nil, ep] at h1
          exact gm_r_int (pc := 75) (by decide +kernel) (Or.inr ⟨(by decide +kernel), Or.inr rfl⟩) (h1 _ _ k8 rfl)
      · show gm_Wp X LX d _ _ 100 36 _ [gm_vi (-1)] n K R _ Q
        have j5 : ¬ g_fact (M 2) e b := j5
        refine gm_sz (gm_p_stor (pc := 36) (i := .istore_n 2) (sr := 0) (j := 2) (by decide +kernel) rfl (show 3 ≤ _ from Nat.le_of_ble_eq_true rfl) rfl) ?_
        refine gm_sz (gm_p_load (pc := 37) (i := .iload_n 2) (sr := 0) (j := 2) (by decide +kernel) rfl rfl rfl) ?_
        refine gm_sz (gm_p_const (pc := 38) (i := .iconst (-1)) (v := gm_vi (-1)) (by decide +kernel) (by decide +kernel)) ?_
        refine fw_icfd (cc := .ne) (pc := 39) (off := 11) (by decide +kernel) (by decide) ⟨by decide, by decide⟩ ⟨by decide, by decide⟩ (by decide) ?_
        refine gm_sz (gm_p_load (pc := 42) (i := .aload_n 0) (sr := 2) (j := 0) (by decide +kernel) rfl rfl rfl) ?_
        refine gm_sz (fw_gr (pc := 43) (ix := 47) (ci := 9) (j := 0) (r := 216) (by decide +kernel) (tE215c hE) (by decide +kernel) (by decide +kernel) (tEr hE).2.1) ?_
        refine gm_c_virt (k := 216) (ci := 8) (mj := 93) (ix := 51) (pc := 46) (as := []) (st := []) (d' := d - 1) (bc' := 0) (bs' := 0) (by decide +kernel) (by decide +kernel) (by decide +kernel) (by decide +kernel) (tE216c hE).1 (tE216c hE).2 (by decide) (by decide +kernel) (show 0 = gm_na 93 by decide +kernel) fw_c0 (show 1 ≤ gm_ml 93 by decide +kernel) (Nat.le_of_ble_eq_true rfl) (by omega) (Nat.zero_le _) (Nat.zero_le _) ?_
        refine tx_c93 hE hb ?_
        show gm_Wp X LX d _ _ 100 49 _ [gm_vi 0] n K R _ Q
        have np : ¬ g_pt (M 2) e b := fun hh => by
          rcases hh with hh | hh
          · omega
          · exact j5 hh
        rw [g_sum0 np] at h0
        exact gm_r_int (pc := 49) (by decide +kernel) (Or.inr ⟨(by decide +kernel), Or.inl rfl⟩) (h0 _ _ hok.2.1 (fun h => by cases h))
    · have j1 : (tx_k (M 2) e b) = 258 := Classical.not_not.mp j1
      refine gm_sz (gm_p_load (pc := 22) (i := .aload_n 0) (sr := 2) (j := 0) (by decide +kernel) rfl rfl rfl) ?_
      refine gm_sz (fw_gr (pc := 23) (ix := 47) (ci := 9) (j := 0) (r := 216) (by decide +kernel) (tE215c hE) (by decide +kernel) (by decide +kernel) (tEr hE).2.1) ?_
      refine gm_sz (fw_gi (pc := 26) (ix := 116) (ci := 8) (j := 7) (x := tx_v (M 2) e 3 b) (by decide +kernel) (tE216c hE) (by decide +kernel) (by decide +kernel) rfl) ?_
      refine gm_sz (gm_p_goto (pc := 29) (off := 7) (by decide +kernel) (by decide)) ?_
      refine gm_sz (gm_p_stor (pc := 36) (i := .istore_n 2) (sr := 0) (j := 2) (by decide +kernel) rfl (show 3 ≤ _ from Nat.le_of_ble_eq_true rfl) rfl) ?_
      refine gm_sz (gm_p_load (pc := 37) (i := .iload_n 2) (sr := 0) (j := 2) (by decide +kernel) rfl rfl rfl) ?_
      refine gm_sz (gm_p_const (pc := 38) (i := .iconst (-1)) (v := gm_vi (-1)) (by decide +kernel) (by decide +kernel)) ?_
      refine fw_ic (cc := .ne) (pc := 39) (off := 11) (by decide +kernel) (by decide) ⟨by omega, by omega⟩ ⟨by decide, by decide⟩ (fun j12 => ?_) (fun j12 => ?_)
      · have j12 : ¬ (tx_v (M 2) e 3 b) = (-1) := j12
        have ep : pcd (s_pt (M 2) e b) = tx_v (M 2) e 3 b := by
          unfold s_pt
          rw [tif_t j1]
          exact if_pos rfl
        have kb := hgb.2.2 (tx_kne (f := M 2) (by omega))
        refine gm_sz (gm_p_load (pc := 50) (i := .aload_n 0) (sr := 2) (j := 0) (by decide +kernel) rfl rfl rfl) ?_
        refine gm_sz (gm_p_load (pc := 51) (i := .iload_n 2) (sr := 0) (j := 2) (by decide +kernel) rfl rfl rfl) ?_
        refine gm_c_virt (k := 215) (ci := 9) (mj := 99) (ix := 94) (pc := 52) (as := [gm_vi (tx_v (M 2) e 3 b)]) (st := []) (d' := d - 1) (bc' := 0) (bs' := 0) (by decide +kernel) (by decide +kernel) (by decide +kernel) (by decide +kernel) (tE215c hE).1 (tE215c hE).2 (by decide) (by decide +kernel) (show 1 = gm_na 99 by decide +kernel) (fw_c1 fw_si) (show 2 ≤ gm_ml 99 by decide +kernel) (Nat.le_of_ble_eq_true rfl) (by omega) (Nat.zero_le _) (Nat.zero_le _) ?_
        refine kx_c99 hE hok (by omega) ⟨by omega, by omega⟩ (fun C14 k15 => ?_)
        show gm_Wp X LX d _ _ 100 55 _ [] n K R _ Q
        refine gm_sz (gm_p_load (pc := 55) (i := .aload_n 0) (sr := 2) (j := 0) (by decide +kernel) rfl rfl rfl) ?_
        refine gm_sz (fw_gr (pc := 56) (ix := 47) (ci := 9) (j := 0) (r := 216) (by decide +kernel) (tE215c hE) (by decide +kernel) (by decide +kernel) (tEr hE).2.1) ?_
        refine gm_c_virt (k := 216) (ci := 8) (mj := 76) (ix := 57) (pc := 59) (as := []) (st := []) (d' := d - 1) (bc' := 0) (bs' := 0) (by decide +kernel) (by decide +kernel) (by decide +kernel) (by decide +kernel) (tE216c hE).1 (tE216c hE).2 (by decide) (by decide +kernel) (show 0 = gm_na 76 by decide +kernel) fw_c0 (show 1 ≤ gm_ml 76 by decide +kernel) (Nat.le_of_ble_eq_true rfl) (by omega) (Nat.zero_le _) (Nat.zero_le _) ?_
        refine tx_c76 (by omega) hE hb ?_
        show gm_Wp X LX d _ _ 100 62 _ [] n K R _ Q
        have g16 : 0 ≤ tx_n (M 2) e b ∧ tx_n (M 2) e b ≤ e := by have := tx_nb (f := M 2) (b := b) hb.2; omega
        refine gm_sz (gm_p_load (pc := 62) (i := .aload_n 0) (sr := 2) (j := 0) (by decide +kernel) rfl rfl rfl) ?_
        refine gm_sz (fw_gr (pc := 63) (ix := 47) (ci := 9) (j := 0) (r := 216) (by decide +kernel) (tE215c hE) (by decide +kernel) (by decide +kernel) (tEr hE).2.1) ?_
        refine gm_sz (fw_gi (pc := 66) (ix := 102) (ci := 8) (j := 6) (x := tx_k (M 2) e (tx_n (M 2) e b)) (by decide +kernel) (tE216c hE) (by decide +kernel) (by decide +kernel) rfl) ?_
        refine gm_sz (gm_p_const (pc := 69) (i := .bipush 43) (v := gm_vi 43) (by decide +kernel) (by decide +kernel)) ?_
        refine fw_ic (cc := .eq) (pc := 71) (off := 5) (by decide +kernel) (by decide) ⟨by omega, by omega⟩ ⟨by decide, by decide⟩ (fun j17 => ?_) (fun j17 => ?_)
        · have j17 : (tx_k (M 2) e (tx_n (M 2) e b)) = 43 := j17
          refine gm_sz (gm_p_load (pc := 76) (i := .aload_n 0) (sr := 2) (j := 0) (by decide +kernel) rfl rfl rfl) ?_
          refine gm_sz (fw_gr (pc := 77) (ix := 47) (ci := 9) (j := 0) (r := 216) (by decide +kernel) (tE215c hE) (by decide +kernel) (by decide +kernel) (tEr hE).2.1) ?_
          refine gm_c_virt (k := 216) (ci := 8) (mj := 76) (ix := 57) (pc := 80) (as := []) (st := []) (d' := d - 1) (bc' := 0) (bs' := 0) (by decide +kernel) (by decide +kernel) (by decide +kernel) (by decide +kernel) (tE216c hE).1 (tE216c hE).2 (by decide) (by decide +kernel) (show 0 = gm_na 76 by decide +kernel) fw_c0 (show 1 ≤ gm_ml 76 by decide +kernel) (Nat.le_of_ble_eq_true rfl) (by omega) (Nat.zero_le _) (Nat.zero_le _) ?_
          refine tx_c76 (by omega) hE g16 ?_
          show gm_Wp X LX d _ _ 100 83 _ [] n K R _ Q
          have g18 : 0 ≤ tx_n (M 2) e (tx_n (M 2) e b) ∧ tx_n (M 2) e (tx_n (M 2) e b) ≤ e := by have := tx_nb (f := M 2) (b := tx_n (M 2) e b) g16.2; omega
          refine gm_sz (gm_p_iinc (pc := 83) (j := 1) (z := 1) (by decide +kernel) rfl) ?_
          refine gm_sz (gm_p_goto (pc := 86) (off := (-84)) (by decide +kernel) (by decide)) ?_
          rw [g_sum2 (Or.inl ⟨by omega, by omega⟩) (by omega)] at h1 h0
          have nb9 := tx_nb (f := M 2) (e := e) (b := tx_n (M 2) e b) (by omega)
          rw [s_sum2 (by omega), List.map_cons, ep, List.append_cons] at h1
          exact ih (i + 1) _ _ _ _ _ (by omega) (by omega) g18 (by omega) k15 h1 h0
        · have j17 : ¬ (tx_k (M 2) e (tx_n (M 2) e b)) = 43 := j17
          refine gm_sz (gm_p_const (pc := 74) (i := .iconst 1) (v := gm_vi 1) (by decide +kernel) (by decide +kernel)) ?_
          rw [g_sum1 (Or.inl ⟨by omega, by omega⟩) (by omega), s_sum1 (by omega), List.map_cons, List.map_nil, ep] at h1
          exact gm_r_int (pc := 75) (by decide +kernel) (Or.inr ⟨(by decide +kernel), Or.inr rfl⟩) (h1 _ _ k15 rfl)
      · have j12 : (tx_v (M 2) e 3 b) = (-1) := Classical.not_not.mp j12
        refine gm_sz (gm_p_load (pc := 42) (i := .aload_n 0) (sr := 2) (j := 0) (by decide +kernel) rfl rfl rfl) ?_
        refine gm_sz (fw_gr (pc := 43) (ix := 47) (ci := 9) (j := 0) (r := 216) (by decide +kernel) (tE215c hE) (by decide +kernel) (by decide +kernel) (tEr hE).2.1) ?_
        refine gm_c_virt (k := 216) (ci := 8) (mj := 93) (ix := 51) (pc := 46) (as := []) (st := []) (d' := d - 1) (bc' := 0) (bs' := 0) (by decide +kernel) (by decide +kernel) (by decide +kernel) (by decide +kernel) (tE216c hE).1 (tE216c hE).2 (by decide) (by decide +kernel) (show 0 = gm_na 93 by decide +kernel) fw_c0 (show 1 ≤ gm_ml 93 by decide +kernel) (Nat.le_of_ble_eq_true rfl) (by omega) (Nat.zero_le _) (Nat.zero_le _) ?_
        refine tx_c93 hE hb ?_
        show gm_Wp X LX d _ _ 100 49 _ [gm_vi 0] n K R _ Q
        have np : ¬ g_pt (M 2) e b := fun hh => by
          rcases hh with hh | hh
          · omega
          · have := g_fk hh
            omega
        rw [g_sum0 np] at h0
        exact gm_r_int (pc := 49) (by decide +kernel) (Or.inr ⟨(by decide +kernel), Or.inl rfl⟩) (h0 _ _ hok.2.1 (fun h => by cases h))

theorem kx_c100 (hE : tx_E n K R M e) : cA2 X LX n K R M e lc D 100 [gm_vr 215] (g_sum (M 2) e 400) (fun b => (s_sum (M 2) e 400 b).map pcd) 8 := by
  intro d bc bs b us C Lc Q hd hb hu hok h1 h0
  refine gm_sz (gm_p_const (pc := 0) (i := .iconst 0) (v := gm_vi 0) (by decide +kernel) (by decide +kernel)) ?_
  refine gm_sz (gm_p_stor (pc := 1) (i := .istore_n 1) (sr := 0) (j := 1) (by decide +kernel) rfl (show 2 ≤ _ from Nat.le_of_ble_eq_true rfl) rfl) ?_
  exact kx_s100 hd hE 400 0 b us C Lc none rfl (Int.le_refl _) hb hu hok h1 h0

theorem kx_c97 {A A2 : Int → Bool × Int} {SA SC : Int → List lst} {BA BC : Nat} {ok : Prop} {dep : Int} {dA dC dn : Nat} (hE : tx_E n K R M e) (hdep : 0 ≤ dep ∧ dep ≤ 6) (hok6 : ok ↔ dep < 6) (hA : ok → cA2 X LX n K R M e lc D 97 [gm_vr 215, gm_vi (dep + 1)] A (fun b => scds (SA b)) dA) (hC : ok → cA2 X LX n K R M e lc D 96 [gm_vr 215, gm_vi (dep + 1)] A2 (fun b => scds (SC b)) dC) (oA : ok → s_ok e A SA BA) (oC : ok → s_ok e A2 SC BC) (iA : g_in e A) (iC : g_in e A2) (hd9 : 9 ≤ dn ∧ (ok → dA + 1 ≤ dn ∧ dC + 1 ≤ dn)) : cA2 X LX n K R M e lc D 97 [gm_vr 215, gm_vi dep] (g_atm (M 2) e A A2 ok) (fun b => scds (s_atm (M 2) e SA SC b)) dn := by
  obtain ⟨-, he0, he4⟩ := tEe hE
  intro d bc bs b us C Lc Q hd hb hu hok h1 h0
  dsimp only at h1
  have nb9 := tx_nb (f := M 2) hb.2
  have hkb := tx_kc (f := M 2) (e := e) (b := b) (fun h => tEb hE hb.1 (by omega))
  have hsb := g_sum_in (f := M 2) 400 b hb.1 hb.2
  have hsk := tx_kc (f := M 2) (e := e) (b := (g_sum (M 2) e 400 b).2) (fun h => tEb hE (by omega) (by omega))
  refine gm_sz (gm_p_load (pc := 0) (i := .aload_n 0) (sr := 2) (j := 0) (by decide +kernel) rfl rfl rfl) ?_
  refine gm_sz (fw_gr (pc := 1) (ix := 47) (ci := 9) (j := 0) (r := 216) (by decide +kernel) (tE215c hE) (by decide +kernel) (by decide +kernel) (tEr hE).2.1) ?_
  refine gm_sz (gm_p_ldcs (pc := 4) (i := .ldc 100) (ix := 100) (id := 4) (by decide +kernel) (Or.inl rfl) (by decide +kernel)) ?_
  refine gm_c_virt (k := 216) (ci := 8) (mj := 81) (ix := 84) (pc := 6) (as := [gm_vo 4]) (st := []) (d' := d - 1) (bc' := 0) (bs' := 0) (by decide +kernel) (by decide +kernel) (by decide +kernel) (by decide +kernel) (tE216c hE).1 (tE216c hE).2 (by decide) (by decide +kernel) (show 1 = gm_na 81 by decide +kernel) (fw_c1 fw_so) (show 2 ≤ gm_ml 81 by decide +kernel) (Nat.le_of_ble_eq_true rfl) (by omega) (Nat.zero_le _) (Nat.zero_le _) ?_
  refine tx_c81 (by omega) hE (by decide) (show tx_o 4 = wo_not by decide +kernel) hb (fun j1 => ?_) (fun j1 => ?_)
  · show gm_Wp X LX d _ _ 97 9 _ [gm_vi 1] n K R _ Q
    have j1 : tx_is (M 2) e b wo_not := j1
    refine gm_sz (gm_p_stor (pc := 9) (i := .istore_n 2) (sr := 0) (j := 2) (by decide +kernel) rfl (show 3 ≤ _ from Nat.le_of_ble_eq_true rfl) rfl) ?_
    refine gm_sz (gm_p_load (pc := 10) (i := .iload_n 2) (sr := 0) (j := 2) (by decide +kernel) rfl rfl rfl) ?_
    refine fw_iftd (cc := .ne) (pc := 11) (off := 15) (by decide +kernel) (by decide) ⟨by decide, by decide⟩ (by decide) ?_
    refine gm_sz (gm_p_load (pc := 26) (i := .iload_n 1) (sr := 0) (j := 1) (by decide +kernel) rfl rfl rfl) ?_
    refine gm_sz (gm_p_const (pc := 27) (i := .bipush 6) (v := gm_vi 6) (by decide +kernel) (by decide +kernel)) ?_
    refine fw_ic (cc := .lt) (pc := 29) (off := 11) (by decide +kernel) (by decide) ⟨by omega, by omega⟩ ⟨by decide, by decide⟩ (fun j2 => ?_) (fun j2 => ?_)
    · have j2 : dep < 6 := j2
      refine gm_sz (gm_p_load (pc := 40) (i := .aload_n 0) (sr := 2) (j := 0) (by decide +kernel) rfl rfl rfl) ?_
      refine gm_sz (fw_gr (pc := 41) (ix := 47) (ci := 9) (j := 0) (r := 216) (by decide +kernel) (tE215c hE) (by decide +kernel) (by decide +kernel) (tEr hE).2.1) ?_
      refine gm_c_virt (k := 216) (ci := 8) (mj := 76) (ix := 57) (pc := 44) (as := []) (st := []) (d' := d - 1) (bc' := 0) (bs' := 0) (by decide +kernel) (by decide +kernel) (by decide +kernel) (by decide +kernel) (tE216c hE).1 (tE216c hE).2 (by decide) (by decide +kernel) (show 0 = gm_na 76 by decide +kernel) fw_c0 (show 1 ≤ gm_ml 76 by decide +kernel) (Nat.le_of_ble_eq_true rfl) (by omega) (Nat.zero_le _) (Nat.zero_le _) ?_
      refine tx_c76 (by omega) hE hb ?_
      show gm_Wp X LX d _ _ 97 47 _ [] n K R _ Q
      have g3 : 0 ≤ tx_n (M 2) e b ∧ tx_n (M 2) e b ≤ e := by have := tx_nb (f := M 2) (b := b) hb.2; omega
      refine gm_sz (gm_p_load (pc := 47) (i := .iload_n 2) (sr := 0) (j := 2) (by decide +kernel) rfl rfl rfl) ?_
      refine fw_iffd (cc := .eq) (pc := 48) (off := 13) (by decide +kernel) (by decide) ⟨by decide, by decide⟩ (by decide) ?_
      refine gm_sz (gm_p_load (pc := 51) (i := .aload_n 0) (sr := 2) (j := 0) (by decide +kernel) rfl rfl rfl) ?_
      refine gm_sz (gm_p_load (pc := 52) (i := .iload_n 1) (sr := 0) (j := 1) (by decide +kernel) rfl rfl rfl) ?_
      refine gm_sz (gm_p_const (pc := 53) (i := .iconst 1) (v := gm_vi 1) (by decide +kernel) (by decide +kernel)) ?_
      refine gm_sz (gm_p_bin (pc := 54) (i := .iadd) (f := fun x y => x + y) (by decide +kernel) rfl) ?_
      refine gm_c_virt (k := 215) (ci := 9) (mj := 97) (ix := 91) (pc := 55) (as := [gm_vi (dep + 1)]) (st := []) (d' := d - 1) (bc' := 0) (bs' := 0) (by decide +kernel) (by decide +kernel) (by decide +kernel) (by decide +kernel) (tE215c hE).1 (tE215c hE).2 (by decide) (by decide +kernel) (show 1 = gm_na 97 by decide +kernel) (fw_c1 fw_si) (show 2 ≤ gm_ml 97 by decide +kernel) (Nat.le_of_ble_eq_true rfl) (by omega) (Nat.zero_le _) (Nat.zero_le _) ?_
      have kb := nb9.2.2 (g_isb j1)
      refine hA (hok6.mpr j2) _ _ _ _ _ _ _ _ (by have := hd9.2 (hok6.mpr j2); omega) g3 (by omega) hok (fun u4 C5 k6 j7 => ?_) (fun u4 C5 k6 j7 => ?_)
      · show gm_Wp X LX d _ _ 97 58 _ [gm_vi 1] n K R _ Q
        have j7 : (A (tx_n (M 2) e b)).1 = true := j7
        have g8 : 0 ≤ (A (tx_n (M 2) e b)).2 ∧ (A (tx_n (M 2) e b)).2 ≤ e := by have := iA (tx_n (M 2) e b) g3.1 g3.2; have := g3.1; omega
        refine gm_sz (gm_p_goto (pc := 58) (off := 30) (by decide +kernel) (by decide)) ?_
        refine gm_sz (gm_p_stor (pc := 88) (i := .istore_n 3) (sr := 0) (j := 3) (by decide +kernel) rfl (show 4 ≤ _ from Nat.le_of_ble_eq_true rfl) rfl) ?_
        refine gm_sz (gm_p_load (pc := 89) (i := .iload_n 3) (sr := 0) (j := 3) (by decide +kernel) rfl rfl rfl) ?_
        refine fw_iffd (cc := .eq) (pc := 90) (off := 13) (by decide +kernel) (by decide) ⟨by decide, by decide⟩ (by decide) ?_
        refine gm_sz (gm_p_load (pc := 93) (i := .iload_n 2) (sr := 0) (j := 2) (by decide +kernel) rfl rfl rfl) ?_
        refine fw_iffd (cc := .eq) (pc := 94) (off := 9) (by decide +kernel) (by decide) ⟨by decide, by decide⟩ (by decide) ?_
        refine gm_sz (gm_p_load (pc := 97) (i := .aload_n 0) (sr := 2) (j := 0) (by decide +kernel) rfl rfl rfl) ?_
        refine gm_sz (gm_p_const (pc := 98) (i := .bipush (-15)) (v := gm_vi (-15)) (by decide +kernel) (by decide +kernel)) ?_
        refine gm_c_virt (k := 215) (ci := 9) (mj := 99) (ix := 94) (pc := 100) (as := [gm_vi (-15)]) (st := []) (d' := d - 1) (bc' := 0) (bs' := 0) (by decide +kernel) (by decide +kernel) (by decide +kernel) (by decide +kernel) (tE215c hE).1 (tE215c hE).2 (by decide) (by decide +kernel) (show 1 = gm_na 99 by decide +kernel) (fw_c1 fw_si) (show 2 ≤ gm_ml 99 by decide +kernel) (Nat.le_of_ble_eq_true rfl) (by omega) (Nat.zero_le _) (Nat.zero_le _) ?_
        have z9 := klen k6 hok
        have o9 := (oA (hok6.mpr j2) _ g3.1 g3.2 j7).1
        have z9 : u4 = us + ((scds (SA (tx_n (M 2) e b))).length : Int) := z9
        refine kx_c99 hE k6 (by omega) ⟨by decide, by decide⟩ (fun C10 k11 => ?_)
        show gm_Wp X LX d _ _ 97 103 _ [] n K R _ Q
        refine gm_sz (gm_p_load (pc := 103) (i := .iload_n 3) (sr := 0) (j := 3) (by decide +kernel) rfl rfl rfl) ?_
        rw [g_a1 j1 (hok6.mpr j2)] at h1
        rw [s_a1 j1, scds_app, scds_1 (Or.inl rfl), ← List.append_assoc] at h1
        exact gm_r_int (pc := 104) (by decide +kernel) (Or.inr ⟨(by decide +kernel), Or.inr rfl⟩) (h1 _ _ k11 j7)
      · show gm_Wp X LX d _ _ 97 58 _ [gm_vi 0] n K R _ Q
        have j7 : ¬ (A (tx_n (M 2) e b)).1 = true := j7
        have g8 : 0 ≤ (A (tx_n (M 2) e b)).2 ∧ (A (tx_n (M 2) e b)).2 ≤ e := by have := iA (tx_n (M 2) e b) g3.1 g3.2; have := g3.1; omega
        refine gm_sz (gm_p_goto (pc := 58) (off := 30) (by decide +kernel) (by decide)) ?_
        refine gm_sz (gm_p_stor (pc := 88) (i := .istore_n 3) (sr := 0) (j := 3) (by decide +kernel) rfl (show 4 ≤ _ from Nat.le_of_ble_eq_true rfl) rfl) ?_
        refine gm_sz (gm_p_load (pc := 89) (i := .iload_n 3) (sr := 0) (j := 3) (by decide +kernel) rfl rfl rfl) ?_
        refine fw_iftd (cc := .eq) (pc := 90) (off := 13) (by decide +kernel) (by decide) ⟨by decide, by decide⟩ (by decide) ?_
        refine gm_sz (gm_p_load (pc := 103) (i := .iload_n 3) (sr := 0) (j := 3) (by decide +kernel) rfl rfl rfl) ?_
        rw [g_a1 j1 (hok6.mpr j2)] at h0
        exact gm_r_int (pc := 104) (by decide +kernel) (Or.inr ⟨(by decide +kernel), Or.inl rfl⟩) (h0 _ _ k6 j7)
    · have j2 : ¬ dep < 6 := j2
      refine gm_sz (gm_p_load (pc := 32) (i := .aload_n 0) (sr := 2) (j := 0) (by decide +kernel) rfl rfl rfl) ?_
      refine gm_sz (fw_gr (pc := 33) (ix := 47) (ci := 9) (j := 0) (r := 216) (by decide +kernel) (tE215c hE) (by decide +kernel) (by decide +kernel) (tEr hE).2.1) ?_
      refine gm_c_virt (k := 216) (ci := 8) (mj := 93) (ix := 51) (pc := 36) (as := []) (st := []) (d' := d - 1) (bc' := 0) (bs' := 0) (by decide +kernel) (by decide +kernel) (by decide +kernel) (by decide +kernel) (tE216c hE).1 (tE216c hE).2 (by decide) (by decide +kernel) (show 0 = gm_na 93 by decide +kernel) fw_c0 (show 1 ≤ gm_ml 93 by decide +kernel) (Nat.le_of_ble_eq_true rfl) (by omega) (Nat.zero_le _) (Nat.zero_le _) ?_
      refine tx_c93 hE hb ?_
      show gm_Wp X LX d _ _ 97 39 _ [gm_vi 0] n K R _ Q
      rw [g_a0 (Or.inl j1) (fun h => j2 (hok6.mp h))] at h0
      exact gm_r_int (pc := 39) (by decide +kernel) (Or.inr ⟨(by decide +kernel), Or.inl rfl⟩) (h0 _ _ hok.2.1 (fun h => by cases h))
  · show gm_Wp X LX d _ _ 97 9 _ [gm_vi 0] n K R _ Q
    have j1 : ¬ tx_is (M 2) e b wo_not := j1
    refine gm_sz (gm_p_stor (pc := 9) (i := .istore_n 2) (sr := 0) (j := 2) (by decide +kernel) rfl (show 3 ≤ _ from Nat.le_of_ble_eq_true rfl) rfl) ?_
    refine gm_sz (gm_p_load (pc := 10) (i := .iload_n 2) (sr := 0) (j := 2) (by decide +kernel) rfl rfl rfl) ?_
    refine fw_iffd (cc := .ne) (pc := 11) (off := 15) (by decide +kernel) (by decide) ⟨by decide, by decide⟩ (by decide) ?_
    refine gm_sz (gm_p_load (pc := 14) (i := .aload_n 0) (sr := 2) (j := 0) (by decide +kernel) rfl rfl rfl) ?_
    refine gm_sz (fw_gr (pc := 15) (ix := 47) (ci := 9) (j := 0) (r := 216) (by decide +kernel) (tE215c hE) (by decide +kernel) (by decide +kernel) (tEr hE).2.1) ?_
    refine gm_sz (fw_gi (pc := 18) (ix := 102) (ci := 8) (j := 6) (x := tx_k (M 2) e b) (by decide +kernel) (tE216c hE) (by decide +kernel) (by decide +kernel) rfl) ?_
    refine gm_sz (gm_p_const (pc := 21) (i := .bipush 40) (v := gm_vi 40) (by decide +kernel) (by decide +kernel)) ?_
    refine fw_ic (cc := .ne) (pc := 23) (off := 82) (by decide +kernel) (by decide) ⟨by omega, by omega⟩ ⟨by decide, by decide⟩ (fun j12 => ?_) (fun j12 => ?_)
    · have j12 : ¬ (tx_k (M 2) e b) = 40 := j12
      refine gm_sz (gm_p_load (pc := 105) (i := .aload_n 0) (sr := 2) (j := 0) (by decide +kernel) rfl rfl rfl) ?_
      refine gm_sz (fw_gr (pc := 106) (ix := 47) (ci := 9) (j := 0) (r := 216) (by decide +kernel) (tE215c hE) (by decide +kernel) (by decide +kernel) (tEr hE).2.1) ?_
      refine gm_sz (gm_p_ldcs (pc := 109) (i := .ldc 109) (ix := 109) (id := 5) (by decide +kernel) (Or.inl rfl) (by decide +kernel)) ?_
      refine gm_c_virt (k := 216) (ci := 8) (mj := 95) (ix := 67) (pc := 111) (as := [gm_vo 5]) (st := []) (d' := d - 1) (bc' := 0) (bs' := 0) (by decide +kernel) (by decide +kernel) (by decide +kernel) (by decide +kernel) (tE216c hE).1 (tE216c hE).2 (by decide) (by decide +kernel) (show 1 = gm_na 95 by decide +kernel) (fw_c1 fw_so) (show 2 ≤ gm_ml 95 by decide +kernel) (Nat.le_of_ble_eq_true rfl) (by omega) (Nat.zero_le _) (Nat.zero_le _) ?_
      refine tx_c95 (by omega) hE (by decide) (show tx_o 5 = wo_side by decide +kernel) hb (fun j13 => ?_) (fun j13 => ?_)
      · show gm_Wp X LX d _ _ 97 114 _ [gm_vi 1] n K R _ Q
        have j13 : tx_is (M 2) e b wo_side := j13
        have g14 : 0 ≤ tx_n (M 2) e b ∧ tx_n (M 2) e b ≤ e := by have := tx_nb (f := M 2) (b := b) hb.2; omega
        refine fw_iffd (cc := .eq) (pc := 114) (off := 11) (by decide +kernel) (by decide) ⟨by decide, by decide⟩ (by decide) ?_
        refine gm_sz (gm_p_load (pc := 117) (i := .aload_n 0) (sr := 2) (j := 0) (by decide +kernel) rfl rfl rfl) ?_
        refine gm_sz (gm_p_const (pc := 118) (i := .bipush (-10)) (v := gm_vi (-10)) (by decide +kernel) (by decide +kernel)) ?_
        refine gm_c_virt (k := 215) (ci := 9) (mj := 99) (ix := 94) (pc := 120) (as := [gm_vi (-10)]) (st := []) (d' := d - 1) (bc' := 0) (bs' := 0) (by decide +kernel) (by decide +kernel) (by decide +kernel) (by decide +kernel) (tE215c hE).1 (tE215c hE).2 (by decide) (by decide +kernel) (show 1 = gm_na 99 by decide +kernel) (fw_c1 fw_si) (show 2 ≤ gm_ml 99 by decide +kernel) (Nat.le_of_ble_eq_true rfl) (by omega) (Nat.zero_le _) (Nat.zero_le _) ?_
        refine kx_c99 hE hok (by omega) ⟨by decide, by decide⟩ (fun C16 k17 => ?_)
        show gm_Wp X LX d _ _ 97 123 _ [] n K R _ Q
        refine gm_sz (gm_p_const (pc := 123) (i := .iconst 1) (v := gm_vi 1) (by decide +kernel) (by decide +kernel)) ?_
        rw [g_a5 j1 (by omega) (Or.inl j13)] at h1
        rw [s_a5 j1 (by omega) j13, scds_1 (Or.inr (Or.inr (Or.inr (Or.inl rfl))))] at h1
        exact gm_r_int (pc := 124) (by decide +kernel) (Or.inr ⟨(by decide +kernel), Or.inr rfl⟩) (h1 _ _ k17 rfl)
      · show gm_Wp X LX d _ _ 97 114 _ [gm_vi 0] n K R _ Q
        have j13 : ¬ tx_is (M 2) e b wo_side := j13
        refine fw_iftd (cc := .eq) (pc := 114) (off := 11) (by decide +kernel) (by decide) ⟨by decide, by decide⟩ (by decide) ?_
        refine gm_sz (gm_p_load (pc := 125) (i := .aload_n 0) (sr := 2) (j := 0) (by decide +kernel) rfl rfl rfl) ?_
        refine gm_sz (fw_gr (pc := 126) (ix := 47) (ci := 9) (j := 0) (r := 216) (by decide +kernel) (tE215c hE) (by decide +kernel) (by decide +kernel) (tEr hE).2.1) ?_
        refine gm_sz (gm_p_ldcs (pc := 129) (i := .ldc 111) (ix := 111) (id := 6) (by decide +kernel) (Or.inl rfl) (by decide +kernel)) ?_
        refine gm_c_virt (k := 216) (ci := 8) (mj := 95) (ix := 67) (pc := 131) (as := [gm_vo 6]) (st := []) (d' := d - 1) (bc' := 0) (bs' := 0) (by decide +kernel) (by decide +kernel) (by decide +kernel) (by decide +kernel) (tE216c hE).1 (tE216c hE).2 (by decide) (by decide +kernel) (show 1 = gm_na 95 by decide +kernel) (fw_c1 fw_so) (show 2 ≤ gm_ml 95 by decide +kernel) (Nat.le_of_ble_eq_true rfl) (by omega) (Nat.zero_le _) (Nat.zero_le _) ?_
        refine tx_c95 (by omega) hE (by decide) (show tx_o 6 = wo_first by decide +kernel) hb (fun j18 => ?_) (fun j18 => ?_)
        · show gm_Wp X LX d _ _ 97 134 _ [gm_vi 1] n K R _ Q
          have j18 : tx_is (M 2) e b wo_first := j18
          have g19 : 0 ≤ tx_n (M 2) e b ∧ tx_n (M 2) e b ≤ e := by have := tx_nb (f := M 2) (b := b) hb.2; omega
          refine fw_iffd (cc := .eq) (pc := 134) (off := 11) (by decide +kernel) (by decide) ⟨by decide, by decide⟩ (by decide) ?_
          refine gm_sz (gm_p_load (pc := 137) (i := .aload_n 0) (sr := 2) (j := 0) (by decide +kernel) rfl rfl rfl) ?_
          refine gm_sz (gm_p_const (pc := 138) (i := .bipush (-11)) (v := gm_vi (-11)) (by decide +kernel) (by decide +kernel)) ?_
          refine gm_c_virt (k := 215) (ci := 9) (mj := 99) (ix := 94) (pc := 140) (as := [gm_vi (-11)]) (st := []) (d' := d - 1) (bc' := 0) (bs' := 0) (by decide +kernel) (by decide +kernel) (by decide +kernel) (by decide +kernel) (tE215c hE).1 (tE215c hE).2 (by decide) (by decide +kernel) (show 1 = gm_na 99 by decide +kernel) (fw_c1 fw_si) (show 2 ≤ gm_ml 99 by decide +kernel) (Nat.le_of_ble_eq_true rfl) (by omega) (Nat.zero_le _) (Nat.zero_le _) ?_
          refine kx_c99 hE hok (by omega) ⟨by decide, by decide⟩ (fun C21 k22 => ?_)
          show gm_Wp X LX d _ _ 97 143 _ [] n K R _ Q
          refine gm_sz (gm_p_const (pc := 143) (i := .iconst 1) (v := gm_vi 1) (by decide +kernel) (by decide +kernel)) ?_
          rw [g_a5 j1 (by omega) (Or.inr j18)] at h1
          rw [s_a6 j1 (by omega) j13 j18, scds_1 (Or.inr (Or.inr (Or.inr (Or.inr rfl))))] at h1
          exact gm_r_int (pc := 144) (by decide +kernel) (Or.inr ⟨(by decide +kernel), Or.inr rfl⟩) (h1 _ _ k22 rfl)
        · show gm_Wp X LX d _ _ 97 134 _ [gm_vi 0] n K R _ Q
          have j18 : ¬ tx_is (M 2) e b wo_first := j18
          refine fw_iftd (cc := .eq) (pc := 134) (off := 11) (by decide +kernel) (by decide) ⟨by decide, by decide⟩ (by decide) ?_
          refine gm_sz (gm_p_load (pc := 145) (i := .aload_n 0) (sr := 2) (j := 0) (by decide +kernel) rfl rfl rfl) ?_
          refine gm_c_virt (k := 215) (ci := 9) (mj := 100) (ix := 113) (pc := 146) (as := []) (st := []) (d' := d - 1) (bc' := 0) (bs' := 0) (by decide +kernel) (by decide +kernel) (by decide +kernel) (by decide +kernel) (tE215c hE).1 (tE215c hE).2 (by decide) (by decide +kernel) (show 0 = gm_na 100 by decide +kernel) fw_c0 (show 1 ≤ gm_ml 100 by decide +kernel) (Nat.le_of_ble_eq_true rfl) (by omega) (Nat.zero_le _) (Nat.zero_le _) ?_
          refine kx_c100 hE _ _ _ _ _ _ _ _ (by omega) hb hu hok (fun u23 C24 k25 j26 => ?_) (fun u23 C24 k25 j26 => ?_)
          · show gm_Wp X LX d _ _ 97 149 _ [gm_vi 1] n K R _ Q
            have j26 : (g_sum (M 2) e 400 b).1 = true := j26
            have g27 : 0 ≤ (g_sum (M 2) e 400 b).2 ∧ (g_sum (M 2) e 400 b).2 ≤ e := by have := g_sum_in (f := M 2) 400 b hb.1 hb.2; have := hb.1; omega
            have z25 := klen k25 hok
            rw [List.length_map] at z25
            have w25 := (s_sumw (f := M 2) 400 b hb.1 hb.2 j26).2.2
            have nb25 := tx_nb (f := M 2) (e := e) (b := (g_sum (M 2) e 400 b).2) g27.2
            refine fw_iftd (cc := .ne) (pc := 149) (off := 5) (by decide +kernel) (by decide) ⟨by decide, by decide⟩ (by decide) ?_
            refine gm_sz (gm_p_load (pc := 154) (i := .aload_n 0) (sr := 2) (j := 0) (by decide +kernel) rfl rfl rfl) ?_
            refine gm_sz (fw_gr (pc := 155) (ix := 47) (ci := 9) (j := 0) (r := 216) (by decide +kernel) (tE215c hE) (by decide +kernel) (by decide +kernel) (tEr hE).2.1) ?_
            refine gm_sz (fw_gi (pc := 158) (ix := 102) (ci := 8) (j := 6) (x := tx_k (M 2) e ((g_sum (M 2) e 400 b).2)) (by decide +kernel) (tE216c hE) (by decide +kernel) (by decide +kernel) rfl) ?_
            refine gm_sz (gm_p_stor (pc := 161) (i := .istore_n 3) (sr := 0) (j := 3) (by decide +kernel) rfl (show 4 ≤ _ from Nat.le_of_ble_eq_true rfl) rfl) ?_
            refine gm_sz (gm_p_load (pc := 162) (i := .iload_n 3) (sr := 0) (j := 3) (by decide +kernel) rfl rfl rfl) ?_
            refine gm_sz (gm_p_const (pc := 163) (i := .bipush 60) (v := gm_vi 60) (by decide +kernel) (by decide +kernel)) ?_
            refine fw_ic (cc := .eq) (pc := 165) (off := 17) (by decide +kernel) (by decide) ⟨by omega, by omega⟩ ⟨by decide, by decide⟩ (fun j28 => ?_) (fun j28 => ?_)
            · have j28 : (tx_k (M 2) e ((g_sum (M 2) e 400 b).2)) = 60 := j28
              refine gm_sz (gm_p_load (pc := 182) (i := .aload_n 0) (sr := 2) (j := 0) (by decide +kernel) rfl rfl rfl) ?_
              refine gm_sz (fw_gr (pc := 183) (ix := 47) (ci := 9) (j := 0) (r := 216) (by decide +kernel) (tE215c hE) (by decide +kernel) (by decide +kernel) (tEr hE).2.1) ?_
              refine gm_c_virt (k := 216) (ci := 8) (mj := 76) (ix := 57) (pc := 186) (as := []) (st := []) (d' := d - 1) (bc' := 0) (bs' := 0) (by decide +kernel) (by decide +kernel) (by decide +kernel) (by decide +kernel) (tE216c hE).1 (tE216c hE).2 (by decide) (by decide +kernel) (show 0 = gm_na 76 by decide +kernel) fw_c0 (show 1 ≤ gm_ml 76 by decide +kernel) (Nat.le_of_ble_eq_true rfl) (by omega) (Nat.zero_le _) (Nat.zero_le _) ?_
              refine tx_c76 (by omega) hE g27 ?_
              show gm_Wp X LX d _ _ 97 189 _ [] n K R _ Q
              have g29 : 0 ≤ tx_n (M 2) e ((g_sum (M 2) e 400 b).2) ∧ tx_n (M 2) e ((g_sum (M 2) e 400 b).2) ≤ e := by have := tx_nb (f := M 2) (b := (g_sum (M 2) e 400 b).2) g27.2; omega
              refine gm_sz (gm_p_load (pc := 189) (i := .aload_n 0) (sr := 2) (j := 0) (by decide +kernel) rfl rfl rfl) ?_
              refine gm_sz (gm_p_const (pc := 190) (i := .bipush (-12)) (v := gm_vi (-12)) (by decide +kernel) (by decide +kernel)) ?_
              refine gm_c_virt (k := 215) (ci := 9) (mj := 99) (ix := 94) (pc := 192) (as := [gm_vi (-12)]) (st := []) (d' := d - 1) (bc' := 0) (bs' := 0) (by decide +kernel) (by decide +kernel) (by decide +kernel) (by decide +kernel) (tE215c hE).1 (tE215c hE).2 (by decide) (by decide +kernel) (show 1 = gm_na 99 by decide +kernel) (fw_c1 fw_si) (show 2 ≤ gm_ml 99 by decide +kernel) (Nat.le_of_ble_eq_true rfl) (by omega) (Nat.zero_le _) (Nat.zero_le _) ?_
              have kb25 := nb25.2.2 (tx_kne (f := M 2) (by omega))
              refine kx_c99 hE k25 (by omega) ⟨by decide, by decide⟩ (fun C31 k32 => ?_)
              show gm_Wp X LX d _ _ 97 195 _ [] n K R _ Q
              refine gm_sz (gm_p_load (pc := 195) (i := .aload_n 0) (sr := 2) (j := 0) (by decide +kernel) rfl rfl rfl) ?_
              refine gm_c_virt (k := 215) (ci := 9) (mj := 100) (ix := 113) (pc := 196) (as := []) (st := []) (d' := d - 1) (bc' := 0) (bs' := 0) (by decide +kernel) (by decide +kernel) (by decide +kernel) (by decide +kernel) (tE215c hE).1 (tE215c hE).2 (by decide) (by decide +kernel) (show 0 = gm_na 100 by decide +kernel) fw_c0 (show 1 ≤ gm_ml 100 by decide +kernel) (Nat.le_of_ble_eq_true rfl) (by omega) (Nat.zero_le _) (Nat.zero_le _) ?_
              refine kx_c100 hE _ _ _ _ _ _ _ _ (by omega) g29 (by omega) k32 (fun u33 C34 k35 j36 => ?_) (fun u33 C34 k35 j36 => ?_)
              · show gm_Wp X LX d _ _ 97 199 _ [gm_vi 1] n K R _ Q
                have j36 : (g_sum (M 2) e 400 (tx_n (M 2) e ((g_sum (M 2) e 400 b).2))).1 = true := j36
                have g37 : 0 ≤ (g_sum (M 2) e 400 (tx_n (M 2) e ((g_sum (M 2) e 400 b).2))).2 ∧ (g_sum (M 2) e 400 (tx_n (M 2) e ((g_sum (M 2) e 400 b).2))).2 ≤ e := by have := g_sum_in (f := M 2) 400 (tx_n (M 2) e ((g_sum (M 2) e 400 b).2)) g29.1 g29.2; have := g29.1; omega
                refine fw_iftd (cc := .ne) (pc := 199) (off := 5) (by decide +kernel) (by decide) ⟨by decide, by decide⟩ (by decide) ?_
                refine gm_sz (gm_p_load (pc := 204) (i := .aload_n 0) (sr := 2) (j := 0) (by decide +kernel) rfl rfl rfl) ?_
                refine gm_sz (gm_p_load (pc := 205) (i := .iload_n 3) (sr := 0) (j := 3) (by decide +kernel) rfl rfl rfl) ?_
                refine gm_sz (gm_p_const (pc := 206) (i := .bipush 60) (v := gm_vi 60) (by decide +kernel) (by decide +kernel)) ?_
                refine fw_ic (cc := .ne) (pc := 208) (off := 8) (by decide +kernel) (by decide) ⟨by omega, by omega⟩ ⟨by decide, by decide⟩ (fun j38 => ?_) (fun j38 => ?_)
                · have j38 : ¬ (tx_k (M 2) e ((g_sum (M 2) e 400 b).2)) = 60 := j38
                  exact absurd j28 j38
                · have j38 : (tx_k (M 2) e ((g_sum (M 2) e 400 b).2)) = 60 := Classical.not_not.mp j38
                  refine gm_sz (gm_p_const (pc := 211) (i := .bipush (-13)) (v := gm_vi (-13)) (by decide +kernel) (by decide +kernel)) ?_
                  refine gm_sz (gm_p_goto (pc := 213) (off := 5) (by decide +kernel) (by decide)) ?_
                  refine gm_c_virt (k := 215) (ci := 9) (mj := 99) (ix := 94) (pc := 218) (as := [gm_vi (-13)]) (st := []) (d' := d - 1) (bc' := 0) (bs' := 0) (by decide +kernel) (by decide +kernel) (by decide +kernel) (by decide +kernel) (tE215c hE).1 (tE215c hE).2 (by decide) (by decide +kernel) (show 1 = gm_na 99 by decide +kernel) (fw_c1 fw_si) (show 2 ≤ gm_ml 99 by decide +kernel) (Nat.le_of_ble_eq_true rfl) (by omega) (Nat.zero_le _) (Nat.zero_le _) ?_
                  have z9 := klen k35 k32
                  rw [List.length_map] at z9
                  have w9 := (s_sumw (f := M 2) 400 _ g29.1 g29.2 j36).2.2
                  refine kx_c99 hE k35 (by omega) ⟨by decide, by decide⟩ (fun C43 k44 => ?_)
                  show gm_Wp X LX d _ _ 97 221 _ [] n K R _ Q
                  refine gm_sz (gm_p_const (pc := 221) (i := .iconst 1) (v := gm_vi 1) (by decide +kernel) (by decide +kernel)) ?_
                  rw [g_a8 j1 (by omega) j13 j18 j26 (by omega)] at h1
                  rw [s_a8 (g := false) j1 (by omega) j13 j18 (decide_eq_false (by omega)), scds_c, ← List.append_assoc, ← List.append_assoc, ← List.append_assoc] at h1
                  exact gm_r_int (pc := 222) (by decide +kernel) (Or.inr ⟨(by decide +kernel), Or.inr rfl⟩) (h1 _ _ k44 j36)
              · show gm_Wp X LX d _ _ 97 199 _ [gm_vi 0] n K R _ Q
                have j36 : ¬ (g_sum (M 2) e 400 (tx_n (M 2) e ((g_sum (M 2) e 400 b).2))).1 = true := j36
                have g37 : 0 ≤ (g_sum (M 2) e 400 (tx_n (M 2) e ((g_sum (M 2) e 400 b).2))).2 ∧ (g_sum (M 2) e 400 (tx_n (M 2) e ((g_sum (M 2) e 400 b).2))).2 ≤ e := by have := g_sum_in (f := M 2) 400 (tx_n (M 2) e ((g_sum (M 2) e 400 b).2)) g29.1 g29.2; have := g29.1; omega
                refine fw_iffd (cc := .ne) (pc := 199) (off := 5) (by decide +kernel) (by decide) ⟨by decide, by decide⟩ (by decide) ?_
                refine gm_sz (gm_p_const (pc := 202) (i := .iconst 0) (v := gm_vi 0) (by decide +kernel) (by decide +kernel)) ?_
                rw [g_a8 j1 (by omega) j13 j18 j26 (by omega)] at h0
                exact gm_r_int (pc := 203) (by decide +kernel) (Or.inr ⟨(by decide +kernel), Or.inl rfl⟩) (h0 _ _ k35 j36)
            · have j28 : ¬ (tx_k (M 2) e ((g_sum (M 2) e 400 b).2)) = 60 := j28
              refine gm_sz (gm_p_load (pc := 168) (i := .iload_n 3) (sr := 0) (j := 3) (by decide +kernel) rfl rfl rfl) ?_
              refine gm_sz (gm_p_const (pc := 169) (i := .bipush 62) (v := gm_vi 62) (by decide +kernel) (by decide +kernel)) ?_
              refine fw_ic (cc := .eq) (pc := 171) (off := 11) (by decide +kernel) (by decide) ⟨by omega, by omega⟩ ⟨by decide, by decide⟩ (fun j45 => ?_) (fun j45 => ?_)
              · have j45 : (tx_k (M 2) e ((g_sum (M 2) e 400 b).2)) = 62 := j45
                refine gm_sz (gm_p_load (pc := 182) (i := .aload_n 0) (sr := 2) (j := 0) (by decide +kernel) rfl rfl rfl) ?_
                refine gm_sz (fw_gr (pc := 183) (ix := 47) (ci := 9) (j := 0) (r := 216) (by decide +kernel) (tE215c hE) (by decide +kernel) (by decide +kernel) (tEr hE).2.1) ?_
                refine gm_c_virt (k := 216) (ci := 8) (mj := 76) (ix := 57) (pc := 186) (as := []) (st := []) (d' := d - 1) (bc' := 0) (bs' := 0) (by decide +kernel) (by decide +kernel) (by decide +kernel) (by decide +kernel) (tE216c hE).1 (tE216c hE).2 (by decide) (by decide +kernel) (show 0 = gm_na 76 by decide +kernel) fw_c0 (show 1 ≤ gm_ml 76 by decide +kernel) (Nat.le_of_ble_eq_true rfl) (by omega) (Nat.zero_le _) (Nat.zero_le _) ?_
                refine tx_c76 (by omega) hE g27 ?_
                show gm_Wp X LX d _ _ 97 189 _ [] n K R _ Q
                have g46 : 0 ≤ tx_n (M 2) e ((g_sum (M 2) e 400 b).2) ∧ tx_n (M 2) e ((g_sum (M 2) e 400 b).2) ≤ e := by have := tx_nb (f := M 2) (b := (g_sum (M 2) e 400 b).2) g27.2; omega
                refine gm_sz (gm_p_load (pc := 189) (i := .aload_n 0) (sr := 2) (j := 0) (by decide +kernel) rfl rfl rfl) ?_
                refine gm_sz (gm_p_const (pc := 190) (i := .bipush (-12)) (v := gm_vi (-12)) (by decide +kernel) (by decide +kernel)) ?_
                refine gm_c_virt (k := 215) (ci := 9) (mj := 99) (ix := 94) (pc := 192) (as := [gm_vi (-12)]) (st := []) (d' := d - 1) (bc' := 0) (bs' := 0) (by decide +kernel) (by decide +kernel) (by decide +kernel) (by decide +kernel) (tE215c hE).1 (tE215c hE).2 (by decide) (by decide +kernel) (show 1 = gm_na 99 by decide +kernel) (fw_c1 fw_si) (show 2 ≤ gm_ml 99 by decide +kernel) (Nat.le_of_ble_eq_true rfl) (by omega) (Nat.zero_le _) (Nat.zero_le _) ?_
                have kb25 := nb25.2.2 (tx_kne (f := M 2) (by omega))
                refine kx_c99 hE k25 (by omega) ⟨by decide, by decide⟩ (fun C48 k49 => ?_)
                show gm_Wp X LX d _ _ 97 195 _ [] n K R _ Q
                refine gm_sz (gm_p_load (pc := 195) (i := .aload_n 0) (sr := 2) (j := 0) (by decide +kernel) rfl rfl rfl) ?_
                refine gm_c_virt (k := 215) (ci := 9) (mj := 100) (ix := 113) (pc := 196) (as := []) (st := []) (d' := d - 1) (bc' := 0) (bs' := 0) (by decide +kernel) (by decide +kernel) (by decide +kernel) (by decide +kernel) (tE215c hE).1 (tE215c hE).2 (by decide) (by decide +kernel) (show 0 = gm_na 100 by decide +kernel) fw_c0 (show 1 ≤ gm_ml 100 by decide +kernel) (Nat.le_of_ble_eq_true rfl) (by omega) (Nat.zero_le _) (Nat.zero_le _) ?_
                refine kx_c100 hE _ _ _ _ _ _ _ _ (by omega) g46 (by omega) k49 (fun u50 C51 k52 j53 => ?_) (fun u50 C51 k52 j53 => ?_)
                · show gm_Wp X LX d _ _ 97 199 _ [gm_vi 1] n K R _ Q
                  have j53 : (g_sum (M 2) e 400 (tx_n (M 2) e ((g_sum (M 2) e 400 b).2))).1 = true := j53
                  have g54 : 0 ≤ (g_sum (M 2) e 400 (tx_n (M 2) e ((g_sum (M 2) e 400 b).2))).2 ∧ (g_sum (M 2) e 400 (tx_n (M 2) e ((g_sum (M 2) e 400 b).2))).2 ≤ e := by have := g_sum_in (f := M 2) 400 (tx_n (M 2) e ((g_sum (M 2) e 400 b).2)) g46.1 g46.2; have := g46.1; omega
                  refine fw_iftd (cc := .ne) (pc := 199) (off := 5) (by decide +kernel) (by decide) ⟨by decide, by decide⟩ (by decide) ?_
                  refine gm_sz (gm_p_load (pc := 204) (i := .aload_n 0) (sr := 2) (j := 0) (by decide +kernel) rfl rfl rfl) ?_
                  refine gm_sz (gm_p_load (pc := 205) (i := .iload_n 3) (sr := 0) (j := 3) (by decide +kernel) rfl rfl rfl) ?_
                  refine gm_sz (gm_p_const (pc := 206) (i := .bipush 60) (v := gm_vi 60) (by decide +kernel) (by decide +kernel)) ?_
                  refine fw_ic (cc := .ne) (pc := 208) (off := 8) (by decide +kernel) (by decide) ⟨by omega, by omega⟩ ⟨by decide, by decide⟩ (fun j55 => ?_) (fun j55 => ?_)
                  · have j55 : ¬ (tx_k (M 2) e ((g_sum (M 2) e 400 b).2)) = 60 := j55
                    refine gm_sz (gm_p_const (pc := 216) (i := .bipush (-14)) (v := gm_vi (-14)) (by decide +kernel) (by decide +kernel)) ?_
                    refine gm_c_virt (k := 215) (ci := 9) (mj := 99) (ix := 94) (pc := 218) (as := [gm_vi (-14)]) (st := []) (d' := d - 1) (bc' := 0) (bs' := 0) (by decide +kernel) (by decide +kernel) (by decide +kernel) (by decide +kernel) (tE215c hE).1 (tE215c hE).2 (by decide) (by decide +kernel) (show 1 = gm_na 99 by decide +kernel) (fw_c1 fw_si) (show 2 ≤ gm_ml 99 by decide +kernel) (Nat.le_of_ble_eq_true rfl) (by omega) (Nat.zero_le _) (Nat.zero_le _) ?_
                    have z9 := klen k52 k49
                    rw [List.length_map] at z9
                    have w9 := (s_sumw (f := M 2) 400 _ g46.1 g46.2 j53).2.2
                    refine kx_c99 hE k52 (by omega) ⟨by decide, by decide⟩ (fun C57 k58 => ?_)
                    show gm_Wp X LX d _ _ 97 221 _ [] n K R _ Q
                    refine gm_sz (gm_p_const (pc := 221) (i := .iconst 1) (v := gm_vi 1) (by decide +kernel) (by decide +kernel)) ?_
                    rw [g_a8 j1 (by omega) j13 j18 j26 (by omega)] at h1
                    rw [s_a8 (g := true) j1 (by omega) j13 j18 (decide_eq_true (by omega)), scds_c, ← List.append_assoc, ← List.append_assoc, ← List.append_assoc] at h1
                    exact gm_r_int (pc := 222) (by decide +kernel) (Or.inr ⟨(by decide +kernel), Or.inr rfl⟩) (h1 _ _ k58 j53)
                  · have j55 : (tx_k (M 2) e ((g_sum (M 2) e 400 b).2)) = 60 := Classical.not_not.mp j55
                    omega
                · show gm_Wp X LX d _ _ 97 199 _ [gm_vi 0] n K R _ Q
                  have j53 : ¬ (g_sum (M 2) e 400 (tx_n (M 2) e ((g_sum (M 2) e 400 b).2))).1 = true := j53
                  have g54 : 0 ≤ (g_sum (M 2) e 400 (tx_n (M 2) e ((g_sum (M 2) e 400 b).2))).2 ∧ (g_sum (M 2) e 400 (tx_n (M 2) e ((g_sum (M 2) e 400 b).2))).2 ≤ e := by have := g_sum_in (f := M 2) 400 (tx_n (M 2) e ((g_sum (M 2) e 400 b).2)) g46.1 g46.2; have := g46.1; omega
                  refine fw_iffd (cc := .ne) (pc := 199) (off := 5) (by decide +kernel) (by decide) ⟨by decide, by decide⟩ (by decide) ?_
                  refine gm_sz (gm_p_const (pc := 202) (i := .iconst 0) (v := gm_vi 0) (by decide +kernel) (by decide +kernel)) ?_
                  rw [g_a8 j1 (by omega) j13 j18 j26 (by omega)] at h0
                  exact gm_r_int (pc := 203) (by decide +kernel) (Or.inr ⟨(by decide +kernel), Or.inl rfl⟩) (h0 _ _ k52 j53)
              · have j45 : ¬ (tx_k (M 2) e ((g_sum (M 2) e 400 b).2)) = 62 := j45
                refine gm_sz (gm_p_load (pc := 174) (i := .aload_n 0) (sr := 2) (j := 0) (by decide +kernel) rfl rfl rfl) ?_
                refine gm_sz (fw_gr (pc := 175) (ix := 47) (ci := 9) (j := 0) (r := 216) (by decide +kernel) (tE215c hE) (by decide +kernel) (by decide +kernel) (tEr hE).2.1) ?_
                refine gm_c_virt (k := 216) (ci := 8) (mj := 93) (ix := 51) (pc := 178) (as := []) (st := []) (d' := d - 1) (bc' := 0) (bs' := 0) (by decide +kernel) (by decide +kernel) (by decide +kernel) (by decide +kernel) (tE216c hE).1 (tE216c hE).2 (by decide) (by decide +kernel) (show 0 = gm_na 93 by decide +kernel) fw_c0 (show 1 ≤ gm_ml 93 by decide +kernel) (Nat.le_of_ble_eq_true rfl) (by omega) (Nat.zero_le _) (Nat.zero_le _) ?_
                refine tx_c93 hE g27 ?_
                show gm_Wp X LX d _ _ 97 181 _ [gm_vi 0] n K R _ Q
                rw [g_a7 j1 (by omega) j13 j18 j26 (by omega)] at h0
                exact gm_r_int (pc := 181) (by decide +kernel) (Or.inr ⟨(by decide +kernel), Or.inl rfl⟩) (h0 _ _ k25.2.1 (fun h => by cases h))
          · show gm_Wp X LX d _ _ 97 149 _ [gm_vi 0] n K R _ Q
            have j26 : ¬ (g_sum (M 2) e 400 b).1 = true := j26
            have g27 : 0 ≤ (g_sum (M 2) e 400 b).2 ∧ (g_sum (M 2) e 400 b).2 ≤ e := by have := g_sum_in (f := M 2) 400 b hb.1 hb.2; have := hb.1; omega
            refine fw_iffd (cc := .ne) (pc := 149) (off := 5) (by decide +kernel) (by decide) ⟨by decide, by decide⟩ (by decide) ?_
            refine gm_sz (gm_p_const (pc := 152) (i := .iconst 0) (v := gm_vi 0) (by decide +kernel) (by decide +kernel)) ?_
            rw [g_a6 j1 (by omega) j13 j18 j26] at h0
            exact gm_r_int (pc := 153) (by decide +kernel) (Or.inr ⟨(by decide +kernel), Or.inl rfl⟩) (h0 _ _ k25 j26)
    · have j12 : (tx_k (M 2) e b) = 40 := Classical.not_not.mp j12
      refine gm_sz (gm_p_load (pc := 26) (i := .iload_n 1) (sr := 0) (j := 1) (by decide +kernel) rfl rfl rfl) ?_
      refine gm_sz (gm_p_const (pc := 27) (i := .bipush 6) (v := gm_vi 6) (by decide +kernel) (by decide +kernel)) ?_
      refine fw_ic (cc := .lt) (pc := 29) (off := 11) (by decide +kernel) (by decide) ⟨by omega, by omega⟩ ⟨by decide, by decide⟩ (fun j62 => ?_) (fun j62 => ?_)
      · have j62 : dep < 6 := j62
        refine gm_sz (gm_p_load (pc := 40) (i := .aload_n 0) (sr := 2) (j := 0) (by decide +kernel) rfl rfl rfl) ?_
        refine gm_sz (fw_gr (pc := 41) (ix := 47) (ci := 9) (j := 0) (r := 216) (by decide +kernel) (tE215c hE) (by decide +kernel) (by decide +kernel) (tEr hE).2.1) ?_
        refine gm_c_virt (k := 216) (ci := 8) (mj := 76) (ix := 57) (pc := 44) (as := []) (st := []) (d' := d - 1) (bc' := 0) (bs' := 0) (by decide +kernel) (by decide +kernel) (by decide +kernel) (by decide +kernel) (tE216c hE).1 (tE216c hE).2 (by decide) (by decide +kernel) (show 0 = gm_na 76 by decide +kernel) fw_c0 (show 1 ≤ gm_ml 76 by decide +kernel) (Nat.le_of_ble_eq_true rfl) (by omega) (Nat.zero_le _) (Nat.zero_le _) ?_
        refine tx_c76 (by omega) hE hb ?_
        show gm_Wp X LX d _ _ 97 47 _ [] n K R _ Q
        have g63 : 0 ≤ tx_n (M 2) e b ∧ tx_n (M 2) e b ≤ e := by have := tx_nb (f := M 2) (b := b) hb.2; omega
        refine gm_sz (gm_p_load (pc := 47) (i := .iload_n 2) (sr := 0) (j := 2) (by decide +kernel) rfl rfl rfl) ?_
        refine fw_iftd (cc := .eq) (pc := 48) (off := 13) (by decide +kernel) (by decide) ⟨by decide, by decide⟩ (by decide) ?_
        refine gm_sz (gm_p_load (pc := 61) (i := .aload_n 0) (sr := 2) (j := 0) (by decide +kernel) rfl rfl rfl) ?_
        refine gm_sz (gm_p_load (pc := 62) (i := .iload_n 1) (sr := 0) (j := 1) (by decide +kernel) rfl rfl rfl) ?_
        refine gm_sz (gm_p_const (pc := 63) (i := .iconst 1) (v := gm_vi 1) (by decide +kernel) (by decide +kernel)) ?_
        refine gm_sz (gm_p_bin (pc := 64) (i := .iadd) (f := fun x y => x + y) (by decide +kernel) rfl) ?_
        refine gm_c_virt (k := 215) (ci := 9) (mj := 96) (ix := 71) (pc := 65) (as := [gm_vi (dep + 1)]) (st := []) (d' := d - 1) (bc' := 0) (bs' := 0) (by decide +kernel) (by decide +kernel) (by decide +kernel) (by decide +kernel) (tE215c hE).1 (tE215c hE).2 (by decide) (by decide +kernel) (show 1 = gm_na 96 by decide +kernel) (fw_c1 fw_si) (show 2 ≤ gm_ml 96 by decide +kernel) (Nat.le_of_ble_eq_true rfl) (by omega) (Nat.zero_le _) (Nat.zero_le _) ?_
        have kb := nb9.2.2 (tx_kne (f := M 2) (by omega))
        refine hC (hok6.mpr j62) _ _ _ _ _ _ _ _ (by have := hd9.2 (hok6.mpr j62); omega) g63 (by omega) hok (fun u64 C65 k66 j67 => ?_) (fun u64 C65 k66 j67 => ?_)
        · show gm_Wp X LX d _ _ 97 68 _ [gm_vi 1] n K R _ Q
          have j67 : (A2 (tx_n (M 2) e b)).1 = true := j67
          have g68 : 0 ≤ (A2 (tx_n (M 2) e b)).2 ∧ (A2 (tx_n (M 2) e b)).2 ≤ e := by have := iC (tx_n (M 2) e b) g63.1 g63.2; have := g63.1; omega
          refine fw_iffd (cc := .eq) (pc := 68) (off := 19) (by decide +kernel) (by decide) ⟨by decide, by decide⟩ (by decide) ?_
          refine gm_sz (gm_p_load (pc := 71) (i := .aload_n 0) (sr := 2) (j := 0) (by decide +kernel) rfl rfl rfl) ?_
          refine gm_sz (fw_gr (pc := 72) (ix := 47) (ci := 9) (j := 0) (r := 216) (by decide +kernel) (tE215c hE) (by decide +kernel) (by decide +kernel) (tEr hE).2.1) ?_
          refine gm_sz (gm_p_const (pc := 75) (i := .bipush 41) (v := gm_vi 41) (by decide +kernel) (by decide +kernel)) ?_
          refine gm_c_virt (k := 216) (ci := 8) (mj := 98) (ix := 105) (pc := 77) (as := [gm_vi 41]) (st := []) (d' := d - 1) (bc' := 0) (bs' := 0) (by decide +kernel) (by decide +kernel) (by decide +kernel) (by decide +kernel) (tE216c hE).1 (tE216c hE).2 (by decide) (by decide +kernel) (show 1 = gm_na 98 by decide +kernel) (fw_c1 fw_si) (show 2 ≤ gm_ml 98 by decide +kernel) (Nat.le_of_ble_eq_true rfl) (by omega) (Nat.zero_le _) (Nat.zero_le _) ?_
          refine tx_c98 (by omega) hE ⟨by decide, by decide⟩ g68 (fun j69 => ?_) (fun j69 => ?_)
          · show gm_Wp X LX d _ _ 97 80 _ [gm_vi 1] n K R _ Q
            have j69 : tx_k (M 2) e ((A2 (tx_n (M 2) e b)).2) = 41 := j69
            have g70 : 0 ≤ tx_n (M 2) e ((A2 (tx_n (M 2) e b)).2) ∧ tx_n (M 2) e ((A2 (tx_n (M 2) e b)).2) ≤ e := by have := tx_nb (f := M 2) (b := (A2 (tx_n (M 2) e b)).2) g68.2; omega
            refine fw_iffd (cc := .eq) (pc := 80) (off := 7) (by decide +kernel) (by decide) ⟨by decide, by decide⟩ (by decide) ?_
            refine gm_sz (gm_p_const (pc := 83) (i := .iconst 1) (v := gm_vi 1) (by decide +kernel) (by decide +kernel)) ?_
            refine gm_sz (gm_p_goto (pc := 84) (off := 4) (by decide +kernel) (by decide)) ?_
            refine gm_sz (gm_p_stor (pc := 88) (i := .istore_n 3) (sr := 0) (j := 3) (by decide +kernel) rfl (show 4 ≤ _ from Nat.le_of_ble_eq_true rfl) rfl) ?_
            refine gm_sz (gm_p_load (pc := 89) (i := .iload_n 3) (sr := 0) (j := 3) (by decide +kernel) rfl rfl rfl) ?_
            refine fw_iffd (cc := .eq) (pc := 90) (off := 13) (by decide +kernel) (by decide) ⟨by decide, by decide⟩ (by decide) ?_
            refine gm_sz (gm_p_load (pc := 93) (i := .iload_n 2) (sr := 0) (j := 2) (by decide +kernel) rfl rfl rfl) ?_
            refine fw_iftd (cc := .eq) (pc := 94) (off := 9) (by decide +kernel) (by decide) ⟨by decide, by decide⟩ (by decide) ?_
            refine gm_sz (gm_p_load (pc := 103) (i := .iload_n 3) (sr := 0) (j := 3) (by decide +kernel) rfl rfl rfl) ?_
            rw [g_a3 j1 (by omega) (hok6.mpr j62) j67 j69] at h1
            rw [s_a3 j1 (by omega)] at h1
            exact gm_r_int (pc := 104) (by decide +kernel) (Or.inr ⟨(by decide +kernel), Or.inr rfl⟩) (h1 _ _ k66 rfl)
          · show gm_Wp X LX d _ _ 97 80 _ [gm_vi 0] n K R _ Q
            have j69 : ¬ tx_k (M 2) e ((A2 (tx_n (M 2) e b)).2) = 41 := j69
            refine fw_iftd (cc := .eq) (pc := 80) (off := 7) (by decide +kernel) (by decide) ⟨by decide, by decide⟩ (by decide) ?_
            refine gm_sz (gm_p_const (pc := 87) (i := .iconst 0) (v := gm_vi 0) (by decide +kernel) (by decide +kernel)) ?_
            refine gm_sz (gm_p_stor (pc := 88) (i := .istore_n 3) (sr := 0) (j := 3) (by decide +kernel) rfl (show 4 ≤ _ from Nat.le_of_ble_eq_true rfl) rfl) ?_
            refine gm_sz (gm_p_load (pc := 89) (i := .iload_n 3) (sr := 0) (j := 3) (by decide +kernel) rfl rfl rfl) ?_
            refine fw_iftd (cc := .eq) (pc := 90) (off := 13) (by decide +kernel) (by decide) ⟨by decide, by decide⟩ (by decide) ?_
            refine gm_sz (gm_p_load (pc := 103) (i := .iload_n 3) (sr := 0) (j := 3) (by decide +kernel) rfl rfl rfl) ?_
            rw [g_a4 j1 (by omega) (hok6.mpr j62) j67 j69] at h0
            exact gm_r_int (pc := 104) (by decide +kernel) (Or.inr ⟨(by decide +kernel), Or.inl rfl⟩) (h0 _ _ k66.2.1 (fun h => by cases h))
        · show gm_Wp X LX d _ _ 97 68 _ [gm_vi 0] n K R _ Q
          have j67 : ¬ (A2 (tx_n (M 2) e b)).1 = true := j67
          have g68 : 0 ≤ (A2 (tx_n (M 2) e b)).2 ∧ (A2 (tx_n (M 2) e b)).2 ≤ e := by have := iC (tx_n (M 2) e b) g63.1 g63.2; have := g63.1; omega
          refine fw_iftd (cc := .eq) (pc := 68) (off := 19) (by decide +kernel) (by decide) ⟨by decide, by decide⟩ (by decide) ?_
          refine gm_sz (gm_p_const (pc := 87) (i := .iconst 0) (v := gm_vi 0) (by decide +kernel) (by decide +kernel)) ?_
          refine gm_sz (gm_p_stor (pc := 88) (i := .istore_n 3) (sr := 0) (j := 3) (by decide +kernel) rfl (show 4 ≤ _ from Nat.le_of_ble_eq_true rfl) rfl) ?_
          refine gm_sz (gm_p_load (pc := 89) (i := .iload_n 3) (sr := 0) (j := 3) (by decide +kernel) rfl rfl rfl) ?_
          refine fw_iftd (cc := .eq) (pc := 90) (off := 13) (by decide +kernel) (by decide) ⟨by decide, by decide⟩ (by decide) ?_
          refine gm_sz (gm_p_load (pc := 103) (i := .iload_n 3) (sr := 0) (j := 3) (by decide +kernel) rfl rfl rfl) ?_
          rw [g_a2 j1 (by omega) (hok6.mpr j62) j67] at h0
          exact gm_r_int (pc := 104) (by decide +kernel) (Or.inr ⟨(by decide +kernel), Or.inl rfl⟩) (h0 _ _ k66 j67)
      · have j62 : ¬ dep < 6 := j62
        refine gm_sz (gm_p_load (pc := 32) (i := .aload_n 0) (sr := 2) (j := 0) (by decide +kernel) rfl rfl rfl) ?_
        refine gm_sz (fw_gr (pc := 33) (ix := 47) (ci := 9) (j := 0) (r := 216) (by decide +kernel) (tE215c hE) (by decide +kernel) (by decide +kernel) (tEr hE).2.1) ?_
        refine gm_c_virt (k := 216) (ci := 8) (mj := 93) (ix := 51) (pc := 36) (as := []) (st := []) (d' := d - 1) (bc' := 0) (bs' := 0) (by decide +kernel) (by decide +kernel) (by decide +kernel) (by decide +kernel) (tE216c hE).1 (tE216c hE).2 (by decide) (by decide +kernel) (show 0 = gm_na 93 by decide +kernel) fw_c0 (show 1 ≤ gm_ml 93 by decide +kernel) (Nat.le_of_ble_eq_true rfl) (by omega) (Nat.zero_le _) (Nat.zero_le _) ?_
        refine tx_c93 hE hb ?_
        show gm_Wp X LX d _ _ 97 39 _ [gm_vi 0] n K R _ Q
        rw [g_a0 (Or.inr (by omega)) (fun h => j62 (hok6.mp h))] at h0
        exact gm_r_int (pc := 39) (by decide +kernel) (Or.inr ⟨(by decide +kernel), Or.inl rfl⟩) (h0 _ _ hok.2.1 (fun h => by cases h))

theorem kx_s96 {A : Int → Bool × Int} {SA : Int → List lst} {BA : Nat} {dep j : Int} {dA : Nat} (hE : tx_E n K R M e) (hA : cA2 X LX n K R M e lc D 97 [gm_vr 215, gm_vi dep] A (fun b => scds (SA b)) dA) (oA : s_ok e A SA BA) (iA : g_in e A) (hd : 7 ≤ d ∧ dA + 1 ≤ d) : ∀ (t : Nat) (i b us : Int) (C : Int → Int) (Lc : List Int), i + t = 400 → 0 ≤ i → 0 ≤ b ∧ b ≤ e → us + (if i ≤ 0 then 2 else 4) ≤ b → ctl Lc us lc D C → (∀ us2 C2 i2, ctl (Lc ++ scds (s_all (M 2) e A SA t (decide (i ≤ 0)) b)) us2 lc D C2 → (g_all (M 2) e A t b).1 = true → gm_Wp X LX d bc bs 96 59 [some (gm_vr 215), some (gm_vi dep), some (gm_vi j), some (gm_vi i2)] [] n K R (ct M e (g_all (M 2) e A t b).2 (-1) us2 lc D C2) Q) → (∀ us2 C2, ctk us2 lc D C2 → ¬ (g_all (M 2) e A t b).1 = true → Q (.inl (some (gm_vi 0))) n K R (ct M e (g_all (M 2) e A t b).2 (g_all (M 2) e A t b).2 us2 lc D C2)) → gm_Wp X LX d bc bs 96 11 [some (gm_vr 215), some (gm_vi dep), some (gm_vi j), some (gm_vi i)] [] n K R (ct M e b (-1) us lc D C) Q := by
  obtain ⟨-, he0, he4⟩ := tEe hE
  intro t
  induction t with
  | zero =>
    intro i b us C Lc hit hi0 hb hu hok h1 h0
    refine gm_sz (gm_p_load (pc := 11) (i := .iload_n 3) (sr := 0) (j := 3) (by decide +kernel) rfl rfl rfl) ?_
    refine gm_sz (gm_p_const (pc := 12) (i := .sipush 400) (v := gm_vi 400) (by decide +kernel) (by decide +kernel)) ?_
    refine fw_ict (cc := .ge) (pc := 15) (off := 44) (by decide +kernel) (by decide) ⟨by omega, by omega⟩ ⟨by decide, by decide⟩ (show 400 ≤ i by omega) ?_
    exact h1 us C i (by show ctl (Lc ++ []) us lc D C; rw [List.append_nil]; exact hok) rfl
  | succ t ih =>
    intro i b us C Lc hit hi0 hb hu hok h1 h0
    refine gm_sz (gm_p_load (pc := 11) (i := .iload_n 3) (sr := 0) (j := 3) (by decide +kernel) rfl rfl rfl) ?_
    refine gm_sz (gm_p_const (pc := 12) (i := .sipush 400) (v := gm_vi 400) (by decide +kernel) (by decide +kernel)) ?_
    refine fw_icf (cc := .ge) (pc := 15) (off := 44) (by decide +kernel) (by decide) ⟨by omega, by omega⟩ ⟨by decide, by decide⟩ (show ¬ 400 ≤ i by omega) ?_
    refine gm_sz (gm_p_load (pc := 18) (i := .aload_n 0) (sr := 2) (j := 0) (by decide +kernel) rfl rfl rfl) ?_
    refine gm_sz (gm_p_load (pc := 19) (i := .iload_n 1) (sr := 0) (j := 1) (by decide +kernel) rfl rfl rfl) ?_
    refine gm_c_virt (k := 215) (ci := 9) (mj := 97) (ix := 91) (pc := 20) (as := [gm_vi dep]) (st := []) (d' := d - 1) (bc' := 0) (bs' := 0) (by decide +kernel) (by decide +kernel) (by decide +kernel) (by decide +kernel) (tE215c hE).1 (tE215c hE).2 (by decide) (by decide +kernel) (show 1 = gm_na 97 by decide +kernel) (fw_c1 fw_si) (show 2 ≤ gm_ml 97 by decide +kernel) (Nat.le_of_ble_eq_true rfl) (by omega) (Nat.zero_le _) (Nat.zero_le _) ?_
    have hu2 : us + 2 ≤ b := by split at hu <;> omega
    refine hA _ _ _ _ _ _ _ _ (by omega) hb hu2 hok (fun u1 C2 k3 j4 => ?_) (fun u1 C2 k3 j4 => ?_)
    · show gm_Wp X LX d _ _ 96 23 _ [gm_vi 1] n K R _ Q
      have j4 : (A b).1 = true := j4
      have g5 : 0 ≤ (A b).2 ∧ (A b).2 ≤ e := by have := iA b hb.1 hb.2; have := hb.1; omega
      have z3 := klen k3 hok
      have z3 : u1 = us + ((scds (SA b)).length : Int) := z3
      have o3 := (oA b hb.1 hb.2 j4).1
      refine fw_iftd (cc := .ne) (pc := 23) (off := 5) (by decide +kernel) (by decide) ⟨by decide, by decide⟩ (by decide) ?_
      refine gm_sz (gm_p_load (pc := 28) (i := .iload_n 3) (sr := 0) (j := 3) (by decide +kernel) rfl rfl rfl) ?_
      refine fw_if (cc := .le) (pc := 29) (off := 9) (by decide +kernel) (by decide) ⟨by omega, by omega⟩ (fun j6 => ?_) (fun j6 => ?_)
      · have j6 : i ≤ 0 := j6
        refine gm_sz (gm_p_load (pc := 38) (i := .aload_n 0) (sr := 2) (j := 0) (by decide +kernel) rfl rfl rfl) ?_
        refine gm_sz (fw_gr (pc := 39) (ix := 47) (ci := 9) (j := 0) (r := 216) (by decide +kernel) (tE215c hE) (by decide +kernel) (by decide +kernel) (tEr hE).2.1) ?_
        refine gm_sz (gm_p_ldcs (pc := 42) (i := .ldc 96) (ix := 96) (id := 15) (by decide +kernel) (Or.inl rfl) (by decide +kernel)) ?_
        refine gm_c_virt (k := 216) (ci := 8) (mj := 95) (ix := 67) (pc := 44) (as := [gm_vo 15]) (st := []) (d' := d - 1) (bc' := 0) (bs' := 0) (by decide +kernel) (by decide +kernel) (by decide +kernel) (by decide +kernel) (tE216c hE).1 (tE216c hE).2 (by decide) (by decide +kernel) (show 1 = gm_na 95 by decide +kernel) (fw_c1 fw_so) (show 2 ≤ gm_ml 95 by decide +kernel) (Nat.le_of_ble_eq_true rfl) (by omega) (Nat.zero_le _) (Nat.zero_le _) ?_
        refine tx_c95 (by omega) hE (by decide) (show tx_o 15 = wo_and by decide +kernel) g5 (fun j7 => ?_) (fun j7 => ?_)
        · show gm_Wp X LX d _ _ 96 47 _ [gm_vi 1] n K R _ Q
          have j7 : tx_is (M 2) e ((A b).2) wo_and := j7
          have g8 : 0 ≤ tx_n (M 2) e ((A b).2) ∧ tx_n (M 2) e ((A b).2) ≤ e := by have := tx_nb (f := M 2) (b := (A b).2) g5.2; omega
          refine fw_iftd (cc := .ne) (pc := 47) (off := 6) (by decide +kernel) (by decide) ⟨by decide, by decide⟩ (by decide) ?_
          refine gm_sz (gm_p_iinc (pc := 53) (j := 3) (z := 1) (by decide +kernel) rfl) ?_
          refine gm_sz (gm_p_goto (pc := 56) (off := (-45)) (by decide +kernel) (by decide)) ?_
          rw [g_l2 j4 j7] at h1 h0
          have nw := tx_nw g5.2 j7
          have nw : (A b).2 + 3 ≤ tx_n (M 2) e (A b).2 := nw
          rw [s_l2 j7, if_pos (decide_eq_true j6), List.nil_append, scds_app, ← List.append_assoc] at h1
          rw [if_pos j6] at hu
          rw [show s_all (M 2) e A SA t false = s_all (M 2) e A SA t (decide (i + 1 ≤ 0)) by rw [decide_eq_false (show ¬ i + 1 ≤ 0 by omega)]] at h1
          exact ih (i + 1) _ _ _ _ (by omega) (by omega) g8 (by rw [if_neg (by omega)]; omega) k3 h1 h0
        · show gm_Wp X LX d _ _ 96 47 _ [gm_vi 0] n K R _ Q
          have j7 : ¬ tx_is (M 2) e ((A b).2) wo_and := j7
          refine fw_iffd (cc := .ne) (pc := 47) (off := 6) (by decide +kernel) (by decide) ⟨by decide, by decide⟩ (by decide) ?_
          refine gm_sz (gm_p_goto (pc := 50) (off := 9) (by decide +kernel) (by decide)) ?_
          rw [g_l1 j4 j7] at h1
          rw [s_l1 j7, if_pos (decide_eq_true j6), List.append_nil] at h1
          exact h1 _ _ _ k3 rfl
      · have j6 : ¬ i ≤ 0 := j6
        refine gm_sz (gm_p_load (pc := 32) (i := .aload_n 0) (sr := 2) (j := 0) (by decide +kernel) rfl rfl rfl) ?_
        refine gm_sz (gm_p_const (pc := 33) (i := .bipush (-16)) (v := gm_vi (-16)) (by decide +kernel) (by decide +kernel)) ?_
        refine gm_c_virt (k := 215) (ci := 9) (mj := 99) (ix := 94) (pc := 35) (as := [gm_vi (-16)]) (st := []) (d' := d - 1) (bc' := 0) (bs' := 0) (by decide +kernel) (by decide +kernel) (by decide +kernel) (by decide +kernel) (tE215c hE).1 (tE215c hE).2 (by decide) (by decide +kernel) (show 1 = gm_na 99 by decide +kernel) (fw_c1 fw_si) (show 2 ≤ gm_ml 99 by decide +kernel) (Nat.le_of_ble_eq_true rfl) (by omega) (Nat.zero_le _) (Nat.zero_le _) ?_
        rw [if_neg j6] at hu
        refine kx_c99 hE k3 (by omega) ⟨by decide, by decide⟩ (fun C10 k11 => ?_)
        show gm_Wp X LX d _ _ 96 38 _ [] n K R _ Q
        refine gm_sz (gm_p_load (pc := 38) (i := .aload_n 0) (sr := 2) (j := 0) (by decide +kernel) rfl rfl rfl) ?_
        refine gm_sz (fw_gr (pc := 39) (ix := 47) (ci := 9) (j := 0) (r := 216) (by decide +kernel) (tE215c hE) (by decide +kernel) (by decide +kernel) (tEr hE).2.1) ?_
        refine gm_sz (gm_p_ldcs (pc := 42) (i := .ldc 96) (ix := 96) (id := 15) (by decide +kernel) (Or.inl rfl) (by decide +kernel)) ?_
        refine gm_c_virt (k := 216) (ci := 8) (mj := 95) (ix := 67) (pc := 44) (as := [gm_vo 15]) (st := []) (d' := d - 1) (bc' := 0) (bs' := 0) (by decide +kernel) (by decide +kernel) (by decide +kernel) (by decide +kernel) (tE216c hE).1 (tE216c hE).2 (by decide) (by decide +kernel) (show 1 = gm_na 95 by decide +kernel) (fw_c1 fw_so) (show 2 ≤ gm_ml 95 by decide +kernel) (Nat.le_of_ble_eq_true rfl) (by omega) (Nat.zero_le _) (Nat.zero_le _) ?_
        refine tx_c95 (by omega) hE (by decide) (show tx_o 15 = wo_and by decide +kernel) g5 (fun j12 => ?_) (fun j12 => ?_)
        · show gm_Wp X LX d _ _ 96 47 _ [gm_vi 1] n K R _ Q
          have j12 : tx_is (M 2) e ((A b).2) wo_and := j12
          have g13 : 0 ≤ tx_n (M 2) e ((A b).2) ∧ tx_n (M 2) e ((A b).2) ≤ e := by have := tx_nb (f := M 2) (b := (A b).2) g5.2; omega
          refine fw_iftd (cc := .ne) (pc := 47) (off := 6) (by decide +kernel) (by decide) ⟨by decide, by decide⟩ (by decide) ?_
          refine gm_sz (gm_p_iinc (pc := 53) (j := 3) (z := 1) (by decide +kernel) rfl) ?_
          refine gm_sz (gm_p_goto (pc := 56) (off := (-45)) (by decide +kernel) (by decide)) ?_
          rw [g_l2 j4 j12] at h1 h0
          have nw := tx_nw g5.2 j12
          have nw : (A b).2 + 3 ≤ tx_n (M 2) e (A b).2 := nw
          rw [s_l2 j12, if_neg (show ¬ decide (i ≤ 0) = true from fun hh => j6 (of_decide_eq_true hh)), scds_app, scds_app, scds_1 (Or.inr (Or.inl rfl)), ← List.append_assoc, ← List.append_assoc] at h1
          rw [show s_all (M 2) e A SA t false = s_all (M 2) e A SA t (decide (i + 1 ≤ 0)) by rw [decide_eq_false (show ¬ i + 1 ≤ 0 by omega)]] at h1
          exact ih (i + 1) _ _ _ _ (by omega) (by omega) g13 (by rw [if_neg (by omega)]; omega) k11 h1 h0
        · show gm_Wp X LX d _ _ 96 47 _ [gm_vi 0] n K R _ Q
          have j12 : ¬ tx_is (M 2) e ((A b).2) wo_and := j12
          refine fw_iffd (cc := .ne) (pc := 47) (off := 6) (by decide +kernel) (by decide) ⟨by decide, by decide⟩ (by decide) ?_
          refine gm_sz (gm_p_goto (pc := 50) (off := 9) (by decide +kernel) (by decide)) ?_
          rw [g_l1 j4 j12] at h1
          rw [s_l1 j12, if_neg (show ¬ decide (i ≤ 0) = true from fun hh => j6 (of_decide_eq_true hh)), scds_app, scds_1 (Or.inr (Or.inl rfl)), ← List.append_assoc] at h1
          exact h1 _ _ _ k11 rfl
    · show gm_Wp X LX d _ _ 96 23 _ [gm_vi 0] n K R _ Q
      have j4 : ¬ (A b).1 = true := j4
      have g5 : 0 ≤ (A b).2 ∧ (A b).2 ≤ e := by have := iA b hb.1 hb.2; have := hb.1; omega
      refine fw_iffd (cc := .ne) (pc := 23) (off := 5) (by decide +kernel) (by decide) ⟨by decide, by decide⟩ (by decide) ?_
      refine gm_sz (gm_p_const (pc := 26) (i := .iconst 0) (v := gm_vi 0) (by decide +kernel) (by decide +kernel)) ?_
      rw [g_l0 j4] at h0
      exact gm_r_int (pc := 27) (by decide +kernel) (Or.inr ⟨(by decide +kernel), Or.inl rfl⟩) (h0 _ _ k3 j4)

theorem kx_t96 {A : Int → Bool × Int} {SA : Int → List lst} {BA : Nat} {dep : Int} {dA : Nat} (hE : tx_E n K R M e) (hA : cA2 X LX n K R M e lc D 97 [gm_vr 215, gm_vi dep] A (fun b => scds (SA b)) dA) (oA : s_ok e A SA BA) (iA : g_in e A) (hd : 7 ≤ d ∧ dA + 1 ≤ d) : ∀ (t : Nat) (j b us : Int) (C : Int → Int) (Lc : List Int) (z : Option gm_V), j + t = 400 → 0 ≤ j → 0 ≤ b ∧ b ≤ e → us + (if j ≤ 0 then 2 else 3) ≤ b → ctl Lc us lc D C → (∀ us2 C2, ctl (Lc ++ scds (s_cnd (M 2) e A SA t (decide (j ≤ 0)) b)) us2 lc D C2 → (g_cnd (M 2) e A t b).1 = true → Q (.inl (some (gm_vi 1))) n K R (ct M e (g_cnd (M 2) e A t b).2 (-1) us2 lc D C2)) → (∀ us2 C2, ctk us2 lc D C2 → ¬ (g_cnd (M 2) e A t b).1 = true → Q (.inl (some (gm_vi 0))) n K R (ct M e (g_cnd (M 2) e A t b).2 (g_cnd (M 2) e A t b).2 us2 lc D C2)) → gm_Wp X LX d bc bs 96 2 [some (gm_vr 215), some (gm_vi dep), some (gm_vi j), z] [] n K R (ct M e b (-1) us lc D C) Q := by
  obtain ⟨-, he0, he4⟩ := tEe hE
  intro t
  induction t with
  | zero =>
    intro j b us C Lc z hjt hj0 hb hu hok h1 h0
    refine gm_sz (gm_p_load (pc := 2) (i := .iload_n 2) (sr := 0) (j := 2) (by decide +kernel) rfl rfl rfl) ?_
    refine gm_sz (gm_p_const (pc := 3) (i := .sipush 400) (v := gm_vi 400) (by decide +kernel) (by decide +kernel)) ?_
    refine fw_ict (cc := .ge) (pc := 6) (off := 83) (by decide +kernel) (by decide) ⟨by omega, by omega⟩ ⟨by decide, by decide⟩ (show 400 ≤ j by omega) ?_
    refine gm_sz (gm_p_load (pc := 89) (i := .aload_n 0) (sr := 2) (j := 0) (by decide +kernel) rfl rfl rfl) ?_
    refine gm_sz (fw_gr (pc := 90) (ix := 47) (ci := 9) (j := 0) (r := 216) (by decide +kernel) (tE215c hE) (by decide +kernel) (by decide +kernel) (tEr hE).2.1) ?_
    refine gm_c_virt (k := 216) (ci := 8) (mj := 93) (ix := 51) (pc := 93) (as := []) (st := []) (d' := d - 1) (bc' := 0) (bs' := 0) (by decide +kernel) (by decide +kernel) (by decide +kernel) (by decide +kernel) (tE216c hE).1 (tE216c hE).2 (by decide) (by decide +kernel) (show 0 = gm_na 93 by decide +kernel) fw_c0 (show 1 ≤ gm_ml 93 by decide +kernel) (Nat.le_of_ble_eq_true rfl) (by omega) (Nat.zero_le _) (Nat.zero_le _) ?_
    refine tx_c93 hE hb ?_
    show gm_Wp X LX d _ _ 96 96 _ [gm_vi 0] n K R _ Q
    exact gm_r_int (pc := 96) (by decide +kernel) (Or.inr ⟨(by decide +kernel), Or.inl rfl⟩) (h0 us C hok.2.1 (fun h => by cases h))
  | succ t ih =>
    intro j b us C Lc z hjt hj0 hb hu hok h1 h0
    refine gm_sz (gm_p_load (pc := 2) (i := .iload_n 2) (sr := 0) (j := 2) (by decide +kernel) rfl rfl rfl) ?_
    refine gm_sz (gm_p_const (pc := 3) (i := .sipush 400) (v := gm_vi 400) (by decide +kernel) (by decide +kernel)) ?_
    refine fw_icf (cc := .ge) (pc := 6) (off := 83) (by decide +kernel) (by decide) ⟨by omega, by omega⟩ ⟨by decide, by decide⟩ (show ¬ 400 ≤ j by omega) ?_
    refine gm_sz (gm_p_const (pc := 9) (i := .iconst 0) (v := gm_vi 0) (by decide +kernel) (by decide +kernel)) ?_
    refine gm_sz (gm_p_stor (pc := 10) (i := .istore_n 3) (sr := 0) (j := 3) (by decide +kernel) rfl (show 4 ≤ _ from Nat.le_of_ble_eq_true rfl) rfl) ?_
    have hu2 : us + 2 ≤ b := by split at hu <;> omega
    refine kx_s96 hE hA oA iA hd 400 0 b us C Lc (by omega) (Int.le_refl _) hb (by rw [if_pos (Int.le_refl 0)]; exact hu2) hok (fun us2 C2 i2 hok2 hl => ?_) (fun us2 C2 hok2 hl => ?_)
    · have hb2 : 0 ≤ (g_all (M 2) e A 400 b).2 ∧ (g_all (M 2) e A 400 b).2 ≤ e := by have := g_all_in (f := M 2) iA 400 b hb.1 hb.2; have := hb.1; omega
      have hok2 : ctl (Lc ++ scds (s_all (M 2) e A SA 400 true b)) us2 lc D C2 := hok2
      have z3 := klen hok2 hok
      have o3 := (s_all_ok (f := M 2) iA oA b hb.1 hb.2 hl).1
      refine gm_sz (gm_p_load (pc := 59) (i := .iload_n 2) (sr := 0) (j := 2) (by decide +kernel) rfl rfl rfl) ?_
      refine fw_if (cc := .le) (pc := 60) (off := 9) (by decide +kernel) (by decide) ⟨by omega, by omega⟩ (fun j1 => ?_) (fun j1 => ?_)
      · have j1 : j ≤ 0 := j1
        refine gm_sz (gm_p_load (pc := 69) (i := .aload_n 0) (sr := 2) (j := 0) (by decide +kernel) rfl rfl rfl) ?_
        refine gm_sz (fw_gr (pc := 70) (ix := 47) (ci := 9) (j := 0) (r := 216) (by decide +kernel) (tE215c hE) (by decide +kernel) (by decide +kernel) (tEr hE).2.1) ?_
        refine gm_sz (gm_p_ldcs (pc := 73) (i := .ldc 98) (ix := 98) (id := 16) (by decide +kernel) (Or.inl rfl) (by decide +kernel)) ?_
        refine gm_c_virt (k := 216) (ci := 8) (mj := 95) (ix := 67) (pc := 75) (as := [gm_vo 16]) (st := []) (d' := d - 1) (bc' := 0) (bs' := 0) (by decide +kernel) (by decide +kernel) (by decide +kernel) (by decide +kernel) (tE216c hE).1 (tE216c hE).2 (by decide) (by decide +kernel) (show 1 = gm_na 95 by decide +kernel) (fw_c1 fw_so) (show 2 ≤ gm_ml 95 by decide +kernel) (Nat.le_of_ble_eq_true rfl) (by omega) (Nat.zero_le _) (Nat.zero_le _) ?_
        refine tx_c95 (by omega) hE (by decide) (show tx_o 16 = wo_or by decide +kernel) hb2 (fun j2 => ?_) (fun j2 => ?_)
        · show gm_Wp X LX d _ _ 96 78 _ [gm_vi 1] n K R _ Q
          have j2 : tx_is (M 2) e ((g_all (M 2) e A 400 b).2) wo_or := j2
          have g3 : 0 ≤ tx_n (M 2) e ((g_all (M 2) e A 400 b).2) ∧ tx_n (M 2) e ((g_all (M 2) e A 400 b).2) ≤ e := by have := tx_nb (f := M 2) (b := (g_all (M 2) e A 400 b).2) hb2.2; omega
          refine fw_iftd (cc := .ne) (pc := 78) (off := 5) (by decide +kernel) (by decide) ⟨by decide, by decide⟩ (by decide) ?_
          refine gm_sz (gm_p_iinc (pc := 83) (j := 2) (z := 1) (by decide +kernel) rfl) ?_
          refine gm_sz (gm_p_goto (pc := 86) (off := (-84)) (by decide +kernel) (by decide)) ?_
          rw [g_d2 hl j2] at h1 h0
          have nw := tx_nw hb2.2 j2
          have nw : (g_all (M 2) e A 400 b).2 + 2 ≤ tx_n (M 2) e (g_all (M 2) e A 400 b).2 := nw
          rw [s_d2 j2, if_pos (decide_eq_true j1), List.nil_append, scds_app, ← List.append_assoc] at h1
          rw [if_pos j1] at hu
          rw [show s_cnd (M 2) e A SA t false = s_cnd (M 2) e A SA t (decide (j + 1 ≤ 0)) by rw [decide_eq_false (show ¬ j + 1 ≤ 0 by omega)]] at h1
          exact ih (j + 1) _ _ _ _ _ (by omega) (by omega) g3 (by rw [if_neg (by omega)]; omega) hok2 h1 h0
        · show gm_Wp X LX d _ _ 96 78 _ [gm_vi 0] n K R _ Q
          have j2 : ¬ tx_is (M 2) e ((g_all (M 2) e A 400 b).2) wo_or := j2
          refine fw_iffd (cc := .ne) (pc := 78) (off := 5) (by decide +kernel) (by decide) ⟨by decide, by decide⟩ (by decide) ?_
          refine gm_sz (gm_p_const (pc := 81) (i := .iconst 1) (v := gm_vi 1) (by decide +kernel) (by decide +kernel)) ?_
          rw [g_d1 hl j2] at h1
          rw [s_d1 j2, if_pos (decide_eq_true j1), List.append_nil] at h1
          exact gm_r_int (pc := 82) (by decide +kernel) (Or.inr ⟨(by decide +kernel), Or.inr rfl⟩) (h1 _ _ hok2 rfl)
      · have j1 : ¬ j ≤ 0 := j1
        refine gm_sz (gm_p_load (pc := 63) (i := .aload_n 0) (sr := 2) (j := 0) (by decide +kernel) rfl rfl rfl) ?_
        refine gm_sz (gm_p_const (pc := 64) (i := .bipush (-17)) (v := gm_vi (-17)) (by decide +kernel) (by decide +kernel)) ?_
        refine gm_c_virt (k := 215) (ci := 9) (mj := 99) (ix := 94) (pc := 66) (as := [gm_vi (-17)]) (st := []) (d' := d - 1) (bc' := 0) (bs' := 0) (by decide +kernel) (by decide +kernel) (by decide +kernel) (by decide +kernel) (tE215c hE).1 (tE215c hE).2 (by decide) (by decide +kernel) (show 1 = gm_na 99 by decide +kernel) (fw_c1 fw_si) (show 2 ≤ gm_ml 99 by decide +kernel) (Nat.le_of_ble_eq_true rfl) (by omega) (Nat.zero_le _) (Nat.zero_le _) ?_
        rw [if_neg j1] at hu
        refine kx_c99 hE hok2 (by omega) ⟨by decide, by decide⟩ (fun C5 k6 => ?_)
        show gm_Wp X LX d _ _ 96 69 _ [] n K R _ Q
        refine gm_sz (gm_p_load (pc := 69) (i := .aload_n 0) (sr := 2) (j := 0) (by decide +kernel) rfl rfl rfl) ?_
        refine gm_sz (fw_gr (pc := 70) (ix := 47) (ci := 9) (j := 0) (r := 216) (by decide +kernel) (tE215c hE) (by decide +kernel) (by decide +kernel) (tEr hE).2.1) ?_
        refine gm_sz (gm_p_ldcs (pc := 73) (i := .ldc 98) (ix := 98) (id := 16) (by decide +kernel) (Or.inl rfl) (by decide +kernel)) ?_
        refine gm_c_virt (k := 216) (ci := 8) (mj := 95) (ix := 67) (pc := 75) (as := [gm_vo 16]) (st := []) (d' := d - 1) (bc' := 0) (bs' := 0) (by decide +kernel) (by decide +kernel) (by decide +kernel) (by decide +kernel) (tE216c hE).1 (tE216c hE).2 (by decide) (by decide +kernel) (show 1 = gm_na 95 by decide +kernel) (fw_c1 fw_so) (show 2 ≤ gm_ml 95 by decide +kernel) (Nat.le_of_ble_eq_true rfl) (by omega) (Nat.zero_le _) (Nat.zero_le _) ?_
        refine tx_c95 (by omega) hE (by decide) (show tx_o 16 = wo_or by decide +kernel) hb2 (fun j7 => ?_) (fun j7 => ?_)
        · show gm_Wp X LX d _ _ 96 78 _ [gm_vi 1] n K R _ Q
          have j7 : tx_is (M 2) e ((g_all (M 2) e A 400 b).2) wo_or := j7
          have g8 : 0 ≤ tx_n (M 2) e ((g_all (M 2) e A 400 b).2) ∧ tx_n (M 2) e ((g_all (M 2) e A 400 b).2) ≤ e := by have := tx_nb (f := M 2) (b := (g_all (M 2) e A 400 b).2) hb2.2; omega
          refine fw_iftd (cc := .ne) (pc := 78) (off := 5) (by decide +kernel) (by decide) ⟨by decide, by decide⟩ (by decide) ?_
          refine gm_sz (gm_p_iinc (pc := 83) (j := 2) (z := 1) (by decide +kernel) rfl) ?_
          refine gm_sz (gm_p_goto (pc := 86) (off := (-84)) (by decide +kernel) (by decide)) ?_
          rw [g_d2 hl j7] at h1 h0
          have nw := tx_nw hb2.2 j7
          have nw : (g_all (M 2) e A 400 b).2 + 2 ≤ tx_n (M 2) e (g_all (M 2) e A 400 b).2 := nw
          rw [s_d2 j7, if_neg (show ¬ decide (j ≤ 0) = true from fun hh => j1 (of_decide_eq_true hh)), scds_app, scds_app, scds_1 (Or.inr (Or.inr (Or.inl rfl))), ← List.append_assoc, ← List.append_assoc] at h1
          rw [show s_cnd (M 2) e A SA t false = s_cnd (M 2) e A SA t (decide (j + 1 ≤ 0)) by rw [decide_eq_false (show ¬ j + 1 ≤ 0 by omega)]] at h1
          exact ih (j + 1) _ _ _ _ _ (by omega) (by omega) g8 (by rw [if_neg (by omega)]; omega) k6 h1 h0
        · show gm_Wp X LX d _ _ 96 78 _ [gm_vi 0] n K R _ Q
          have j7 : ¬ tx_is (M 2) e ((g_all (M 2) e A 400 b).2) wo_or := j7
          refine fw_iffd (cc := .ne) (pc := 78) (off := 5) (by decide +kernel) (by decide) ⟨by decide, by decide⟩ (by decide) ?_
          refine gm_sz (gm_p_const (pc := 81) (i := .iconst 1) (v := gm_vi 1) (by decide +kernel) (by decide +kernel)) ?_
          rw [g_d1 hl j7] at h1
          rw [s_d1 j7, if_neg (show ¬ decide (j ≤ 0) = true from fun hh => j1 (of_decide_eq_true hh)), scds_app, scds_1 (Or.inr (Or.inr (Or.inl rfl))), ← List.append_assoc] at h1
          exact gm_r_int (pc := 82) (by decide +kernel) (Or.inr ⟨(by decide +kernel), Or.inr rfl⟩) (h1 _ _ k6 rfl)
    · rw [g_d0 hl] at h0
      exact h0 _ _ hok2 hl

theorem kx_c96 {A : Int → Bool × Int} {SA : Int → List lst} {BA : Nat} {dep : Int} {dA dn : Nat} (hE : tx_E n K R M e) (hA : cA2 X LX n K R M e lc D 97 [gm_vr 215, gm_vi dep] A (fun b => scds (SA b)) dA) (oA : s_ok e A SA BA) (iA : g_in e A) (hd9 : 7 ≤ dn ∧ dA + 1 ≤ dn) : cA2 X LX n K R M e lc D 96 [gm_vr 215, gm_vi dep] (g_cnd (M 2) e A 400) (fun b => scds (s_cnd (M 2) e A SA 400 true b)) dn := by
  intro d bc bs b us C Lc Q hd hb hu hok h1 h0
  dsimp only at h1
  refine gm_sz (gm_p_const (pc := 0) (i := .iconst 0) (v := gm_vi 0) (by decide +kernel) (by decide +kernel)) ?_
  refine gm_sz (gm_p_stor (pc := 1) (i := .istore_n 2) (sr := 0) (j := 2) (by decide +kernel) rfl (show 3 ≤ _ from Nat.le_of_ble_eq_true rfl) rfl) ?_
  exact kx_t96 hE hA oA iA ⟨by omega, by omega⟩ 400 0 b us C Lc none rfl (Int.le_refl _) hb (by rw [if_pos (Int.le_refl 0)]; exact hu) hok h1 h0

/-- readAtom and readCondition, k deep still -/
theorem kx_at (hE : tx_E n K R M e) : ∀ k : Nat, k ≤ 6 → cA2 X LX n K R M e lc D 97 [gm_vr 215, gm_vi (6 - (k : Int))] (g_at (M 2) e k) (fun b => scds (s_at (M 2) e k b)) (9 + 2 * k) := by
  intro k
  induction k with
  | zero => exact fun _ => kx_c97 (SA := fun _ => []) (SC := fun _ => []) (BA := 0) (BC := 0) hE ⟨by decide, by decide⟩ (Iff.intro (fun h => h.elim) (fun h => by omega)) (dA := 0) (dC := 0) (fun h => h.elim) (fun h => h.elim) (fun h => h.elim) (fun h => h.elim) g_no_in g_no_in ⟨by omega, fun h => h.elim⟩
  | succ k ih =>
    intro hk
    have e1 : (6 : Int) - ((k + 1 : Nat) : Int) + 1 = 6 - (k : Int) := by omega
    refine kx_c97 (SA := s_at (M 2) e k) (SC := fun b => s_cnd (M 2) e (g_at (M 2) e k) (s_at (M 2) e k) 400 true b) (BA := 1 + 2 * k) (BC := 1 + 2 * k + 2) (dA := 9 + 2 * k) (dC := 10 + 2 * k) hE ⟨by omega, by omega⟩ (Iff.intro (fun _ => by omega) (fun _ => trivial)) (fun _ => ?_) (fun _ => ?_) (fun _ => s_at_ok k) (fun _ => s_cnd_ok (g_at_in k) (s_at_ok k)) (g_at_in k) (g_cnd_in (g_at_in k) 400) ⟨by omega, fun _ => by omega⟩
    · rw [e1]
      exact ih (by omega)
    · rw [e1]
      exact kx_c96 hE (ih (by omega)) (s_at_ok k) (g_at_in k) (by omega)
theorem kx_cd (hE : tx_E n K R M e) : cA2 X LX n K R M e lc D 96 [gm_vr 215, gm_vi 0] (g_cd (M 2) e 6) (fun b => scds (s_cd (M 2) e 6 b)) 22 := kx_c96 hE (kx_at hE 6 (by decide)) (s_at_ok 6) (g_at_in 6) (by decide)
end KL
end
