/-! WHAT A TEXT OF A LAW IS, by tokens: (true, where it ends) or (false, where it is wrong). -/
noncomputable def tif {α : Type} (P : Prop) (a b : α) : α := @ite α P (Classical.propDecidable P) a b
theorem tif_t {α : Type} {P : Prop} {a b : α} (h : P) : tif P a b = a := if_pos h
theorem tif_f {α : Type} {P : Prop} {a b : α} (h : ¬ P) : tif P a b = b := if_neg h
def wo_fast : List Int := [102, 97, 115, 116]
def wo_slow : List Int := [115, 108, 111, 119]
def wo_open : List Int := [111, 112, 101, 110]
def wo_if : List Int := [105, 102]
def wo_not : List Int := [110, 111, 116]
def wo_side : List Int := [115, 105, 100, 101]
def wo_first : List Int := [102, 105, 114, 115, 116]
def wo_and : List Int := [97, 110, 100]
def wo_or : List Int := [111, 114]
def wo_lane : List Int := [108, 97, 110, 101]
def wo_row : List Int := [114, 111, 119]
def wo_year : List Int := [121, 101, 97, 114]
def wo_heat : List Int := [104, 101, 97, 116]
def wo_speed : List Int := [115, 112, 101, 101, 100]
def wo_person : List Int := [112, 101, 114, 115, 111, 110]
def wo_age : List Int := [97, 103, 101]
def wo_deep : List Int := [100, 101, 101, 112]
section GR
variable (f : Int → Int) (e : Int)
def g_fact (b : Int) : Prop := tx_is f e b wo_lane ∨ tx_is f e b wo_row ∨ tx_is f e b wo_year ∨ tx_is f e b wo_heat ∨ tx_is f e b wo_speed ∨ tx_is f e b wo_person ∨ tx_is f e b wo_age ∨ tx_is f e b wo_deep
def g_pt (b : Int) : Prop := (tx_k f e b = 258 ∧ ¬ tx_v f e 3 b = -1) ∨ g_fact f e b
noncomputable def g_sum : Nat → Int → Bool × Int
  | 0, b => (false, b)
  | t + 1, b => tif (g_pt f e b) (tif (tx_k f e (tx_n f e b) = 43) (g_sum t (tx_n f e (tx_n f e b))) (true, tx_n f e b)) (false, b)
noncomputable def g_atm (A C : Int → Bool × Int) (ok : Prop) (b : Int) : Bool × Int :=
  tif (tx_is f e b wo_not ∨ tx_k f e b = 40)
    (tif ok (tif (tx_is f e b wo_not) (A (tx_n f e b)) (tif ((C (tx_n f e b)).1 = true) (tif (tx_k f e (C (tx_n f e b)).2 = 41) (true, tx_n f e (C (tx_n f e b)).2) (false, (C (tx_n f e b)).2)) (C (tx_n f e b)))) (false, b))
    (tif (tx_is f e b wo_side ∨ tx_is f e b wo_first) (true, tx_n f e b)
      (tif ((g_sum f e 400 b).1 = true) (tif (tx_k f e (g_sum f e 400 b).2 = 60 ∨ tx_k f e (g_sum f e 400 b).2 = 62) (g_sum f e 400 (tx_n f e (g_sum f e 400 b).2)) (false, (g_sum f e 400 b).2)) (g_sum f e 400 b)))
noncomputable def g_all (A : Int → Bool × Int) : Nat → Int → Bool × Int
  | 0, b => (true, b)
  | t + 1, b => tif ((A b).1 = true) (tif (tx_is f e (A b).2 wo_and) (g_all A t (tx_n f e (A b).2)) (true, (A b).2)) (A b)
noncomputable def g_cnd (A : Int → Bool × Int) : Nat → Int → Bool × Int
  | 0, b => (false, b)
  | t + 1, b => tif ((g_all f e A 400 b).1 = true) (tif (tx_is f e (g_all f e A 400 b).2 wo_or) (g_cnd A t (tx_n f e (g_all f e A 400 b).2)) (true, (g_all f e A 400 b).2)) (g_all f e A 400 b)
noncomputable def g_at : Nat → Int → Bool × Int
  | 0 => g_atm f e (fun b => (false, b)) (fun b => (false, b)) False
  | k + 1 => g_atm f e (g_at k) (g_cnd f e (g_at k) 400) True
noncomputable def g_cd (k : Nat) : Int → Bool × Int := g_cnd f e (g_at f e k) 400
def g_nm (b : Int) : Prop := tx_k f e b = 258 ∧ 0 ≤ tx_v f e 3 b ∧ tx_v f e 3 b ≤ 20
noncomputable def g_if (b : Int) : Bool × Int := tif (tx_is f e b wo_if) (g_cd f e 6 (tx_n f e b)) (true, b)
noncomputable def g_line (b : Int) : Bool × Int :=
  tif (tx_is f e b wo_open) (g_if f e (tx_n f e b)) (tif (tx_is f e b wo_fast ∨ tx_is f e b wo_slow) (tif (g_nm f e (tx_n f e b)) (g_if f e (tx_n f e (tx_n f e b))) (false, tx_n f e b)) (false, b))
noncomputable def g_txt : Nat → Int → Bool × Int
  | 0, b => (false, b)
  | t + 1, b => tif ((g_line f e b).1 = true) (tif (tx_k f e (g_line f e b).2 = 256) (true, 12 - (t : Int)) (tif (tx_k f e (g_line f e b).2 = 59) (g_txt t (tx_n f e (g_line f e b).2)) (false, (g_line f e b).2))) (false, (g_line f e b).2)
/-- (true, how many LINES) or (false, the wrong byte) -/
noncomputable def g_law : Bool × Int := tif (tx_k f e (tx_g f e 0) = 256) (true, 0) (g_txt f e 12 (tx_g f e 0))
/-- it ends behind where it began, in the text -/
def g_in (A : Int → Bool × Int) : Prop := ∀ b, 0 ≤ b → b ≤ e → b ≤ (A b).2 ∧ (A b).2 ≤ e ∧ ((A b).1 = true → b + 1 ≤ (A b).2)
end GR
section GI
variable {f : Int → Int} {e : Int}
theorem g_kis {b : Int} {l : List Int} (h : tx_is f e b l) : tx_k f e b = 257 := h.1
theorem g_fk {b : Int} (h : g_fact f e b) : tx_k f e b = 257 := by
  rcases h with h | h | h | h | h | h | h | h <;> exact h.1
theorem g_pk {b : Int} (h : g_pt f e b) : b < e := tx_kne (f := f) (by
  rcases h with h | h
  · omega
  · have := g_fk h
    omega)
theorem g_isb {b : Int} {l : List Int} (h : tx_is f e b l) : b < e := tx_kne (f := f) (by have := h.1; omega)
theorem g_sum_in : ∀ t, g_in e (g_sum f e t) := by
  intro t
  induction t with
  | zero => exact fun b h0 h1 => ⟨Int.le_refl _, h1, fun h => by cases h⟩
  | succ t ih =>
    intro b h0 h1
    unfold g_sum
    by_cases h : g_pt f e b
    · rw [tif_t h]
      obtain ⟨a1, a2, a3⟩ := tx_nb (f := f) h1
      have a3 := a3 (g_pk h)
      by_cases h2 : tx_k f e (tx_n f e b) = 43
      · rw [tif_t h2]
        obtain ⟨c1, c2, -⟩ := tx_nb (f := f) a2
        obtain ⟨d1, d2, d3⟩ := ih (tx_n f e (tx_n f e b)) (by omega) c2
        exact ⟨by omega, d2, fun h => by omega⟩
      · rw [tif_f h2]
        exact ⟨by show b ≤ tx_n f e b; omega, a2, fun _ => a3⟩
    · rw [tif_f h]
      exact ⟨Int.le_refl _, h1, fun h => by cases h⟩
theorem g_all_in {A : Int → Bool × Int} (hA : g_in e A) : ∀ t b, 0 ≤ b → b ≤ e → b ≤ (g_all f e A t b).2 ∧ (g_all f e A t b).2 ≤ e ∧ (1 ≤ t → (g_all f e A t b).1 = true → b + 1 ≤ (g_all f e A t b).2) := by
  intro t
  induction t with
  | zero => exact fun b h0 h1 => ⟨Int.le_refl _, h1, fun h => by omega⟩
  | succ t ih =>
    intro b h0 h1
    unfold g_all
    obtain ⟨a1, a2, a3⟩ := hA b h0 h1
    by_cases h : (A b).1 = true
    · rw [tif_t h]
      have a3 := a3 h
      by_cases h2 : tx_is f e (A b).2 wo_and
      · rw [tif_t h2]
        obtain ⟨c1, c2, -⟩ := tx_nb (f := f) a2
        obtain ⟨d1, d2, -⟩ := ih (tx_n f e (A b).2) (by omega) c2
        exact ⟨by omega, d2, fun _ _ => by omega⟩
      · rw [tif_f h2]
        exact ⟨by show b ≤ (A b).2; omega, a2, fun _ _ => a3⟩
    · rw [tif_f h]
      exact ⟨a1, a2, fun _ h2 => absurd h2 h⟩
theorem g_cnd_in {A : Int → Bool × Int} (hA : g_in e A) : ∀ t, g_in e (g_cnd f e A t) := by
  intro t
  induction t with
  | zero => exact fun b h0 h1 => ⟨Int.le_refl _, h1, fun h => by cases h⟩
  | succ t ih =>
    intro b h0 h1
    unfold g_cnd
    obtain ⟨a1, a2, a3⟩ := g_all_in (f := f) hA 400 b h0 h1
    by_cases h : (g_all f e A 400 b).1 = true
    · rw [tif_t h]
      have a3 := a3 (by decide) h
      by_cases h2 : tx_is f e (g_all f e A 400 b).2 wo_or
      · rw [tif_t h2]
        obtain ⟨c1, c2, -⟩ := tx_nb (f := f) a2
        obtain ⟨d1, d2, -⟩ := ih (tx_n f e (g_all f e A 400 b).2) (by omega) c2
        exact ⟨by omega, d2, fun _ => by omega⟩
      · rw [tif_f h2]
        exact ⟨by show b ≤ (g_all f e A 400 b).2; omega, a2, fun _ => a3⟩
    · rw [tif_f h]
      exact ⟨a1, a2, fun h2 => absurd h2 h⟩
theorem g_atm_in {A C : Int → Bool × Int} {ok : Prop} (hA : g_in e A) (hC : g_in e C) : g_in e (g_atm f e A C ok) := by
  intro b h0 h1
  unfold g_atm
  obtain ⟨n1, n2, n3⟩ := tx_nb (f := f) h1
  by_cases h : tx_is f e b wo_not ∨ tx_k f e b = 40
  · rw [tif_t h]
    have n3 := n3 (by rcases h with h | h; · exact g_isb h
                      · exact tx_kne (f := f) (by omega))
    by_cases h2 : ok
    · rw [tif_t h2]
      by_cases h3 : tx_is f e b wo_not
      · rw [tif_t h3]
        obtain ⟨a1, a2, a3⟩ := hA _ (by omega) n2
        exact ⟨by omega, a2, fun _ => by omega⟩
      · rw [tif_f h3]
        obtain ⟨a1, a2, a3⟩ := hC _ (by omega) n2
        by_cases h4 : (C (tx_n f e b)).1 = true
        · rw [tif_t h4]
          by_cases h5 : tx_k f e (C (tx_n f e b)).2 = 41
          · rw [tif_t h5]
            obtain ⟨c1, c2, -⟩ := tx_nb (f := f) a2
            exact ⟨by show b ≤ tx_n f e (C (tx_n f e b)).2; omega, c2, fun _ => by show b + 1 ≤ tx_n f e (C (tx_n f e b)).2; omega⟩
          · rw [tif_f h5]
            exact ⟨by show b ≤ (C (tx_n f e b)).2; omega, a2, fun h => by cases h⟩
        · rw [tif_f h4]
          exact ⟨by omega, a2, fun h => absurd h h4⟩
    · rw [tif_f h2]
      exact ⟨Int.le_refl _, h1, fun h => by cases h⟩
  · rw [tif_f h]
    by_cases h2 : tx_is f e b wo_side ∨ tx_is f e b wo_first
    · rw [tif_t h2]
      have n3 := n3 (by rcases h2 with h | h <;> exact g_isb h)
      exact ⟨n1, n2, fun _ => n3⟩
    · rw [tif_f h2]
      obtain ⟨a1, a2, a3⟩ := g_sum_in (f := f) 400 b h0 h1
      by_cases h3 : (g_sum f e 400 b).1 = true
      · rw [tif_t h3]
        have a3 := a3 h3
        by_cases h4 : tx_k f e (g_sum f e 400 b).2 = 60 ∨ tx_k f e (g_sum f e 400 b).2 = 62
        · rw [tif_t h4]
          obtain ⟨c1, c2, -⟩ := tx_nb (f := f) a2
          obtain ⟨d1, d2, -⟩ := g_sum_in (f := f) 400 (tx_n f e (g_sum f e 400 b).2) (by omega) c2
          exact ⟨by omega, d2, fun _ => by omega⟩
        · rw [tif_f h4]
          exact ⟨a1, a2, fun h => by cases h⟩
      · rw [tif_f h3]
        exact ⟨a1, a2, fun h => absurd h h3⟩
theorem g_no_in : g_in e (fun b => (false, b)) := fun b _ h1 => ⟨Int.le_refl _, h1, fun h => by cases h⟩
theorem g_at_in : ∀ k, g_in e (g_at f e k) := by
  intro k
  induction k with
  | zero => exact g_atm_in g_no_in g_no_in
  | succ k ih => exact g_atm_in ih (g_cnd_in ih 400)
theorem g_cd_in (k : Nat) : g_in e (g_cd f e k) := g_cnd_in (g_at_in k) 400
theorem g_if_in {b : Int} (h0 : 0 ≤ b) (h1 : b ≤ e) : b ≤ (g_if f e b).2 ∧ (g_if f e b).2 ≤ e := by
  unfold g_if
  by_cases h : tx_is f e b wo_if
  · rw [tif_t h]
    obtain ⟨n1, n2, -⟩ := tx_nb (f := f) h1
    obtain ⟨a1, a2, -⟩ := g_cd_in (f := f) 6 (tx_n f e b) (by omega) n2
    exact ⟨by omega, a2⟩
  · rw [tif_f h]
    exact ⟨Int.le_refl _, h1⟩
theorem g_line_in {b : Int} (h0 : 0 ≤ b) (h1 : b ≤ e) : b ≤ (g_line f e b).2 ∧ (g_line f e b).2 ≤ e := by
  unfold g_line
  obtain ⟨n1, n2, -⟩ := tx_nb (f := f) h1
  obtain ⟨m1, m2, -⟩ := tx_nb (f := f) n2
  by_cases h : tx_is f e b wo_open
  · rw [tif_t h]
    obtain ⟨a1, a2⟩ := g_if_in (f := f) (b := tx_n f e b) (by omega) n2
    exact ⟨by omega, a2⟩
  · rw [tif_f h]
    by_cases h2 : tx_is f e b wo_fast ∨ tx_is f e b wo_slow
    · rw [tif_t h2]
      by_cases h3 : g_nm f e (tx_n f e b)
      · rw [tif_t h3]
        obtain ⟨a1, a2⟩ := g_if_in (f := f) (b := tx_n f e (tx_n f e b)) (by omega) m2
        exact ⟨by omega, a2⟩
      · rw [tif_f h3]
        exact ⟨n1, n2⟩
    · rw [tif_f h2]
      exact ⟨Int.le_refl _, h1⟩
end GI
