/-! WHAT A RIGHT TEXT OF A LAW TELLS IS A LAW: as many lines as told, each of them well formed. -/
section W5A
variable {f : Int → Int} {e b : Int}
theorem s_txt_len : ∀ (t : Nat) (b : Int), (g_txt f e t b).1 = true → 12 - (t : Int) + ((s_txt f e t b).length : Int) = (g_txt f e t b).2 := by
  intro t
  induction t with
  | zero => intro b h; cases h
  | succ t ih =>
    intro b h
    by_cases j6 : (g_line f e b).1 = true
    · by_cases k6 : tx_k f e (g_line f e b).2 = 256
      · rw [g_t1 j6 k6, s_t1 k6]
        show 12 - ((t + 1 : Nat) : Int) + ((1 : Nat) : Int) = 12 - (t : Int)
        omega
      · by_cases k9 : tx_k f e (g_line f e b).2 = 59
        · rw [g_t3 j6 k6 k9] at h ⊢
          rw [s_t3 k6 k9, List.length_cons]
          have := ih _ h
          omega
        · rw [g_t2 j6 k6 k9] at h
          cases h
    · rw [g_t0 j6] at h
      cases h
theorem s_law_len (h : (g_law f e).1 = true) : ((s_law f e).length : Int) = (g_law f e).2 := by
  by_cases n9 : tx_k f e (tx_g f e 0) = 256
  · rw [g_w0 n9, show s_law f e = [] from tif_t n9]
    rfl
  · rw [g_w1 n9] at h ⊢
    rw [show s_law f e = s_txt f e 12 (tx_g f e 0) from tif_f n9]
    have := s_txt_len 12 _ h
    omega
/-- a line well formed -/
def lwf (x : lln) : Prop := (0 ≤ x.1 ∧ x.1 ≤ 2) ∧ (0 ≤ x.2.1 ∧ x.2.1 ≤ 20) ∧ ∀ t, x.2.2 = some t → shg 32 t 0 1
theorem s_if_w (h0 : 0 ≤ b) (h1 : b ≤ e) (h : (g_if f e b).1 = true) : ∀ t, s_if f e b = some t → shg 32 t 0 1 := by
  intro t ht
  by_cases j : tx_is f e b wo_if
  · rw [g_f1 j] at h
    rw [s_f1 j] at ht
    cases ht
    have n1 := tx_nb (f := f) h1
    exact shg_mono (by decide) _ _ ((s_cd_ok (f := f) (e := e) 6 _ (by omega) n1.2.1 h).2 0)
  · rw [s_f0 j] at ht
    cases ht
theorem s_line_w (h0 : 0 ≤ b) (h1 : b ≤ e) (h : (g_line f e b).1 = true) : lwf (s_line f e b) := by
  have n1 := tx_nb (f := f) h1
  have n2 := tx_nb (f := f) n1.2.1
  by_cases jo : tx_is f e b wo_open
  · rw [g_n1 jo] at h
    rw [s_n1 jo]
    exact ⟨⟨(by decide : (0 : Int) ≤ 2), (by decide : (2 : Int) ≤ 2)⟩, ⟨(by decide : (0 : Int) ≤ 0), (by decide : (0 : Int) ≤ 20)⟩, s_if_w (by omega) n1.2.1 h⟩
  · by_cases jf : tx_is f e b wo_fast ∨ tx_is f e b wo_slow
    · by_cases jn : g_nm f e (tx_n f e b)
      · have hg := h
        have e9 : g_line f e b = g_if f e (tx_n f e (tx_n f e b)) := by
          unfold g_line
          rw [tif_f jo, tif_t jf, tif_t jn]
        rw [e9] at hg
        have w := s_if_w (by omega) n2.2.1 hg
        by_cases ja : tx_is f e b wo_fast
        · rw [s_n2 ja]
          exact ⟨⟨(by decide : (0 : Int) ≤ 0), (by decide : (0 : Int) ≤ 2)⟩, jn.2, w⟩
        · rw [s_n3 (jf.resolve_left ja)]
          exact ⟨⟨(by decide : (0 : Int) ≤ 1), (by decide : (1 : Int) ≤ 2)⟩, jn.2, w⟩
      · have e9 : g_line f e b = (false, tx_n f e b) := by
          unfold g_line
          rw [tif_f jo, tif_t jf, tif_f jn]
        rw [e9] at h
        cases h
    · have e9 : g_line f e b = (false, b) := by
        unfold g_line
        rw [tif_f jo, tif_f jf]
      rw [e9] at h
      cases h
theorem s_txt_w : ∀ (t : Nat) (b : Int), 0 ≤ b → b ≤ e → (g_txt f e t b).1 = true → ∀ x ∈ s_txt f e t b, lwf x := by
  intro t
  induction t with
  | zero => intro b _ _ h; cases h
  | succ t ih =>
    intro b h0 h1 h x hx
    by_cases j6 : (g_line f e b).1 = true
    · have w := s_line_w h0 h1 j6
      have l := g_line_in (f := f) h0 h1
      have n1 := tx_nb (f := f) l.2
      by_cases k6 : tx_k f e (g_line f e b).2 = 256
      · rw [s_t1 k6] at hx
        rw [List.mem_singleton.mp hx]
        exact w
      · by_cases k9 : tx_k f e (g_line f e b).2 = 59
        · rw [g_t3 j6 k6 k9] at h
          rw [s_t3 k6 k9] at hx
          rcases List.mem_cons.mp hx with rfl | hx
          · exact w
          · exact ih _ (by omega) n1.2.1 h x hx
        · rw [g_t2 j6 k6 k9] at h
          cases h
    · rw [g_t0 j6] at h
      cases h
/-- the law that is told -/
theorem s_law_w (he : 0 ≤ e) (h : (g_law f e).1 = true) : LW (s_law f e) := by
  have hl := s_law_len h
  have hb := (g_law_b (f := f) he).2.1 h
  refine ⟨by omega, fun k x hx => ?_⟩
  have hm : x ∈ s_law f e := List.mem_of_getElem? hx
  have : lwf x := by
    by_cases n9 : tx_k f e (tx_g f e 0) = 256
    · rw [show s_law f e = [] from tif_t n9] at hm
      cases hm
    · rw [g_w1 n9] at h
      rw [show s_law f e = s_txt f e 12 (tx_g f e 0) from tif_f n9] at hm
      obtain ⟨g1, g2, -⟩ := tx_gb (f := f) he
      exact s_txt_w 12 _ g1 g2 h x hm
  exact this
end W5A
