/-! THE SAME HEAP, TOLD WITH OTHER NUMBERS: the end told by one judgement, its numbers by another. -/
/-- a cell's numbers, as far as it has any -/
noncomputable def mx_1 (K : gm_K) (M M' : gm_M) (k : Nat) : Prop := (((K k).1 = 0 ∨ (K k).1 = 1) → ∀ j : Nat, j < (K k).2 → Int32.ofInt (M k j) = Int32.ofInt (M' k j)) ∧ ((K k).1 = 2 → ∀ j : Nat, j < (K k).2 → Int64.ofInt (M k j) = Int64.ofInt (M' k j)) ∧ ∀ c j : Nat, (K k).1 = c + 4 → j < gm_nf c → ¬ gm_isr c j = true → Int32.ofInt (M k j) = Int32.ofInt (M' k j)
theorem mx_fs {α : Nat → Nat} {k c : Nat} {R : gm_R} {M M' : gm_M} (h : ∀ j : Nat, j < gm_nf c → ¬ gm_isr c j = true → Int32.ofInt (M k j) = Int32.ofInt (M' k j)) : gm_fs α R M' k c = gm_fs α R M k c := by
  unfold gm_fs
  refine List.map_congr_left fun j hj => ?_
  by_cases hr : gm_isr c j = true
  · rw [if_pos hr, if_pos hr]
  · rw [if_neg hr, if_neg hr, h j (List.mem_range.mp hj) hr]
theorem mx_at {D : va_G} {ti : Nat → ClassId} {α : Nat → Nat} {k a : Nat} {K : gm_K} {R : gm_R} {M M' : gm_M} {H : Heap} (h : mx_1 K M M' k) (hat : va_at D gm_cs (a, gm_en ti α K R M k) H) : va_at D gm_cs (a, gm_en ti α K R M' k) H := by
  obtain ⟨h1, h2, h3⟩ := h
  by_cases k0 : (K k).1 = 0
  · have e1 : ∀ M : gm_M, gm_en ti α K R M k = .inl (ti 0, (K k).2, .inl fun j => Int32.ofInt (M k j)) := fun M => by unfold gm_en; rw [k0]
    rw [e1] at hat ⊢
    have hat : H[a]? = some (arrV (ti 0) (K k).2 (fun j => .int (Int32.ofInt (M k (j : Int))))) := hat
    show H[a]? = some (arrV (ti 0) (K k).2 (fun j => .int (Int32.ofInt (M' k (j : Int)))))
    rw [hat]
    unfold arrV
    congr 3
    funext j
    show Value.int (Int32.ofInt (M k ((j.val : Nat) : Int))) = Value.int (Int32.ofInt (M' k ((j.val : Nat) : Int)))
    rw [h1 (Or.inl k0) j.val j.isLt]
  by_cases k1 : (K k).1 = 1
  · have e1 : ∀ M : gm_M, gm_en ti α K R M k = .inl (ti 1, (K k).2, .inl fun j => Int32.ofInt (M k j)) := fun M => by unfold gm_en; rw [k1]
    rw [e1] at hat ⊢
    have hat : H[a]? = some (arrV (ti 1) (K k).2 (fun j => .int (Int32.ofInt (M k (j : Int))))) := hat
    show H[a]? = some (arrV (ti 1) (K k).2 (fun j => .int (Int32.ofInt (M' k (j : Int)))))
    rw [hat]
    unfold arrV
    congr 3
    funext j
    show Value.int (Int32.ofInt (M k ((j.val : Nat) : Int))) = Value.int (Int32.ofInt (M' k ((j.val : Nat) : Int)))
    rw [h1 (Or.inr k1) j.val j.isLt]
  by_cases k2 : (K k).1 = 2
  · have e1 : ∀ M : gm_M, gm_en ti α K R M k = .inl (ti 2, (K k).2, .inr (.inl fun j => Int64.ofInt (M k j))) := fun M => by unfold gm_en; rw [k2]
    rw [e1] at hat ⊢
    have hat : H[a]? = some (arrV (ti 2) (K k).2 (fun j => .long (Int64.ofInt (M k (j : Int))))) := hat
    show H[a]? = some (arrV (ti 2) (K k).2 (fun j => .long (Int64.ofInt (M' k (j : Int)))))
    rw [hat]
    unfold arrV
    congr 3
    funext j
    show Value.long (Int64.ofInt (M k ((j.val : Nat) : Int))) = Value.long (Int64.ofInt (M' k ((j.val : Nat) : Int)))
    rw [h2 k2 j.val j.isLt]
  by_cases k3 : (K k).1 = 3
  · have e1 : gm_en ti α K R M' k = gm_en ti α K R M k := by unfold gm_en; rw [k3]
    rw [e1]
    exact hat
  · obtain ⟨c, hc⟩ : ∃ c, (K k).1 = c + 4 := ⟨(K k).1 - 4, by omega⟩
    rw [gm_en_obj hc] at hat ⊢
    rw [mx_fs (fun j hj hr => h3 c j hc hj hr)]
    exact hat
/-- the numbers of the end may be told otherwise -/
theorem gm_Wp_eqM {X : Int → Int} {LX d bc bs mi pc n : Nat} {L : gm_L} {st : List gm_V} {K : gm_K} {R : gm_R} {M : gm_M} {Q Q' : gm_Q} (h : gm_Wp X LX d bc bs mi pc L st n K R M Q') (hq : ∀ o n1 K1 R1 M1, Q' o n1 K1 R1 M1 → ∃ M9 : gm_M, (∀ k, 1 ≤ k → k ≤ n1 → mx_1 K1 M1 M9 k) ∧ Q o n1 K1 R1 M9) : gm_Wp X LX d bc bs mi pc L st n K R M Q := by
  intro p l e Rm s m args below meth c D ti adK adV A α0 n0 mc ms hcx hev hd hd2 hmc hms hA α H locs cells slots ls sv hxt hc1 hc2 hR hL hS T hT Xs
  obtain ⟨t, a1, o, b1, b2, b3⟩ := h p l e Rm s m args below meth c D ti adK adV A α0 n0 mc ms hcx hev hd hd2 hmc hms hA α H locs cells slots ls sv hxt hc1 hc2 hR hL hS T hT Xs
  refine ⟨t, a1, o, b1, b2, ?_⟩
  have mP : ∀ {α' : Nat → Nat} {n' : Nat} {K' : gm_K} {R' : gm_R} {M' M9 : gm_M}, (∀ k, 1 ≤ k → k ≤ n' → mx_1 K' M' M9 k) → va_P D gm_cs (gm_wl ti α' n' K' R' M') t.heap → va_P D gm_cs (gm_wl ti α' n' K' R' M9) t.heap := fun hm hp k q hq => by
    obtain ⟨g1, rfl⟩ := gm_wl_get hq
    exact mx_at (hm (k + 1) (by omega) (by omega)) (hp k _ (gm_wl_at (k := k + 1) (by omega) g1))
  have mD : ∀ {α' : Nat → Nat} {n' : Nat} {K' : gm_K} {R' : gm_R} {M' M9 : gm_M}, va_D A (gm_wl ti α' n' K' R' M') → va_D A (gm_wl ti α' n' K' R' M9) := fun {α' n' K' R' M' M9} hd => ⟨fun i j p q hp hq e => by
    obtain ⟨g1, rfl⟩ := gm_wl_get hp
    obtain ⟨g2, rfl⟩ := gm_wl_get hq
    exact hd.1 i j _ _ (gm_wl_at (k := i + 1) (by omega) g1) (gm_wl_at (k := j + 1) (by omega) g2) e, fun k q hq => by
    obtain ⟨g1, rfl⟩ := gm_wl_get hq
    have := hd.2 k _ (gm_wl_at (ti := ti) (α := α') (K := K') (R := R') (M := M') (k := k + 1) (by omega) g1)
    exact this⟩
  rcases b3 with ⟨⟨⟨v, u, α', n', K', R', M', e1, e2, e3, ex, ek, ep, ed, er⟩, e5⟩, e6⟩ | ⟨q, rfl, E1, ce, L1, ⟨⟨x, α', n', K', R', M', e1, e2, e3, ex, ek, ep, ed, er⟩, e5⟩, e6⟩
  · obtain ⟨M9, g1, g2⟩ := hq _ _ _ _ _ e3
    exact Or.inl ⟨⟨⟨v, u, α', n', K', R', M9, e1, e2, g2, ex, ek, mP g1 ep, mD ed, er⟩, e5⟩, e6⟩
  · obtain ⟨M9, g1, g2⟩ := hq _ _ _ _ _ e3
    exact Or.inr ⟨q, rfl, E1, ce, L1, ⟨⟨x, α', n', K', R', M9, e1, e2, g2, ex, ek, mP g1 ep, mD ed, er⟩, e5⟩, e6⟩
/-- old cells by the one, new ones by the other -/
noncomputable def mxM (n : Nat) (M2 M1 : gm_M) : gm_M := fun k j => if k ≤ n then M2 k j else M1 k j
theorem mxM_o {n k : Nat} {M2 M1 : gm_M} {j : Int} (h : k ≤ n) : mxM n M2 M1 k j = M2 k j := if_pos h
theorem mxM_n {n k : Nat} {M2 M1 : gm_M} {j : Int} (h : n < k) : mxM n M2 M1 k j = M1 k j := if_neg (by omega)
theorem mxM_1 {n n1 : Nat} {K1 K2 : gm_K} {M1 M2 : gm_M} (hd : dt_m n K1 M1 K2 M2) (hk : ∀ k, 1 ≤ k → k ≤ n → K1 k = K2 k) : ∀ k, 1 ≤ k → k ≤ n1 → mx_1 K1 M1 (mxM n M2 M1) k := fun k h1 _ => by
  by_cases hn : k ≤ n
  · obtain ⟨g1, g2, g3⟩ := hd k h1 hn (hk k h1 hn)
    refine ⟨fun h j hj => ?_, fun h j hj => ?_, fun c j h hj hr => ?_⟩
    · rw [mxM_o hn]; exact g1 h j hj
    · rw [mxM_o hn]; exact g2 h j hj
    · rw [mxM_o hn]; exact g3 c j h hj hr
  · refine ⟨fun h j hj => ?_, fun h j hj => ?_, fun c j h hj hr => ?_⟩ <;> rw [mxM_n (by omega)]
/-- two judgements of one run: how it ends by the first, the numbers by the second -/
theorem gm_Wp_mx {X : Int → Int} {LX d bc bs mi pc n : Nat} {L : gm_L} {st : List gm_V} {K : gm_K} {R : gm_R} {M : gm_M} {Q1 Q2 Q : gm_Q} (h1 : gm_Wp X LX d bc bs mi pc L st n K R M Q1) (h2 : gm_Wp X LX d bc bs mi pc L st n K R M Q2) (hq : ∀ o n1 K1 R1 M1 o2 n2 K2 R2 M2, Q1 o n1 K1 R1 M1 → Q2 o2 n2 K2 R2 M2 → dt_o o o2 → dt_m n K1 M1 K2 M2 → (∀ k, 1 ≤ k → k ≤ n → K1 k = K2 k) ∧ Q o n1 K1 R1 (mxM n M2 M1)) : gm_Wp X LX d bc bs mi pc L st n K R M Q :=
  gm_Wp_eqM (gm_Wp_and h1 h2) (fun o n1 K1 R1 M1 ⟨q1, o2, n2, K2, R2, M2, q2, ho, hm⟩ => ⟨mxM n M2 M1, mxM_1 hm (hq o n1 K1 R1 M1 o2 n2 K2 R2 M2 q1 q2 ho hm).1, (hq o n1 K1 R1 M1 o2 n2 K2 R2 M2 q1 q2 ho hm).2⟩)
