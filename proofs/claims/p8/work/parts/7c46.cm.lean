/-! HOW AN ANSWER IS TOLD; FAULT. -/
/-- how an answer is told -/
theorem cf_v {q : Int × Int} {v : Int} {o2 : gm_O} {n2 : Nat} {K2 : gm_K} {R2 : gm_R} {M2 : gm_M} (hK : K2 245 = (2, 1)) (e : q = (0, v)) (ho : o2 = .inl (some (gm_vi 0))) : CF q.1 (oV q.1 q.2) o2 n2 K2 R2 (gm_uM M2 245 0 (gm_w v)) := by
  subst e
  subst ho
  refine ⟨hK, rfl, fun v2 h => ?_⟩
  have h : some v = some v2 := (if_pos rfl : oV 0 v = some v).symm.trans h
  cases h
  exact uM_at
theorem cf_x {q : Int × Int} {c : Int} {n2 : Nat} {K2 : gm_K} {R2 : gm_R} {M2 : gm_M} (hK : K2 245 = (2, 1)) (e : q = (c, 0)) (hc : ¬ c = 0) : CF q.1 (oV q.1 q.2) (.inl (some (gm_vi c))) n2 K2 R2 M2 := by
  subst e
  refine ⟨hK, rfl, fun v2 h => ?_⟩
  have h : (none : Option Int) = some v2 := (if_neg hc : oV c 0 = none).symm.trans h
  cases h
theorem rf_e {q : Int × Int} {c v x : Int} {n2 : Nat} {K2 : gm_K} {R2 : gm_R} {M2 : gm_M} (hK : K2 226 = (15, 0)) (e : q = (c, v)) (hx : c = 0 → x = v) (h0 : M2 226 0 = c) : RF q.1 q.2 (.inl (some (gm_vi x))) n2 K2 R2 M2 := by
  subst e
  exact ⟨hK, ⟨x, rfl, hx⟩, h0⟩
theorem tif_ir {P : Prop} {u v : Int × Int} (hu : gm_ir u.1) (hv : gm_ir v.1) : gm_ir (tif P u v).1 := tif_i (C := fun q : Int × Int => gm_ir q.1) hu hv
theorem k226 {n : Nat} {K : gm_K} {R : gm_R} (hE : E0 n K R) : K 226 = (15, 0) := (hE.1 226 (15, 0) (by decide +kernel)).2
section CM46
variable {X : Int → Int} {LX d bc bs n g z g1 : Nat} {la : Nat → Nat} {K : gm_K} {R : gm_R} {M : gm_M} {N : Int → Int} {lw : Option (List lln)} {A : List (Int → Int)} {im : Option ((Int → Int) × Option (List lln))} {t w : Int} {f : Int → Int} {a b c e : Int} {NC : Nat} {C Ln G : Int → Int}
end CM46
