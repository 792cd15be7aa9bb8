/-! A FUNCTION, ONE NUMBER OF IT OTHERWISE. -/
def nup (V : Int → Int) (i v : Int) : Int → Int := fun j => if j = i then v else V j
theorem nup_s {M : gm_M} {V : Int → Int} {k : Nat} {i v : Int} (hV : M k = V) : gm_uM M k i v k = nup V i v := by
  subst hV
  funext j
  unfold gm_uM nup
  by_cases e : j = i
  · rw [if_pos ⟨rfl, e⟩, if_pos e]
  · rw [if_neg (fun hh => e hh.2), if_neg e]
theorem nup_at {V : Int → Int} {i v : Int} : nup V i v i = v := if_pos rfl
theorem nup_ne {V : Int → Int} {i j v : Int} (h : ¬ j = i) : nup V i v j = V j := if_neg h
