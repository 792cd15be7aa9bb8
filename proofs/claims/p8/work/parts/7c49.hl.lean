/-! THE LAW'S OWN METHODS, on. -/
section HL49
variable {X : Int → Int} {LX d bc bs n : Nat} {K : gm_K} {R : gm_R} {M : gm_M} {Q : gm_Q}
end HL49
